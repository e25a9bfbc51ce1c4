/-! the tokens of the text -/
theorem up2_2 (g : G2) (a k : Nat) (x y : Int32) : up2 (up2 g a k x) a k y = up2 g a k y := by funext b j; unfold up2; split <;> rfl
theorem up2_i {g : G2} {a k : Nat} {x : Int32} (h : g a k = x) : up2 g a k x = g := by
  funext b j
  unfold up2
  split
  · rename_i e; rw [e.1, e.2, h]
  · rfl
/-- a byte of the tape, as it lies in the text -/
def bSg (x : Nat) : Int32 := if x < 128 then nI x else nI x - 256
theorem bSg_b : ∀ x, x < 256 → (bSg x == 32 || bSg x == 10) = pB x := by decide +kernel
theorem bSg_l : ∀ x, x < 256 → (decide (97 ≤ bSg x) && decide (bSg x ≤ 122)) = pL x := by decide +kernel
theorem bSg_d : ∀ x, x < 256 → (decide (48 ≤ bSg x) && decide (bSg x ≤ 57)) = pD x := by decide +kernel
theorem bSg_n : ∀ x, x < 256 → ¬ x < 128 → bSg x < 0 := by decide +kernel
theorem bSg_e {x c : Nat} (hx : x < 256) (hc : c < 128) : bSg x = nI c ↔ x = c := by
  by_cases h : x < 128
  · unfold bSg; rw [if_pos h]; exact nI_eq (by omega) (by omega)
  · constructor
    · intro e
      have := bSg_n x hx h
      rw [e] at this
      exact absurd this (nI_pos (by omega))
    · intro e; omega
def sgB (y : Int32) : Bool := y == 40 || y == 41 || y == 42 || y == 43 || y == 45 || y == 47 || y == 59 || y == 60 || y == 61
theorem bSg_s : ∀ x, x < 256 → sgB (bSg x) = pS x := by decide +kernel
theorem bSg_k : ∀ x, x < 256 → pS x = true → bSg x = nI x := by decide +kernel
theorem bSg_v : ∀ x, x < 256 → pD x = true → bSg x = nI x ∧ 48 ≤ x ∧ x ≤ 57 := by decide +kernel
/-- the text of the tokens: n bytes f -/
def RTc (g : G2) (f : Nat → Nat) (n : Nat) : Prop := g 3 2 = nI n ∧ n ≤ 600 ∧ ∀ i, i < n → f i < 256 ∧ g 4 i = bSg (f i)
/-- the token that stands now -/
def Rtk (g : G2) (t : Tk) : Prop := g 3 3 = nI t.af ∧ g 3 4 = nI t.k ∧ g 3 5 = nI t.pl ∧ (t.k = 2 → g 3 6 = nI t.v ∧ g 3 7 = nI t.dg)
/-- what the tokens' next leaves as it was -/
def FTk (g h : G2) : Prop := (∀ y, y ≠ 3 → h y = g y) ∧ ∀ j, j < 3 → h 3 j = g 3 j
theorem FTk.rf (g : G2) : FTk g g := ⟨fun _ _ => rfl, fun _ _ => rfl⟩
theorem FTk.tr {g h k : G2} (h1 : FTk g h) (h2 : FTk h k) : FTk g k := ⟨fun y q => (h2.1 y q).trans (h1.1 y q), fun j q => (h2.2 j q).trans (h1.2 j q)⟩
theorem RTc.cg {g h : G2} {f : Nat → Nat} {n : Nat} (hT : RTc g f n) (F : FTk g h) : RTc h f n := ⟨by rw [F.2 2 (by decide)]; exact hT.1, hT.2.1, fun i hi => by rw [F.1 4 (by decide)]; exact hT.2.2 i hi⟩
theorem FTk.up (g : G2) {k : Nat} (x : Int32) (hk : 3 ≤ k) : FTk g (up2 g 3 k x) := ⟨fun y hy => up2_f _ _ _ _ hy, fun j hj => up2_k _ _ _ _ (by omega)⟩
theorem c_X9_isBlank0 {E : En} {d : Nat} {Q : QT} {X : XT} {g : G2} {x : Int32} (hq : Q (some (.int (b2i (x == 32 || x == 10)))) g) : M E md_X9_isBlank d [.int x] g Q X := by
  refine M.of _ rfl rfl (Nat.le_of_ble_eq_true rfl) ?_
  refine b_iload_n dX9_isBlank_0 rfl rfl ?_
  refine b_bipush (v := 32) dX9_isBlank_1 (by decide +kernel) ?_
  refine b_icmp_eq (tgt := 12) dX9_isBlank_3 (by decide) (fun h3 => ?_) (fun h3 => ?_)
  · refine b_iconst (v := 1) dX9_isBlank_12 (by decide +kernel) ?_
    refine b_goto (tgt := 17) dX9_isBlank_13 (by decide) ?_
    refine b_zret (Or.inr rfl) rfl (by decide) dX9_isBlank_17 ?_
    have e : (x == 32 || x == 10) = true := by simp_all
    rw [e] at hq; exact hq
  · refine b_iload_n dX9_isBlank_6 rfl rfl ?_
    refine b_bipush (v := 10) dX9_isBlank_7 (by decide +kernel) ?_
    refine b_icmp_ne (tgt := 16) dX9_isBlank_9 (by decide) (fun h9 => ?_) (fun h9 => ?_)
    · refine b_iconst (v := 0) dX9_isBlank_16 (by decide +kernel) ?_
      refine b_zret (Or.inl rfl) rfl (by decide) dX9_isBlank_17 ?_
      have e : (x == 32 || x == 10) = false := by simp_all
      rw [e] at hq; exact hq
    · refine b_iconst (v := 1) dX9_isBlank_12 (by decide +kernel) ?_
      refine b_goto (tgt := 17) dX9_isBlank_13 (by decide) ?_
      refine b_zret (Or.inr rfl) rfl (by decide) dX9_isBlank_17 ?_
      have e : (x == 32 || x == 10) = true := by simp_all
      rw [e] at hq; exact hq
theorem c_X9_isBlank {E : En} {d : Nat} {Q : QT} {X : XT} {g : G2} {x : Nat} (hx : x < 256) (hq : Q (some (.int (b2i (pB x)))) g) : M E md_X9_isBlank d [.int (bSg x)] g Q X := c_X9_isBlank0 (by rw [bSg_b x hx]; exact hq)
theorem c_X9_isLetter0 {E : En} {d : Nat} {Q : QT} {X : XT} {g : G2} {x : Int32} (hq : Q (some (.int (b2i (decide (97 ≤ x) && decide (x ≤ 122))))) g) : M E md_X9_isLetter d [.int x] g Q X := by
  refine M.of _ rfl rfl (Nat.le_of_ble_eq_true rfl) ?_
  refine b_iload_n dX9_isLetter_0 rfl rfl ?_
  refine b_bipush (v := 97) dX9_isLetter_1 (by decide +kernel) ?_
  refine b_icmp_lt (tgt := 16) dX9_isLetter_3 (by decide) (fun h3 => ?_) (fun h3 => ?_)
  · refine b_iconst (v := 0) dX9_isLetter_16 (by decide +kernel) ?_
    refine b_zret (Or.inl rfl) rfl (by decide) dX9_isLetter_17 ?_
    have e : (decide (97 ≤ x) && decide (x ≤ 122)) = false := by rw [decide_eq_false (Int32.not_le.mpr h3)]; rfl
    rw [e] at hq; exact hq
  · refine b_iload_n dX9_isLetter_6 rfl rfl ?_
    refine b_bipush (v := 122) dX9_isLetter_7 (by decide +kernel) ?_
    refine b_icmp_gt (tgt := 16) dX9_isLetter_9 (by decide) (fun h9 => ?_) (fun h9 => ?_)
    · refine b_iconst (v := 0) dX9_isLetter_16 (by decide +kernel) ?_
      refine b_zret (Or.inl rfl) rfl (by decide) dX9_isLetter_17 ?_
      have e : (decide (97 ≤ x) && decide (x ≤ 122)) = false := by rw [decide_eq_false (Int32.not_le.mpr h9), Bool.and_false]
      rw [e] at hq; exact hq
    · refine b_iconst (v := 1) dX9_isLetter_12 (by decide +kernel) ?_
      refine b_goto (tgt := 17) dX9_isLetter_13 (by decide) ?_
      refine b_zret (Or.inr rfl) rfl (by decide) dX9_isLetter_17 ?_
      have e : (decide (97 ≤ x) && decide (x ≤ 122)) = true := by rw [decide_eq_true (Int32.not_lt.mp h3), decide_eq_true (Int32.not_lt.mp h9)]; rfl
      rw [e] at hq; exact hq
theorem c_X9_isLetter {E : En} {d : Nat} {Q : QT} {X : XT} {g : G2} {x : Nat} (hx : x < 256) (hq : Q (some (.int (b2i (pL x)))) g) : M E md_X9_isLetter d [.int (bSg x)] g Q X := c_X9_isLetter0 (by rw [bSg_l x hx]; exact hq)
theorem c_X9_isDigit0 {E : En} {d : Nat} {Q : QT} {X : XT} {g : G2} {x : Int32} (hq : Q (some (.int (b2i (decide (48 ≤ x) && decide (x ≤ 57))))) g) : M E md_X9_isDigit d [.int x] g Q X := by
  refine M.of _ rfl rfl (Nat.le_of_ble_eq_true rfl) ?_
  refine b_iload_n dX9_isDigit_0 rfl rfl ?_
  refine b_bipush (v := 48) dX9_isDigit_1 (by decide +kernel) ?_
  refine b_icmp_lt (tgt := 16) dX9_isDigit_3 (by decide) (fun h3 => ?_) (fun h3 => ?_)
  · refine b_iconst (v := 0) dX9_isDigit_16 (by decide +kernel) ?_
    refine b_zret (Or.inl rfl) rfl (by decide) dX9_isDigit_17 ?_
    have e : (decide (48 ≤ x) && decide (x ≤ 57)) = false := by rw [decide_eq_false (Int32.not_le.mpr h3)]; rfl
    rw [e] at hq; exact hq
  · refine b_iload_n dX9_isDigit_6 rfl rfl ?_
    refine b_bipush (v := 57) dX9_isDigit_7 (by decide +kernel) ?_
    refine b_icmp_gt (tgt := 16) dX9_isDigit_9 (by decide) (fun h9 => ?_) (fun h9 => ?_)
    · refine b_iconst (v := 0) dX9_isDigit_16 (by decide +kernel) ?_
      refine b_zret (Or.inl rfl) rfl (by decide) dX9_isDigit_17 ?_
      have e : (decide (48 ≤ x) && decide (x ≤ 57)) = false := by rw [decide_eq_false (Int32.not_le.mpr h9), Bool.and_false]
      rw [e] at hq; exact hq
    · refine b_iconst (v := 1) dX9_isDigit_12 (by decide +kernel) ?_
      refine b_goto (tgt := 17) dX9_isDigit_13 (by decide) ?_
      refine b_zret (Or.inr rfl) rfl (by decide) dX9_isDigit_17 ?_
      have e : (decide (48 ≤ x) && decide (x ≤ 57)) = true := by rw [decide_eq_true (Int32.not_lt.mp h3), decide_eq_true (Int32.not_lt.mp h9)]; rfl
      rw [e] at hq; exact hq
theorem c_X9_isDigit {E : En} {d : Nat} {Q : QT} {X : XT} {g : G2} {x : Nat} (hx : x < 256) (hq : Q (some (.int (b2i (pD x)))) g) : M E md_X9_isDigit d [.int (bSg x)] g Q X := c_X9_isDigit0 (by rw [bSg_d x hx]; exact hq)
theorem c_X9_isSign0 {E : En} {d : Nat} {Q : QT} {X : XT} {g : G2} {x : Int32} (hq : Q (some (.int (b2i (sgB x)))) g) : M E md_X9_isSign d [.int x] g Q X := by
  refine M.of _ rfl rfl (Nat.le_of_ble_eq_true rfl) ?_
  refine b_iload_n dX9_isSign_0 rfl rfl ?_
  by_cases k40 : x = 40
  · subst k40
    refine b_tableIn (off := 103) (tgt := 104) dX9_isSign_1 (by decide +kernel) (by decide +kernel) (by decide +kernel) (by decide) ?_
    refine b_iconst (v := 1) dX9_isSign_104 (by decide +kernel) ?_
    refine b_zret (Or.inr rfl) rfl (by decide) dX9_isSign_105 ?_
    exact hq
  by_cases k41 : x = 41
  · subst k41
    refine b_tableIn (off := 103) (tgt := 104) dX9_isSign_1 (by decide +kernel) (by decide +kernel) (by decide +kernel) (by decide) ?_
    refine b_iconst (v := 1) dX9_isSign_104 (by decide +kernel) ?_
    refine b_zret (Or.inr rfl) rfl (by decide) dX9_isSign_105 ?_
    exact hq
  by_cases k42 : x = 42
  · subst k42
    refine b_tableIn (off := 103) (tgt := 104) dX9_isSign_1 (by decide +kernel) (by decide +kernel) (by decide +kernel) (by decide) ?_
    refine b_iconst (v := 1) dX9_isSign_104 (by decide +kernel) ?_
    refine b_zret (Or.inr rfl) rfl (by decide) dX9_isSign_105 ?_
    exact hq
  by_cases k43 : x = 43
  · subst k43
    refine b_tableIn (off := 103) (tgt := 104) dX9_isSign_1 (by decide +kernel) (by decide +kernel) (by decide +kernel) (by decide) ?_
    refine b_iconst (v := 1) dX9_isSign_104 (by decide +kernel) ?_
    refine b_zret (Or.inr rfl) rfl (by decide) dX9_isSign_105 ?_
    exact hq
  by_cases k44 : x = 44
  · subst k44
    refine b_tableIn (off := 105) (tgt := 106) dX9_isSign_1 (by decide +kernel) (by decide +kernel) (by decide +kernel) (by decide) ?_
    refine b_iconst (v := 0) dX9_isSign_106 (by decide +kernel) ?_
    refine b_zret (Or.inl rfl) rfl (by decide) dX9_isSign_107 ?_
    exact hq
  by_cases k45 : x = 45
  · subst k45
    refine b_tableIn (off := 103) (tgt := 104) dX9_isSign_1 (by decide +kernel) (by decide +kernel) (by decide +kernel) (by decide) ?_
    refine b_iconst (v := 1) dX9_isSign_104 (by decide +kernel) ?_
    refine b_zret (Or.inr rfl) rfl (by decide) dX9_isSign_105 ?_
    exact hq
  by_cases k46 : x = 46
  · subst k46
    refine b_tableIn (off := 105) (tgt := 106) dX9_isSign_1 (by decide +kernel) (by decide +kernel) (by decide +kernel) (by decide) ?_
    refine b_iconst (v := 0) dX9_isSign_106 (by decide +kernel) ?_
    refine b_zret (Or.inl rfl) rfl (by decide) dX9_isSign_107 ?_
    exact hq
  by_cases k47 : x = 47
  · subst k47
    refine b_tableIn (off := 103) (tgt := 104) dX9_isSign_1 (by decide +kernel) (by decide +kernel) (by decide +kernel) (by decide) ?_
    refine b_iconst (v := 1) dX9_isSign_104 (by decide +kernel) ?_
    refine b_zret (Or.inr rfl) rfl (by decide) dX9_isSign_105 ?_
    exact hq
  by_cases k48 : x = 48
  · subst k48
    refine b_tableIn (off := 105) (tgt := 106) dX9_isSign_1 (by decide +kernel) (by decide +kernel) (by decide +kernel) (by decide) ?_
    refine b_iconst (v := 0) dX9_isSign_106 (by decide +kernel) ?_
    refine b_zret (Or.inl rfl) rfl (by decide) dX9_isSign_107 ?_
    exact hq
  by_cases k49 : x = 49
  · subst k49
    refine b_tableIn (off := 105) (tgt := 106) dX9_isSign_1 (by decide +kernel) (by decide +kernel) (by decide +kernel) (by decide) ?_
    refine b_iconst (v := 0) dX9_isSign_106 (by decide +kernel) ?_
    refine b_zret (Or.inl rfl) rfl (by decide) dX9_isSign_107 ?_
    exact hq
  by_cases k50 : x = 50
  · subst k50
    refine b_tableIn (off := 105) (tgt := 106) dX9_isSign_1 (by decide +kernel) (by decide +kernel) (by decide +kernel) (by decide) ?_
    refine b_iconst (v := 0) dX9_isSign_106 (by decide +kernel) ?_
    refine b_zret (Or.inl rfl) rfl (by decide) dX9_isSign_107 ?_
    exact hq
  by_cases k51 : x = 51
  · subst k51
    refine b_tableIn (off := 105) (tgt := 106) dX9_isSign_1 (by decide +kernel) (by decide +kernel) (by decide +kernel) (by decide) ?_
    refine b_iconst (v := 0) dX9_isSign_106 (by decide +kernel) ?_
    refine b_zret (Or.inl rfl) rfl (by decide) dX9_isSign_107 ?_
    exact hq
  by_cases k52 : x = 52
  · subst k52
    refine b_tableIn (off := 105) (tgt := 106) dX9_isSign_1 (by decide +kernel) (by decide +kernel) (by decide +kernel) (by decide) ?_
    refine b_iconst (v := 0) dX9_isSign_106 (by decide +kernel) ?_
    refine b_zret (Or.inl rfl) rfl (by decide) dX9_isSign_107 ?_
    exact hq
  by_cases k53 : x = 53
  · subst k53
    refine b_tableIn (off := 105) (tgt := 106) dX9_isSign_1 (by decide +kernel) (by decide +kernel) (by decide +kernel) (by decide) ?_
    refine b_iconst (v := 0) dX9_isSign_106 (by decide +kernel) ?_
    refine b_zret (Or.inl rfl) rfl (by decide) dX9_isSign_107 ?_
    exact hq
  by_cases k54 : x = 54
  · subst k54
    refine b_tableIn (off := 105) (tgt := 106) dX9_isSign_1 (by decide +kernel) (by decide +kernel) (by decide +kernel) (by decide) ?_
    refine b_iconst (v := 0) dX9_isSign_106 (by decide +kernel) ?_
    refine b_zret (Or.inl rfl) rfl (by decide) dX9_isSign_107 ?_
    exact hq
  by_cases k55 : x = 55
  · subst k55
    refine b_tableIn (off := 105) (tgt := 106) dX9_isSign_1 (by decide +kernel) (by decide +kernel) (by decide +kernel) (by decide) ?_
    refine b_iconst (v := 0) dX9_isSign_106 (by decide +kernel) ?_
    refine b_zret (Or.inl rfl) rfl (by decide) dX9_isSign_107 ?_
    exact hq
  by_cases k56 : x = 56
  · subst k56
    refine b_tableIn (off := 105) (tgt := 106) dX9_isSign_1 (by decide +kernel) (by decide +kernel) (by decide +kernel) (by decide) ?_
    refine b_iconst (v := 0) dX9_isSign_106 (by decide +kernel) ?_
    refine b_zret (Or.inl rfl) rfl (by decide) dX9_isSign_107 ?_
    exact hq
  by_cases k57 : x = 57
  · subst k57
    refine b_tableIn (off := 105) (tgt := 106) dX9_isSign_1 (by decide +kernel) (by decide +kernel) (by decide +kernel) (by decide) ?_
    refine b_iconst (v := 0) dX9_isSign_106 (by decide +kernel) ?_
    refine b_zret (Or.inl rfl) rfl (by decide) dX9_isSign_107 ?_
    exact hq
  by_cases k58 : x = 58
  · subst k58
    refine b_tableIn (off := 105) (tgt := 106) dX9_isSign_1 (by decide +kernel) (by decide +kernel) (by decide +kernel) (by decide) ?_
    refine b_iconst (v := 0) dX9_isSign_106 (by decide +kernel) ?_
    refine b_zret (Or.inl rfl) rfl (by decide) dX9_isSign_107 ?_
    exact hq
  by_cases k59 : x = 59
  · subst k59
    refine b_tableIn (off := 103) (tgt := 104) dX9_isSign_1 (by decide +kernel) (by decide +kernel) (by decide +kernel) (by decide) ?_
    refine b_iconst (v := 1) dX9_isSign_104 (by decide +kernel) ?_
    refine b_zret (Or.inr rfl) rfl (by decide) dX9_isSign_105 ?_
    exact hq
  by_cases k60 : x = 60
  · subst k60
    refine b_tableIn (off := 103) (tgt := 104) dX9_isSign_1 (by decide +kernel) (by decide +kernel) (by decide +kernel) (by decide) ?_
    refine b_iconst (v := 1) dX9_isSign_104 (by decide +kernel) ?_
    refine b_zret (Or.inr rfl) rfl (by decide) dX9_isSign_105 ?_
    exact hq
  by_cases k61 : x = 61
  · subst k61
    refine b_tableIn (off := 103) (tgt := 104) dX9_isSign_1 (by decide +kernel) (by decide +kernel) (by decide +kernel) (by decide) ?_
    refine b_iconst (v := 1) dX9_isSign_104 (by decide +kernel) ?_
    refine b_zret (Or.inr rfl) rfl (by decide) dX9_isSign_105 ?_
    exact hq
  refine b_tableOut (tgt := 106) dX9_isSign_1 ?_ (by decide) ?_
  · have j40 : ¬ (x).toInt = 40 := fun q => k40 (Int32.toInt_inj.mp q); have j41 : ¬ (x).toInt = 41 := fun q => k41 (Int32.toInt_inj.mp q); have j42 : ¬ (x).toInt = 42 := fun q => k42 (Int32.toInt_inj.mp q); have j43 : ¬ (x).toInt = 43 := fun q => k43 (Int32.toInt_inj.mp q); have j44 : ¬ (x).toInt = 44 := fun q => k44 (Int32.toInt_inj.mp q); have j45 : ¬ (x).toInt = 45 := fun q => k45 (Int32.toInt_inj.mp q); have j46 : ¬ (x).toInt = 46 := fun q => k46 (Int32.toInt_inj.mp q); have j47 : ¬ (x).toInt = 47 := fun q => k47 (Int32.toInt_inj.mp q); have j48 : ¬ (x).toInt = 48 := fun q => k48 (Int32.toInt_inj.mp q); have j49 : ¬ (x).toInt = 49 := fun q => k49 (Int32.toInt_inj.mp q); have j50 : ¬ (x).toInt = 50 := fun q => k50 (Int32.toInt_inj.mp q); have j51 : ¬ (x).toInt = 51 := fun q => k51 (Int32.toInt_inj.mp q); have j52 : ¬ (x).toInt = 52 := fun q => k52 (Int32.toInt_inj.mp q); have j53 : ¬ (x).toInt = 53 := fun q => k53 (Int32.toInt_inj.mp q); have j54 : ¬ (x).toInt = 54 := fun q => k54 (Int32.toInt_inj.mp q); have j55 : ¬ (x).toInt = 55 := fun q => k55 (Int32.toInt_inj.mp q); have j56 : ¬ (x).toInt = 56 := fun q => k56 (Int32.toInt_inj.mp q); have j57 : ¬ (x).toInt = 57 := fun q => k57 (Int32.toInt_inj.mp q); have j58 : ¬ (x).toInt = 58 := fun q => k58 (Int32.toInt_inj.mp q); have j59 : ¬ (x).toInt = 59 := fun q => k59 (Int32.toInt_inj.mp q); have j60 : ¬ (x).toInt = 60 := fun q => k60 (Int32.toInt_inj.mp q); have j61 : ¬ (x).toInt = 61 := fun q => k61 (Int32.toInt_inj.mp q); omega
  refine b_iconst (v := 0) dX9_isSign_106 (by decide +kernel) ?_
  refine b_zret (Or.inl rfl) rfl (by decide) dX9_isSign_107 ?_
  have e : sgB x = false := by simp only [sgB, Bool.or_eq_false_iff, beq_eq_false_iff_ne]; exact ⟨⟨⟨⟨⟨⟨⟨⟨k40, k41⟩, k42⟩, k43⟩, k45⟩, k47⟩, k59⟩, k60⟩, k61⟩
  rw [e] at hq; exact hq
theorem c_X9_isSign {E : En} {d : Nat} {Q : QT} {X : XT} {g : G2} {x : Nat} (hx : x < 256) (hq : Q (some (.int (b2i (pS x)))) g) : M E md_X9_isSign d [.int (bSg x)] g Q X := c_X9_isSign0 (by rw [bSg_s x hx]; exact hq)
theorem c_X9_passLetters {E : En} {d : Nat} {Q : QT} {X : XT} {g : G2} {f : Nat → Nat} {n p : Nat} (hT : RTc g f n) (h3 : g 3 3 = nI p) (hp : p ≤ n) (hq : Q none (up2 g 3 3 (nI (sk pL f n p)))) : M E md_X9_passLetters (d + 1) [.ref 3] g Q X := by
  refine M.of _ rfl rfl (Nat.le_of_ble_eq_true rfl) ?_
  have hn := hT.2.1
  have key : ∀ i, i ≤ n → p ≤ i → (∀ j, p ≤ j → j < i → j < n ∧ pL (f j) = true) → B E md_X9_passLetters (d + 1) Q X 0 [(0, .ref 3)] [] (up2 g 3 3 (nI i)) 0 := by
    refine lp_up (P := fun i => p ≤ i → (∀ j, p ≤ j → j < i → j < n ∧ pL (f j) = true) → B E md_X9_passLetters (d + 1) Q X 0 [(0, .ref 3)] [] (up2 g 3 3 (nI i)) 0) (fun i hi ih h1 h2 => ?_)
    refine b_aload_n dX9_passLetters_0 rfl rfl ?_
    refine b_getI lf_X9_22 rfl dX9_passLetters_1 ?_
    refine b_topE (by rw [up2_s]) ?_
    refine b_aload_n dX9_passLetters_4 rfl rfl ?_
    refine b_getI lf_X9_19 rfl dX9_passLetters_5 ?_
    refine b_topE (y := nI n) (by rw [up2_k _ _ _ _ (by decide)]; exact hT.1) ?_
    refine b_icmp_ge (tgt := 39) dX9_passLetters_8 (by decide) (fun h8 => ?_) (fun h8 => ?_)
    · have e8 : n ≤ i := nn_le (a := n) (b := i) (by omega) (by omega) h8
      refine b_vret rfl (by decide) dX9_passLetters_39 ?_
      rw [sk_eq h1 h2 (fun q => absurd q (by omega))] at hq
      exact hq
    · have e8 : i < n := nn_nle (a := n) (b := i) (by omega) (by omega) h8
      refine b_aload_n dX9_passLetters_11 rfl rfl ?_
      refine b_getR (b := 4) lf_X9_9 rfl rfl dX9_passLetters_12 ?_
      refine b_aload_n dX9_passLetters_15 rfl rfl ?_
      refine b_getI lf_X9_22 rfl dX9_passLetters_16 ?_
      refine b_topE (by rw [up2_s]) ?_
      refine b_bldN (j := i) dX9_passLetters_19 (rfl) (by show _ < 600; omega) ?_
      refine b_topE (y := (bSg (f i))) (by rw [up2_f _ _ _ _ (by decide)]; exact (hT.2.2 i (by omega)).2) ?_
      refine b_callS (As := [_]) (st := []) dX9_passLetters_20 lk_X9_50 lm_X9_isLetter ls_X9_isLetter rfl rfl (Nat.le_of_ble_eq_true rfl) (Nat.le_refl _) (by decide) ?_
      refine c_X9_isLetter (hT.2.2 i (by omega)).1 ?_
      refine b_if_eq (tgt := 39) dX9_passLetters_23 (by decide) (fun h23 => ?_) (fun h23 => ?_)
      · have e23 := b2i_0 h23
        rw [sk_eq h1 h2 (fun _ => e23)] at hq
        exact b_vret rfl (by decide) dX9_passLetters_39 hq
      · have e23 := b2i_1 h23
        refine b_aload_n dX9_passLetters_26 rfl rfl ?_
        refine b_dup dX9_passLetters_27 rfl ?_
        refine b_getI lf_X9_22 rfl dX9_passLetters_28 ?_
        refine b_topE (by rw [up2_s]) ?_
        refine b_iconst (v := 1) dX9_passLetters_31 (by decide +kernel) ?_
        refine b_iadd dX9_passLetters_32 ?_
        refine b_topE (nI_add i 1) ?_
        refine b_putI lf_X9_22 lp_9_3 rfl dX9_passLetters_33 ?_
        rw [up2_2]
        refine b_goto (tgt := 0) dX9_passLetters_36 (by decide) ?_
        refine ih (i + 1) (by omega) (by omega) (by omega) (fun j a b => ?_)
        rcases Nat.lt_or_ge j i with q | q
        · exact h2 j a q
        · rw [show j = i by omega]; exact ⟨e8, e23⟩
  have := key p hp (Nat.le_refl _) (fun j a b => absurd b (by omega))
  rwa [up2_i h3] at this
theorem c_X9_readNumber {E : En} {d : Nat} {Q : QT} {X : XT} {g : G2} {f : Nat → Nat} {n p : Nat} (hT : RTc g f n) (h3 : g 3 3 = nI p) (hp : p ≤ n) (hq : ∀ h, FTk g h → h 3 5 = g 3 5 → h 3 3 = nI (sk pD f n p) → h 3 4 = 2 → h 3 6 = nI (vD f p (min (sk pD f n p - p) 4)) → h 3 7 = nI (sk pD f n p - p) → Q none h) : M E md_X9_readNumber (d + 1) [.ref 3] g Q X := by
  refine M.of _ rfl rfl (Nat.le_of_ble_eq_true rfl) ?_
  have hn := hT.2.1
  have key : ∀ i, i ≤ n → p ≤ i → (∀ j, p ≤ j → j < i → j < n ∧ pD (f j) = true) → ∀ h, FTk g h → h 3 5 = g 3 5 → h 3 3 = nI i → h 3 4 = 2 → h 3 6 = nI (vD f p (min (i - p) 4)) → h 3 7 = nI (i - p) → B E md_X9_readNumber (d + 1) Q X 15 [(0, .ref 3)] [] h 0 := by
    refine lp_up (P := fun i => p ≤ i → (∀ j, p ≤ j → j < i → j < n ∧ pD (f j) = true) → ∀ h, FTk g h → h 3 5 = g 3 5 → h 3 3 = nI i → h 3 4 = 2 → h 3 6 = nI (vD f p (min (i - p) 4)) → h 3 7 = nI (i - p) → B E md_X9_readNumber (d + 1) Q X 15 [(0, .ref 3)] [] h 0) (fun i hi ih h1 h2 h a1 a2 a3 a4 a5 a6 => ?_)
    have hT1 := hT.cg a1
    have hvd : vD f p (min (i - p) 4) < 10000 := Nat.lt_of_lt_of_le (vD_lt _ (fun j hj => (h2 (p + j) (by omega) (by omega)).2)) (Nat.pow_le_pow_right (n := 10) (by decide) (by omega : min (i - p) 4 ≤ 4))
    refine b_aload_n dX9_readNumber_15 rfl rfl ?_
    refine b_getI lf_X9_22 rfl dX9_readNumber_16 ?_
    refine b_topE (a3) ?_
    refine b_aload_n dX9_readNumber_19 rfl rfl ?_
    refine b_getI lf_X9_19 rfl dX9_readNumber_20 ?_
    refine b_topE (hT1.1) ?_
    refine b_icmp_ge (tgt := 96) dX9_readNumber_23 (by decide) (fun h23 => ?_) (fun h23 => ?_)
    · have e23 : n ≤ i := nn_le (a := n) (b := i) (by omega) (by omega) h23
      refine b_vret rfl (by decide) dX9_readNumber_96 ?_
      rw [sk_eq h1 h2 (fun q => absurd q (by omega))] at hq
      exact hq h a1 a2 a3 a4 a5 a6
    · have e23 : i < n := nn_nle (a := n) (b := i) (by omega) (by omega) h23
      refine b_aload_n dX9_readNumber_26 rfl rfl ?_
      refine b_getR (b := 4) lf_X9_9 rfl rfl dX9_readNumber_27 ?_
      refine b_aload_n dX9_readNumber_30 rfl rfl ?_
      refine b_getI lf_X9_22 rfl dX9_readNumber_31 ?_
      refine b_topE (a3) ?_
      refine b_bldN (j := i) dX9_readNumber_34 (rfl) (by show _ < 600; omega) ?_
      refine b_topE (y := (bSg (f i))) ((hT1.2.2 i (by omega)).2) ?_
      refine b_callS (As := [_]) (st := []) dX9_readNumber_35 lk_X9_60 lm_X9_isDigit ls_X9_isDigit rfl rfl (Nat.le_of_ble_eq_true rfl) (Nat.le_refl _) (by decide) ?_
      refine c_X9_isDigit (hT1.2.2 i (by omega)).1 ?_
      refine b_if_eq (tgt := 96) dX9_readNumber_38 (by decide) (fun h38 => ?_) (fun h38 => ?_)
      · have e38 := b2i_0 h38
        refine b_vret rfl (by decide) dX9_readNumber_96 ?_
        rw [sk_eq h1 h2 (fun q => e38)] at hq
        exact hq h a1 a2 a3 a4 a5 a6
      · have e38 := b2i_1 h38
        have hdg := bSg_v (f i) (hT1.2.2 i (by omega)).1 e38
        refine b_aload_n dX9_readNumber_41 rfl rfl ?_
        refine b_dup dX9_readNumber_42 rfl ?_
        refine b_getI lf_X9_34 rfl dX9_readNumber_43 ?_
        refine b_topE (a6) ?_
        refine b_iconst (v := 1) dX9_readNumber_46 (by decide +kernel) ?_
        refine b_iadd dX9_readNumber_47 ?_
        refine b_topE (nI_add ((i - p)) 1) ?_
        refine b_putI lf_X9_34 lp_9_7 rfl dX9_readNumber_48 ?_
        refine b_aload_n dX9_readNumber_51 rfl rfl ?_
        refine b_getI lf_X9_34 rfl dX9_readNumber_52 ?_
        refine b_topE (by rw [up2_s]) ?_
        refine b_iconst (v := 4) dX9_readNumber_55 (by decide +kernel) ?_
        refine b_icmp_gt (tgt := 83) dX9_readNumber_56 (by decide) (fun h56 => ?_) (fun h56 => ?_)
        · have e56 : 4 < (((i - p) + 1)) := nn_lt (a := 4) (b := (((i - p) + 1))) (by omega) (by omega) h56
          refine b_aload_n dX9_readNumber_83 rfl rfl ?_
          refine b_dup dX9_readNumber_84 rfl ?_
          refine b_getI lf_X9_22 rfl dX9_readNumber_85 ?_
          refine b_topE (y := nI i) (by rw [up2_k _ _ _ _ (by decide)]; exact a3) ?_
          refine b_iconst (v := 1) dX9_readNumber_88 (by decide +kernel) ?_
          refine b_iadd dX9_readNumber_89 ?_
          refine b_topE (nI_add i 1) ?_
          refine b_putI lf_X9_22 lp_9_3 rfl dX9_readNumber_90 ?_
          refine b_goto (tgt := 15) dX9_readNumber_93 (by decide) ?_
          refine ih (i + 1) (by omega) (by omega) (by omega) (fun j a b => ?_) _ (FTk.tr a1 (FTk.tr (FTk.up _ _ (by decide)) (FTk.up _ _ (by decide)))) ?_ ?_ ?_ ?_ ?_
          · rcases Nat.lt_or_ge j i with q | q
            · exact h2 j a q
            · rw [show j = i by omega]; exact ⟨e23, e38⟩
          · rw [up2_k _ _ _ _ (by decide), up2_k _ _ _ _ (by decide)]; exact a2
          · exact up2_s _ _ _ _
          · rw [up2_k _ _ _ _ (by decide), up2_k _ _ _ _ (by decide)]; exact a4
          · rw [show min (i + 1 - p) 4 = min (i - p) 4 by omega, up2_k _ _ _ _ (by decide), up2_k _ _ _ _ (by decide)]; exact a5
          · rw [show i + 1 - p = i - p + 1 by omega, up2_k _ _ _ _ (by decide), up2_s]
        · have e56 : (((i - p) + 1)) ≤ 4 := nn_nlt (a := 4) (b := (((i - p) + 1))) (by omega) (by omega) h56
          refine b_aload_n dX9_readNumber_59 rfl rfl ?_
          refine b_aload_n dX9_readNumber_60 rfl rfl ?_
          refine b_getI lf_X9_31 rfl dX9_readNumber_61 ?_
          refine b_topE (y := nI (vD f p (min (i - p) 4))) (by rw [up2_k _ _ _ _ (by decide)]; exact a5) ?_
          refine b_bipush (v := 10) dX9_readNumber_64 (by decide +kernel) ?_
          refine b_imul dX9_readNumber_66 ?_
          refine b_topE (nI_mul (vD f p (min (i - p) 4)) 10) ?_
          refine b_aload_n dX9_readNumber_67 rfl rfl ?_
          refine b_getR (b := 4) lf_X9_9 rfl rfl dX9_readNumber_68 ?_
          refine b_aload_n dX9_readNumber_71 rfl rfl ?_
          refine b_getI lf_X9_22 rfl dX9_readNumber_72 ?_
          refine b_topE (y := nI i) (by rw [up2_k _ _ _ _ (by decide)]; exact a3) ?_
          refine b_bldN (j := i) dX9_readNumber_75 (rfl) (by show _ < 600; omega) ?_
          refine b_topE (y := nI (f i)) (by rw [up2_f _ _ _ _ (by decide)]; exact (hT1.2.2 i (by omega)).2.trans hdg.1) ?_
          refine b_iadd dX9_readNumber_76 ?_
          refine b_topE (nI_add ((vD f p (min (i - p) 4) * 10)) (f i)) ?_
          refine b_bipush (v := 48) dX9_readNumber_77 (by decide +kernel) ?_
          refine b_isub dX9_readNumber_79 ?_
          refine b_topE (nI_sub (((vD f p (min (i - p) 4) * 10) + f i)) 48 (by omega)) ?_
          refine b_putI lf_X9_31 lp_9_6 rfl dX9_readNumber_80 ?_
          refine b_aload_n dX9_readNumber_83 rfl rfl ?_
          refine b_dup dX9_readNumber_84 rfl ?_
          refine b_getI lf_X9_22 rfl dX9_readNumber_85 ?_
          refine b_topE (y := nI i) (by rw [up2_k _ _ _ _ (by decide), up2_k _ _ _ _ (by decide)]; exact a3) ?_
          refine b_iconst (v := 1) dX9_readNumber_88 (by decide +kernel) ?_
          refine b_iadd dX9_readNumber_89 ?_
          refine b_topE (nI_add i 1) ?_
          refine b_putI lf_X9_22 lp_9_3 rfl dX9_readNumber_90 ?_
          refine b_goto (tgt := 15) dX9_readNumber_93 (by decide) ?_
          refine ih (i + 1) (by omega) (by omega) (by omega) (fun j a b => ?_) _ (FTk.tr a1 (FTk.tr (FTk.tr (FTk.up _ _ (by decide)) (FTk.up _ _ (by decide))) (FTk.up _ _ (by decide)))) ?_ ?_ ?_ ?_ ?_
          · rcases Nat.lt_or_ge j i with q | q
            · exact h2 j a q
            · rw [show j = i by omega]; exact ⟨e23, e38⟩
          · rw [up2_k _ _ _ _ (by decide), up2_k _ _ _ _ (by decide), up2_k _ _ _ _ (by decide)]; exact a2
          · exact up2_s _ _ _ _
          · rw [up2_k _ _ _ _ (by decide), up2_k _ _ _ _ (by decide), up2_k _ _ _ _ (by decide)]; exact a4
          · rw [show min (i + 1 - p) 4 = (i - p) + 1 by omega, vD, show p + (i - p) = i by omega, up2_k _ _ _ _ (by decide), up2_s, show min (i - p) 4 = i - p by omega]; exact congrArg nI (by omega)
          · rw [show i + 1 - p = i - p + 1 by omega, up2_k _ _ _ _ (by decide), up2_k _ _ _ _ (by decide), up2_s]
  refine b_aload_n dX9_readNumber_0 rfl rfl ?_
  refine b_iconst (v := 2) dX9_readNumber_1 (by decide +kernel) ?_
  refine b_putI lf_X9_25 lp_9_4 rfl dX9_readNumber_2 ?_
  refine b_aload_n dX9_readNumber_5 rfl rfl ?_
  refine b_iconst (v := 0) dX9_readNumber_6 (by decide +kernel) ?_
  refine b_putI lf_X9_31 lp_9_6 rfl dX9_readNumber_7 ?_
  refine b_aload_n dX9_readNumber_10 rfl rfl ?_
  refine b_iconst (v := 0) dX9_readNumber_11 (by decide +kernel) ?_
  refine b_putI lf_X9_34 lp_9_7 rfl dX9_readNumber_12 ?_
  refine key p hp (Nat.le_refl _) (fun j a b => absurd b (by omega)) _ (FTk.tr (FTk.tr (FTk.up _ _ (by decide)) (FTk.up _ _ (by decide))) (FTk.up _ _ (by decide))) (by rw [up2_k _ _ _ _ (by decide), up2_k _ _ _ _ (by decide), up2_k _ _ _ _ (by decide)]) (by rw [up2_k _ _ _ _ (by decide), up2_k _ _ _ _ (by decide), up2_k _ _ _ _ (by decide)]; exact h3) (by rw [up2_k _ _ _ _ (by decide), up2_k _ _ _ _ (by decide), up2_s]) ?_ ?_
  · rw [Nat.sub_self, up2_k _ _ _ _ (by decide), up2_s]; rfl
  · rw [Nat.sub_self]; exact up2_s _ _ _ _
theorem eqP_iff {f : Nat → Nat} : ∀ {w : List Nat} {p : Nat}, eqP f p w = true ↔ ∀ j, j < w.length → f (p + j) = w.getD j 0
  | [], p => ⟨fun _ j hj => absurd hj (by simp), fun _ => rfl⟩
  | x :: r, p => by
    simp only [eqP, Bool.and_eq_true, beq_iff_eq, eqP_iff (w := r) (p := p + 1)]
    constructor
    · rintro ⟨h1, h2⟩ j hj
      cases j with
      | zero => exact h1
      | succ j => rw [← Nat.add_assoc, Nat.add_right_comm]; exact h2 j (by simpa using hj)
    · intro h
      exact ⟨h 0 (by simp), fun j hj => by have := h (j + 1) (by simpa using hj); rw [← Nat.add_assoc, Nat.add_right_comm] at this; exact this⟩
theorem mapD {w : List Nat} {j : Nat} (h : j < w.length) : (w.map nI).getD j 0 = nI (w.getD j 0) := by
  simp [List.getD, List.getElem?_eq_getElem h]
/-- a word and its string -/
def strW (q : Nat × Nat × List Int32) (w : List Nat) : Prop := q.2.1 = w.length ∧ q.2.2 = w.map nI ∧ w.length < 20 ∧ ∀ x ∈ w, x < 128
theorem strW_at {q : Nat × Nat × List Int32} {w : List Nat} {j : Nat} (h : strW q w) (hj : j < w.length) : q.2.2.getD j 0 = nI (w.getD j 0) ∧ w.getD j 0 < 128 := by
  refine ⟨by rw [h.2.1]; exact mapD hj, h.2.2.2 _ ?_⟩
  simp only [List.getD, List.getElem?_eq_getElem hj, Option.getD_some]
  exact List.getElem_mem _
theorem c_X9_spells {E : En} {d : Nat} {Q : QT} {X : XT} {g : G2} {f : Nat → Nat} {n p af : Nat} {q : Nat × Nat × List Int32} {w : List Nat} (hs : q ∈ strC) (hw : strW q w) (hT : RTc g f n) (h3 : g 3 3 = nI af) (h5 : g 3 5 = nI p) (hp : p ≤ af) (ha : af ≤ n) (hq : Q (some (.int (b2i (eqW f p af w)))) g) : M E md_X9_spells (d + 4) [.ref 3, .ref (1000 + q.1)] g Q X := by
  refine M.of _ rfl rfl (Nat.le_of_ble_eq_true rfl) ?_
  have hn := hT.2.1
  have hw2 := hw.2.2.1
  refine b_aload_n dX9_spells_0 rfl rfl ?_
  refine b_getI lf_X9_22 rfl dX9_spells_1 ?_
  refine b_topE (h3) ?_
  refine b_aload_n dX9_spells_4 rfl rfl ?_
  refine b_getI lf_X9_28 rfl dX9_spells_5 ?_
  refine b_topE (h5) ?_
  refine b_isub dX9_spells_8 ?_
  refine b_topE (nI_sub af p (by omega)) ?_
  refine b_aload_n dX9_spells_9 rfl rfl ?_
  refine b_callT (q := q) (As := []) (st := [_]) hs dX9_spells_10 lk_X9_106 lm_J0_length_8abf5 lv_J0_length_8abf5 rfl rfl rfl (Nat.le_of_ble_eq_true rfl) (Nat.le_refl _) (by decide) ?_
  refine c_str_length (d := d + 2) hs ?_
  rw [hw.1]
  refine b_icmp_eq (tgt := 18) dX9_spells_13 (by decide) (fun h13 => ?_) (fun h13 => ?_)
  · have e13 : ((af - p)) = w.length := nI_inj (a := ((af - p))) (b := w.length) (by omega) (by omega) h13
    refine b_iconst (v := 0) dX9_spells_18 (by decide +kernel) ?_
    refine b_istore_n (lv' := [(0, _), (1, _), (2, _)]) dX9_spells_19 rfl (by decide) rfl rfl ?_
    have hl : af - p = w.length := e13
    have key : ∀ i, i ≤ w.length → (∀ j, j < i → f (p + j) = w.getD j 0) → B E md_X9_spells (d + 4) Q X 20 [(0, .ref 3), (1, .ref (1000 + q.1)), (2, .int (nI i))] [] g 0 := by
      refine lp_up (P := fun i => (∀ j, j < i → f (p + j) = w.getD j 0) → B E md_X9_spells (d + 4) Q X 20 [(0, .ref 3), (1, .ref (1000 + q.1)), (2, .int (nI i))] [] g 0) (fun i hi ih h2 => ?_)
      refine b_iload_n dX9_spells_20 rfl rfl ?_
      refine b_aload_n dX9_spells_21 rfl rfl ?_
      refine b_callT (q := q) (As := []) (st := [_]) hs dX9_spells_22 lk_X9_106 lm_J0_length_8abf5 lv_J0_length_8abf5 rfl rfl rfl (Nat.le_of_ble_eq_true rfl) (Nat.le_refl _) (by decide) ?_
      refine c_str_length (d := d + 2) hs ?_
      rw [hw.1]
      refine b_icmp_ge (tgt := 55) dX9_spells_25 (by decide) (fun h25 => ?_) (fun h25 => ?_)
      · have e25 : w.length ≤ i := nn_le (a := w.length) (b := i) (by omega) (by omega) h25
        refine b_iconst (v := 1) dX9_spells_55 (by decide +kernel) ?_
        refine b_zret (Or.inr rfl) rfl (by decide) dX9_spells_56 ?_
        rw [show eqW f p af w = true from by unfold eqW; rw [eqP_iff.mpr (fun j hj => h2 j (by omega)), Bool.and_true]; exact beq_iff_eq.mpr hl] at hq
        exact hq
      · have e25 : i < w.length := nn_nle (a := w.length) (b := i) (by omega) (by omega) h25
        refine b_aload_n dX9_spells_28 rfl rfl ?_
        refine b_getR (b := 4) lf_X9_9 rfl rfl dX9_spells_29 ?_
        refine b_aload_n dX9_spells_32 rfl rfl ?_
        refine b_getI lf_X9_28 rfl dX9_spells_33 ?_
        refine b_topE (h5) ?_
        refine b_iload_n dX9_spells_36 rfl rfl ?_
        refine b_iadd dX9_spells_37 ?_
        refine b_topE (nI_add p i) ?_
        refine b_bldN (j := (p + i)) dX9_spells_38 (rfl) (by show _ < 600; omega) ?_
        refine b_topE (y := (bSg (f (p + i)))) ((hT.2.2 (p + i) (by omega)).2) ?_
        refine b_aload_n dX9_spells_39 rfl rfl ?_
        refine b_iload_n dX9_spells_40 rfl rfl ?_
        refine b_callT (q := q) (As := [_]) (st := [_]) hs dX9_spells_41 lk_X9_110 lm_J0_charAt_5068e lv_J0_charAt_5068e rfl rfl rfl (Nat.le_of_ble_eq_true rfl) (Nat.le_refl _) (by decide) ?_
        refine c_str_charAt (d := d) hs (by rw [hw.1]; exact e25) ?_
        rw [(strW_at hw e25).1]
        refine b_icmp_eq (tgt := 49) dX9_spells_44 (by decide) (fun h44 => ?_) (fun h44 => ?_)
        · have e44 := (bSg_e (hT.2.2 (p + i) (by omega)).1 (strW_at hw e25).2).mp h44
          refine b_incN (j := i) (lv' := [(0, _), (1, _), (2, _)]) dX9_spells_49 rfl rfl (by decide) rfl rfl ?_
          refine b_goto (tgt := 20) dX9_spells_52 (by decide) ?_
          refine ih (i + 1) (by omega) (by omega) (fun j hj => ?_)
          rcases Nat.lt_or_ge j i with q9 | q9
          · exact h2 j q9
          · rw [show j = i by omega]; exact e44
        · have e44 : ¬ f (p + i) = w.getD i 0 := fun q => h44 ((bSg_e (hT.2.2 (p + i) (by omega)).1 (strW_at hw e25).2).mpr q)
          refine b_iconst (v := 0) dX9_spells_47 (by decide +kernel) ?_
          refine b_zret (Or.inl rfl) rfl (by decide) dX9_spells_48 ?_
          rw [show eqW f p af w = false from by unfold eqW; rw [Bool.and_eq_false_iff]; right; exact Bool.eq_false_iff.mpr (fun q => e44 (eqP_iff.mp q i e25))] at hq
          exact hq
    exact key 0 (Nat.zero_le _) (fun j hj => absurd hj (by omega))
  · have e13 : ((af - p)) ≠ w.length := fun q => h13 (congrArg nI q)
    refine b_iconst (v := 0) dX9_spells_16 (by decide +kernel) ?_
    refine b_zret (Or.inl rfl) rfl (by decide) dX9_spells_17 ?_
    rw [show eqW f p af w = false from by unfold eqW; rw [beq_eq_false_iff_ne.mpr e13]; rfl] at hq
    exact hq
theorem c_X9_wordKind {E : En} {d : Nat} {Q : QT} {X : XT} {g : G2} {f : Nat → Nat} {n p af : Nat} (hT : RTc g f n) (h3 : g 3 3 = nI af) (h5 : g 3 5 = nI p) (hp : p ≤ af) (ha : af ≤ n) (hq : Q (some (.int (nI (wk f p af)))) g) : M E md_X9_wordKind (d + 5) [.ref 3] g Q X := by
  refine M.of _ rfl rfl (Nat.le_of_ble_eq_true rfl) ?_
  refine b_aload_n dX9_wordKind_0 rfl rfl ?_
  refine b_ldcS (tx := "elder") (n := 12) (by decide +kernel) dX9_wordKind_1 ?_
  refine b_callV (As := [_]) (st := []) dX9_wordKind_3 lk_X9_71 lm_X9_spells lv_X9_spells rfl (by decide) rfl rfl rfl (Nat.le_of_ble_eq_true rfl) (Nat.le_refl _) (by decide) ?_
  refine c_X9_spells (q := (12, 5, [101, 108, 100, 101, 114])) (w := [101, 108, 100, 101, 114]) (by decide +kernel) ⟨rfl, rfl, by decide, by decide⟩ hT h3 h5 hp ha ?_
  refine b_if_eq (tgt := 12) dX9_wordKind_6 (by decide) (fun h6 => ?_) (fun h6 => ?_)
  · have e6 := b2i_0 h6
    refine b_aload_n dX9_wordKind_12 rfl rfl ?_
    refine b_ldcS (tx := "child") (n := 13) (by decide +kernel) dX9_wordKind_13 ?_
    refine b_callV (As := [_]) (st := []) dX9_wordKind_15 lk_X9_71 lm_X9_spells lv_X9_spells rfl (by decide) rfl rfl rfl (Nat.le_of_ble_eq_true rfl) (Nat.le_refl _) (by decide) ?_
    refine c_X9_spells (q := (13, 5, [99, 104, 105, 108, 100])) (w := [99, 104, 105, 108, 100]) (by decide +kernel) ⟨rfl, rfl, by decide, by decide⟩ hT h3 h5 hp ha ?_
    refine b_if_eq (tgt := 24) dX9_wordKind_18 (by decide) (fun h18 => ?_) (fun h18 => ?_)
    · have e18 := b2i_0 h18
      refine b_aload_n dX9_wordKind_24 rfl rfl ?_
      refine b_ldcS (tx := "deaf") (n := 14) (by decide +kernel) dX9_wordKind_25 ?_
      refine b_callV (As := [_]) (st := []) dX9_wordKind_27 lk_X9_71 lm_X9_spells lv_X9_spells rfl (by decide) rfl rfl rfl (Nat.le_of_ble_eq_true rfl) (Nat.le_refl _) (by decide) ?_
      refine c_X9_spells (q := (14, 4, [100, 101, 97, 102])) (w := [100, 101, 97, 102]) (by decide +kernel) ⟨rfl, rfl, by decide, by decide⟩ hT h3 h5 hp ha ?_
      refine b_if_eq (tgt := 36) dX9_wordKind_30 (by decide) (fun h30 => ?_) (fun h30 => ?_)
      · have e30 := b2i_0 h30
        refine b_aload_n dX9_wordKind_36 rfl rfl ?_
        refine b_ldcS (tx := "spy") (n := 15) (by decide +kernel) dX9_wordKind_37 ?_
        refine b_callV (As := [_]) (st := []) dX9_wordKind_39 lk_X9_71 lm_X9_spells lv_X9_spells rfl (by decide) rfl rfl rfl (Nat.le_of_ble_eq_true rfl) (Nat.le_refl _) (by decide) ?_
        refine c_X9_spells (q := (15, 3, [115, 112, 121])) (w := [115, 112, 121]) (by decide +kernel) ⟨rfl, rfl, by decide, by decide⟩ hT h3 h5 hp ha ?_
        refine b_if_eq (tgt := 48) dX9_wordKind_42 (by decide) (fun h42 => ?_) (fun h42 => ?_)
        · have e42 := b2i_0 h42
          refine b_aload_n dX9_wordKind_48 rfl rfl ?_
          refine b_ldcS (tx := "feud") (n := 16) (by decide +kernel) dX9_wordKind_49 ?_
          refine b_callV (As := [_]) (st := []) dX9_wordKind_51 lk_X9_71 lm_X9_spells lv_X9_spells rfl (by decide) rfl rfl rfl (Nat.le_of_ble_eq_true rfl) (Nat.le_refl _) (by decide) ?_
          refine c_X9_spells (q := (16, 4, [102, 101, 117, 100])) (w := [102, 101, 117, 100]) (by decide +kernel) ⟨rfl, rfl, by decide, by decide⟩ hT h3 h5 hp ha ?_
          refine b_if_eq (tgt := 60) dX9_wordKind_54 (by decide) (fun h54 => ?_) (fun h54 => ?_)
          · have e54 := b2i_0 h54
            refine b_aload_n dX9_wordKind_60 rfl rfl ?_
            refine b_ldcS (tx := "other") (n := 17) (by decide +kernel) dX9_wordKind_61 ?_
            refine b_callV (As := [_]) (st := []) dX9_wordKind_63 lk_X9_71 lm_X9_spells lv_X9_spells rfl (by decide) rfl rfl rfl (Nat.le_of_ble_eq_true rfl) (Nat.le_refl _) (by decide) ?_
            refine c_X9_spells (q := (17, 5, [111, 116, 104, 101, 114])) (w := [111, 116, 104, 101, 114]) (by decide +kernel) ⟨rfl, rfl, by decide, by decide⟩ hT h3 h5 hp ha ?_
            refine b_if_eq (tgt := 72) dX9_wordKind_66 (by decide) (fun h66 => ?_) (fun h66 => ?_)
            · have e66 := b2i_0 h66
              refine b_aload_n dX9_wordKind_72 rfl rfl ?_
              refine b_ldcS (tx := "sings") (n := 18) (by decide +kernel) dX9_wordKind_73 ?_
              refine b_callV (As := [_]) (st := []) dX9_wordKind_75 lk_X9_71 lm_X9_spells lv_X9_spells rfl (by decide) rfl rfl rfl (Nat.le_of_ble_eq_true rfl) (Nat.le_refl _) (by decide) ?_
              refine c_X9_spells (q := (18, 5, [115, 105, 110, 103, 115])) (w := [115, 105, 110, 103, 115]) (by decide +kernel) ⟨rfl, rfl, by decide, by decide⟩ hT h3 h5 hp ha ?_
              refine b_if_eq (tgt := 84) dX9_wordKind_78 (by decide) (fun h78 => ?_) (fun h78 => ?_)
              · have e78 := b2i_0 h78
                refine b_aload_n dX9_wordKind_84 rfl rfl ?_
                refine b_ldcS (tx := "or") (n := 19) (by decide +kernel) dX9_wordKind_85 ?_
                refine b_callV (As := [_]) (st := []) dX9_wordKind_87 lk_X9_71 lm_X9_spells lv_X9_spells rfl (by decide) rfl rfl rfl (Nat.le_of_ble_eq_true rfl) (Nat.le_refl _) (by decide) ?_
                refine c_X9_spells (q := (19, 2, [111, 114])) (w := [111, 114]) (by decide +kernel) ⟨rfl, rfl, by decide, by decide⟩ hT h3 h5 hp ha ?_
                refine b_if_eq (tgt := 96) dX9_wordKind_90 (by decide) (fun h90 => ?_) (fun h90 => ?_)
                · have e90 := b2i_0 h90
                  refine b_aload_n dX9_wordKind_96 rfl rfl ?_
                  refine b_ldcS (tx := "and") (n := 20) (by decide +kernel) dX9_wordKind_97 ?_
                  refine b_callV (As := [_]) (st := []) dX9_wordKind_99 lk_X9_71 lm_X9_spells lv_X9_spells rfl (by decide) rfl rfl rfl (Nat.le_of_ble_eq_true rfl) (Nat.le_refl _) (by decide) ?_
                  refine c_X9_spells (q := (20, 3, [97, 110, 100])) (w := [97, 110, 100]) (by decide +kernel) ⟨rfl, rfl, by decide, by decide⟩ hT h3 h5 hp ha ?_
                  refine b_if_eq (tgt := 108) dX9_wordKind_102 (by decide) (fun h102 => ?_) (fun h102 => ?_)
                  · have e102 := b2i_0 h102
                    refine b_aload_n dX9_wordKind_108 rfl rfl ?_
                    refine b_ldcS (tx := "not") (n := 21) (by decide +kernel) dX9_wordKind_109 ?_
                    refine b_callV (As := [_]) (st := []) dX9_wordKind_111 lk_X9_71 lm_X9_spells lv_X9_spells rfl (by decide) rfl rfl rfl (Nat.le_of_ble_eq_true rfl) (Nat.le_refl _) (by decide) ?_
                    refine c_X9_spells (q := (21, 3, [110, 111, 116])) (w := [110, 111, 116]) (by decide +kernel) ⟨rfl, rfl, by decide, by decide⟩ hT h3 h5 hp ha ?_
                    refine b_if_eq (tgt := 120) dX9_wordKind_114 (by decide) (fun h114 => ?_) (fun h114 => ?_)
                    · have e114 := b2i_0 h114
                      refine b_aload_n dX9_wordKind_120 rfl rfl ?_
                      refine b_ldcS (tx := "key") (n := 22) (by decide +kernel) dX9_wordKind_121 ?_
                      refine b_callV (As := [_]) (st := []) dX9_wordKind_123 lk_X9_71 lm_X9_spells lv_X9_spells rfl (by decide) rfl rfl rfl (Nat.le_of_ble_eq_true rfl) (Nat.le_refl _) (by decide) ?_
                      refine c_X9_spells (q := (22, 3, [107, 101, 121])) (w := [107, 101, 121]) (by decide +kernel) ⟨rfl, rfl, by decide, by decide⟩ hT h3 h5 hp ha ?_
                      refine b_if_eq (tgt := 132) dX9_wordKind_126 (by decide) (fun h126 => ?_) (fun h126 => ?_)
                      · have e126 := b2i_0 h126
                        refine b_aload_n dX9_wordKind_132 rfl rfl ?_
                        refine b_ldcS (tx := "year") (n := 23) (by decide +kernel) dX9_wordKind_133 ?_
                        refine b_callV (As := [_]) (st := []) dX9_wordKind_135 lk_X9_71 lm_X9_spells lv_X9_spells rfl (by decide) rfl rfl rfl (Nat.le_of_ble_eq_true rfl) (Nat.le_refl _) (by decide) ?_
                        refine c_X9_spells (q := (23, 4, [121, 101, 97, 114])) (w := [121, 101, 97, 114]) (by decide +kernel) ⟨rfl, rfl, by decide, by decide⟩ hT h3 h5 hp ha ?_
                        refine b_if_eq (tgt := 144) dX9_wordKind_138 (by decide) (fun h138 => ?_) (fun h138 => ?_)
                        · have e138 := b2i_0 h138
                          refine b_aload_n dX9_wordKind_144 rfl rfl ?_
                          refine b_ldcS (tx := "base") (n := 24) (by decide +kernel) dX9_wordKind_145 ?_
                          refine b_callV (As := [_]) (st := []) dX9_wordKind_147 lk_X9_71 lm_X9_spells lv_X9_spells rfl (by decide) rfl rfl rfl (Nat.le_of_ble_eq_true rfl) (Nat.le_refl _) (by decide) ?_
                          refine c_X9_spells (q := (24, 4, [98, 97, 115, 101])) (w := [98, 97, 115, 101]) (by decide +kernel) ⟨rfl, rfl, by decide, by decide⟩ hT h3 h5 hp ha ?_
                          refine b_if_eq (tgt := 156) dX9_wordKind_150 (by decide) (fun h150 => ?_) (fun h150 => ?_)
                          · have e150 := b2i_0 h150
                            refine b_aload_n dX9_wordKind_156 rfl rfl ?_
                            refine b_ldcS (tx := "last") (n := 25) (by decide +kernel) dX9_wordKind_157 ?_
                            refine b_callV (As := [_]) (st := []) dX9_wordKind_159 lk_X9_71 lm_X9_spells lv_X9_spells rfl (by decide) rfl rfl rfl (Nat.le_of_ble_eq_true rfl) (Nat.le_refl _) (by decide) ?_
                            refine c_X9_spells (q := (25, 4, [108, 97, 115, 116])) (w := [108, 97, 115, 116]) (by decide +kernel) ⟨rfl, rfl, by decide, by decide⟩ hT h3 h5 hp ha ?_
                            refine b_if_eq (tgt := 168) dX9_wordKind_162 (by decide) (fun h162 => ?_) (fun h162 => ?_)
                            · have e162 := b2i_0 h162
                              refine b_aload_n dX9_wordKind_168 rfl rfl ?_
                              refine b_ldcS (tx := "house") (n := 26) (by decide +kernel) dX9_wordKind_169 ?_
                              refine b_callV (As := [_]) (st := []) dX9_wordKind_171 lk_X9_71 lm_X9_spells lv_X9_spells rfl (by decide) rfl rfl rfl (Nat.le_of_ble_eq_true rfl) (Nat.le_refl _) (by decide) ?_
                              refine c_X9_spells (q := (26, 5, [104, 111, 117, 115, 101])) (w := [104, 111, 117, 115, 101]) (by decide +kernel) ⟨rfl, rfl, by decide, by decide⟩ hT h3 h5 hp ha ?_
                              refine b_if_eq (tgt := 180) dX9_wordKind_174 (by decide) (fun h174 => ?_) (fun h174 => ?_)
                              · have e174 := b2i_0 h174
                                refine b_aload_n dX9_wordKind_180 rfl rfl ?_
                                refine b_ldcS (tx := "kind") (n := 27) (by decide +kernel) dX9_wordKind_181 ?_
                                refine b_callV (As := [_]) (st := []) dX9_wordKind_183 lk_X9_71 lm_X9_spells lv_X9_spells rfl (by decide) rfl rfl rfl (Nat.le_of_ble_eq_true rfl) (Nat.le_refl _) (by decide) ?_
                                refine c_X9_spells (q := (27, 4, [107, 105, 110, 100])) (w := [107, 105, 110, 100]) (by decide +kernel) ⟨rfl, rfl, by decide, by decide⟩ hT h3 h5 hp ha ?_
                                refine b_if_eq (tgt := 192) dX9_wordKind_186 (by decide) (fun h186 => ?_) (fun h186 => ?_)
                                · have e186 := b2i_0 h186
                                  refine b_aload_n dX9_wordKind_192 rfl rfl ?_
                                  refine b_ldcS (tx := "sung") (n := 28) (by decide +kernel) dX9_wordKind_193 ?_
                                  refine b_callV (As := [_]) (st := []) dX9_wordKind_195 lk_X9_71 lm_X9_spells lv_X9_spells rfl (by decide) rfl rfl rfl (Nat.le_of_ble_eq_true rfl) (Nat.le_refl _) (by decide) ?_
                                  refine c_X9_spells (q := (28, 4, [115, 117, 110, 103])) (w := [115, 117, 110, 103]) (by decide +kernel) ⟨rfl, rfl, by decide, by decide⟩ hT h3 h5 hp ha ?_
                                  refine b_if_eq (tgt := 204) dX9_wordKind_198 (by decide) (fun h198 => ?_) (fun h198 => ?_)
                                  · have e198 := b2i_0 h198
                                    refine b_bipush (v := 99) dX9_wordKind_204 (by decide +kernel) ?_
                                    refine b_iret rfl (by decide) dX9_wordKind_206 ?_
                                    have e : wk f p af = 99 := by
                                      unfold wk
                                      simp only [wds, wkL, e6, e18, e30, e42, e54, e66, e78, e90, e102, e114, e126, e138, e150, e162, e174, e186, e198, Bool.false_eq_true, if_false]
                                    rw [e] at hq
                                    exact hq
                                  · have e198 := b2i_1 h198
                                    refine b_bipush (v := 116) dX9_wordKind_201 (by decide +kernel) ?_
                                    refine b_iret rfl (by decide) dX9_wordKind_203 ?_
                                    rw [(wk_iff (k := 116) (by decide +kernel)).mp e198] at hq
                                    exact hq
                                · have e186 := b2i_1 h186
                                  refine b_bipush (v := 115) dX9_wordKind_189 (by decide +kernel) ?_
                                  refine b_iret rfl (by decide) dX9_wordKind_191 ?_
                                  rw [(wk_iff (k := 115) (by decide +kernel)).mp e186] at hq
                                  exact hq
                              · have e174 := b2i_1 h174
                                refine b_bipush (v := 114) dX9_wordKind_177 (by decide +kernel) ?_
                                refine b_iret rfl (by decide) dX9_wordKind_179 ?_
                                rw [(wk_iff (k := 114) (by decide +kernel)).mp e174] at hq
                                exact hq
                            · have e162 := b2i_1 h162
                              refine b_bipush (v := 113) dX9_wordKind_165 (by decide +kernel) ?_
                              refine b_iret rfl (by decide) dX9_wordKind_167 ?_
                              rw [(wk_iff (k := 113) (by decide +kernel)).mp e162] at hq
                              exact hq
                          · have e150 := b2i_1 h150
                            refine b_bipush (v := 112) dX9_wordKind_153 (by decide +kernel) ?_
                            refine b_iret rfl (by decide) dX9_wordKind_155 ?_
                            rw [(wk_iff (k := 112) (by decide +kernel)).mp e150] at hq
                            exact hq
                        · have e138 := b2i_1 h138
                          refine b_bipush (v := 111) dX9_wordKind_141 (by decide +kernel) ?_
                          refine b_iret rfl (by decide) dX9_wordKind_143 ?_
                          rw [(wk_iff (k := 111) (by decide +kernel)).mp e138] at hq
                          exact hq
                      · have e126 := b2i_1 h126
                        refine b_bipush (v := 110) dX9_wordKind_129 (by decide +kernel) ?_
                        refine b_iret rfl (by decide) dX9_wordKind_131 ?_
                        rw [(wk_iff (k := 110) (by decide +kernel)).mp e126] at hq
                        exact hq
                    · have e114 := b2i_1 h114
                      refine b_bipush (v := 109) dX9_wordKind_117 (by decide +kernel) ?_
                      refine b_iret rfl (by decide) dX9_wordKind_119 ?_
                      rw [(wk_iff (k := 109) (by decide +kernel)).mp e114] at hq
                      exact hq
                  · have e102 := b2i_1 h102
                    refine b_bipush (v := 108) dX9_wordKind_105 (by decide +kernel) ?_
                    refine b_iret rfl (by decide) dX9_wordKind_107 ?_
                    rw [(wk_iff (k := 108) (by decide +kernel)).mp e102] at hq
                    exact hq
                · have e90 := b2i_1 h90
                  refine b_bipush (v := 107) dX9_wordKind_93 (by decide +kernel) ?_
                  refine b_iret rfl (by decide) dX9_wordKind_95 ?_
                  rw [(wk_iff (k := 107) (by decide +kernel)).mp e90] at hq
                  exact hq
              · have e78 := b2i_1 h78
                refine b_bipush (v := 106) dX9_wordKind_81 (by decide +kernel) ?_
                refine b_iret rfl (by decide) dX9_wordKind_83 ?_
                rw [(wk_iff (k := 106) (by decide +kernel)).mp e78] at hq
                exact hq
            · have e66 := b2i_1 h66
              refine b_bipush (v := 105) dX9_wordKind_69 (by decide +kernel) ?_
              refine b_iret rfl (by decide) dX9_wordKind_71 ?_
              rw [(wk_iff (k := 105) (by decide +kernel)).mp e66] at hq
              exact hq
          · have e54 := b2i_1 h54
            refine b_bipush (v := 104) dX9_wordKind_57 (by decide +kernel) ?_
            refine b_iret rfl (by decide) dX9_wordKind_59 ?_
            rw [(wk_iff (k := 104) (by decide +kernel)).mp e54] at hq
            exact hq
        · have e42 := b2i_1 h42
          refine b_bipush (v := 103) dX9_wordKind_45 (by decide +kernel) ?_
          refine b_iret rfl (by decide) dX9_wordKind_47 ?_
          rw [(wk_iff (k := 103) (by decide +kernel)).mp e42] at hq
          exact hq
      · have e30 := b2i_1 h30
        refine b_bipush (v := 102) dX9_wordKind_33 (by decide +kernel) ?_
        refine b_iret rfl (by decide) dX9_wordKind_35 ?_
        rw [(wk_iff (k := 102) (by decide +kernel)).mp e30] at hq
        exact hq
    · have e18 := b2i_1 h18
      refine b_bipush (v := 101) dX9_wordKind_21 (by decide +kernel) ?_
      refine b_iret rfl (by decide) dX9_wordKind_23 ?_
      rw [(wk_iff (k := 101) (by decide +kernel)).mp e18] at hq
      exact hq
  · have e6 := b2i_1 h6
    refine b_bipush (v := 100) dX9_wordKind_9 (by decide +kernel) ?_
    refine b_iret rfl (by decide) dX9_wordKind_11 ?_
    rw [(wk_iff (k := 100) (by decide +kernel)).mp e6] at hq
    exact hq
theorem c_X9_isWord {E : En} {d : Nat} {Q : QT} {X : XT} {g : G2} {t : Tk} (h4 : g 3 4 = nI t.k) (hb : t.k < 2 ^ 31) (hq : Q (some (.int (b2i (decide (99 ≤ t.k))))) g) : M E md_X9_isWord d [.ref 3] g Q X := by
  refine M.of _ rfl rfl (Nat.le_of_ble_eq_true rfl) ?_
  refine b_aload_n dX9_isWord_0 rfl rfl ?_
  refine b_getI lf_X9_25 rfl dX9_isWord_1 ?_
  refine b_topE (h4) ?_
  refine b_bipush (v := 99) dX9_isWord_4 (by decide +kernel) ?_
  refine b_icmp_lt (tgt := 13) dX9_isWord_6 (by decide) (fun h6 => ?_) (fun h6 => ?_)
  · have e6 : t.k < 99 := nn_lt (a := t.k) (b := 99) (by omega) (by omega) h6
    refine b_iconst (v := 0) dX9_isWord_13 (by decide +kernel) ?_
    refine b_zret (Or.inl rfl) rfl (by decide) dX9_isWord_14 ?_
    rw [show decide (99 ≤ t.k) = false from decide_eq_false (by omega)] at hq
    exact hq
  · have e6 : 99 ≤ t.k := nn_nlt (a := t.k) (b := 99) (by omega) (by omega) h6
    refine b_iconst (v := 1) dX9_isWord_9 (by decide +kernel) ?_
    refine b_goto (tgt := 14) dX9_isWord_10 (by decide) ?_
    refine b_zret (Or.inr rfl) rfl (by decide) dX9_isWord_14 ?_
    rw [show decide (99 ≤ t.k) = true from decide_eq_true (by omega)] at hq
    exact hq
theorem pS_2 {x : Nat} (h : pS x = true) : ¬ x = 2 := by rintro rfl; revert h; decide
theorem c_X9_next {E : En} {d : Nat} {Q : QT} {X : XT} {g : G2} {f : Nat → Nat} {n p : Nat} (hT : RTc g f n) (h3 : g 3 3 = nI p) (hp : p ≤ n) (hq : ∀ h, FTk g h → Rtk h (nxt f n p) → Q none h) : M E md_X9_next (d + 6) [.ref 3] g Q X := by
  refine M.of _ rfl rfl (Nat.le_of_ble_eq_true rfl) ?_
  have hn := hT.2.1
  unfold nxt at hq
  have K : ∀ i, i ≤ n → i = sk pB f n p → B E md_X9_next (d + 6) Q X 39 [(0, .ref 3)] [] (up2 g 3 3 (nI i)) 0 := by
    intro i hi0 hi
    refine b_aload_n dX9_next_39 rfl rfl ?_
    refine b_aload_n dX9_next_40 rfl rfl ?_
    refine b_getI lf_X9_22 rfl dX9_next_41 ?_
    refine b_topE (by rw [up2_s]) ?_
    refine b_putI lf_X9_28 lp_9_5 rfl dX9_next_44 ?_
    have F1 : FTk g (up2 (up2 g 3 3 (nI i)) 3 5 (nI i)) := FTk.tr (FTk.up _ _ (by decide)) (FTk.up _ _ (by decide))
    have a3 : up2 (up2 g 3 3 (nI i)) 3 5 (nI i) 3 3 = nI i := by rw [up2_k _ _ _ _ (by decide), up2_s]
    have a5 : up2 (up2 g 3 3 (nI i)) 3 5 (nI i) 3 5 = nI i := up2_s _ _ _ _
    have T1 := hT.cg F1
    generalize up2 (up2 g 3 3 (nI i)) 3 5 (nI i) = g1 at F1 a3 a5 T1 ⊢
    refine b_aload_n dX9_next_47 rfl rfl ?_
    refine b_getI lf_X9_22 rfl dX9_next_48 ?_
    refine b_topE (a3) ?_
    refine b_aload_n dX9_next_51 rfl rfl ?_
    refine b_getI lf_X9_19 rfl dX9_next_52 ?_
    refine b_topE (T1.1) ?_
    refine b_icmp_lt (tgt := 66) dX9_next_55 (by decide) (fun h55 => ?_) (fun h55 => ?_)
    · have e55 : i < n := nn_lt (a := i) (b := n) (by omega) (by omega) h55
      refine b_aload_n dX9_next_66 rfl rfl ?_
      refine b_getR (b := 4) lf_X9_9 rfl rfl dX9_next_67 ?_
      refine b_aload_n dX9_next_70 rfl rfl ?_
      refine b_getI lf_X9_22 rfl dX9_next_71 ?_
      refine b_topE (a3) ?_
      refine b_bldN (j := i) dX9_next_74 (rfl) (by show _ < 600; omega) ?_
      refine b_topE (y := (bSg (f i))) ((T1.2.2 i (by omega)).2) ?_
      refine b_callS (As := [_]) (st := []) dX9_next_75 lk_X9_50 lm_X9_isLetter ls_X9_isLetter rfl rfl (Nat.le_of_ble_eq_true rfl) (Nat.le_refl _) (by decide) ?_
      refine c_X9_isLetter (T1.2.2 i (by omega)).1 ?_
      refine b_if_eq (tgt := 96) dX9_next_78 (by decide) (fun h78 => ?_) (fun h78 => ?_)
      · have e78 := b2i_0 h78
        refine b_aload_n dX9_next_96 rfl rfl ?_
        refine b_getR (b := 4) lf_X9_9 rfl rfl dX9_next_97 ?_
        refine b_aload_n dX9_next_100 rfl rfl ?_
        refine b_getI lf_X9_22 rfl dX9_next_101 ?_
        refine b_topE (a3) ?_
        refine b_bldN (j := i) dX9_next_104 (rfl) (by show _ < 600; omega) ?_
        refine b_topE (y := (bSg (f i))) ((T1.2.2 i (by omega)).2) ?_
        refine b_callS (As := [_]) (st := []) dX9_next_105 lk_X9_60 lm_X9_isDigit ls_X9_isDigit rfl rfl (Nat.le_of_ble_eq_true rfl) (Nat.le_refl _) (by decide) ?_
        refine c_X9_isDigit (T1.2.2 i (by omega)).1 ?_
        refine b_if_eq (tgt := 118) dX9_next_108 (by decide) (fun h108 => ?_) (fun h108 => ?_)
        · have e108 := b2i_0 h108
          refine b_aload_n dX9_next_118 rfl rfl ?_
          refine b_aload_n dX9_next_119 rfl rfl ?_
          refine b_getR (b := 4) lf_X9_9 rfl rfl dX9_next_120 ?_
          refine b_aload_n dX9_next_123 rfl rfl ?_
          refine b_getI lf_X9_22 rfl dX9_next_124 ?_
          refine b_topE (a3) ?_
          refine b_bldN (j := i) dX9_next_127 (rfl) (by show _ < 600; omega) ?_
          refine b_topE (y := (bSg (f i))) ((T1.2.2 i (by omega)).2) ?_
          refine b_callS (As := [_]) (st := [_]) dX9_next_128 lk_X9_66 lm_X9_isSign ls_X9_isSign rfl rfl (Nat.le_of_ble_eq_true rfl) (Nat.le_refl _) (by decide) ?_
          refine c_X9_isSign (T1.2.2 i (by omega)).1 ?_
          refine b_if_eq (tgt := 146) dX9_next_131 (by decide) (fun h131 => ?_) (fun h131 => ?_)
          · have e131 := b2i_0 h131
            refine b_iconst (v := 1) dX9_next_146 (by decide +kernel) ?_
            refine b_putI lf_X9_25 lp_9_4 rfl dX9_next_147 ?_
            refine b_aload_n dX9_next_150 rfl rfl ?_
            refine b_dup dX9_next_151 rfl ?_
            refine b_getI lf_X9_22 rfl dX9_next_152 ?_
            refine b_topE (y := nI i) (by rw [up2_k _ _ _ _ (by decide)]; exact a3) ?_
            refine b_iconst (v := 1) dX9_next_155 (by decide +kernel) ?_
            refine b_iadd dX9_next_156 ?_
            refine b_topE (nI_add i 1) ?_
            refine b_putI lf_X9_22 lp_9_3 rfl dX9_next_157 ?_
            refine b_vret rfl (by decide) dX9_next_160 ?_
            refine hq _ (F1.tr (FTk.tr (FTk.up _ _ (by decide)) (FTk.up _ _ (by decide)))) ?_
            rw [← hi]
            unfold tkA
            rw [if_neg (by omega), if_neg (by rw [e78]; decide), if_neg (by rw [e108]; decide)]
            have e9 : (if pS (f i) = true then f i else 1) = 1 := if_neg (by rw [e131]; decide)
            rw [e9]
            exact ⟨up2_s _ _ _ _, by rw [up2_k _ _ _ _ (by decide), up2_s]; rfl, by rw [up2_k _ _ _ _ (by decide), up2_k _ _ _ _ (by decide)]; exact a5, fun q => absurd q (by show ¬ (1 : Nat) = 2; decide)⟩
          · have e131 := b2i_1 h131
            refine b_aload_n dX9_next_134 rfl rfl ?_
            refine b_getR (b := 4) lf_X9_9 rfl rfl dX9_next_135 ?_
            refine b_aload_n dX9_next_138 rfl rfl ?_
            refine b_getI lf_X9_22 rfl dX9_next_139 ?_
            refine b_topE (a3) ?_
            refine b_bldN (j := i) dX9_next_142 (rfl) (by show _ < 600; omega) ?_
            refine b_topE (y := nI (f i)) ((T1.2.2 i (by omega)).2.trans (bSg_k _ (T1.2.2 i (by omega)).1 e131)) ?_
            refine b_goto (tgt := 147) dX9_next_143 (by decide) ?_
            refine b_putI lf_X9_25 lp_9_4 rfl dX9_next_147 ?_
            refine b_aload_n dX9_next_150 rfl rfl ?_
            refine b_dup dX9_next_151 rfl ?_
            refine b_getI lf_X9_22 rfl dX9_next_152 ?_
            refine b_topE (y := nI i) (by rw [up2_k _ _ _ _ (by decide)]; exact a3) ?_
            refine b_iconst (v := 1) dX9_next_155 (by decide +kernel) ?_
            refine b_iadd dX9_next_156 ?_
            refine b_topE (nI_add i 1) ?_
            refine b_putI lf_X9_22 lp_9_3 rfl dX9_next_157 ?_
            refine b_vret rfl (by decide) dX9_next_160 ?_
            refine hq _ (F1.tr (FTk.tr (FTk.up _ _ (by decide)) (FTk.up _ _ (by decide)))) ?_
            rw [← hi]
            unfold tkA
            rw [if_neg (by omega), if_neg (by rw [e78]; decide), if_neg (by rw [e108]; decide)]
            have e9 : (if pS (f i) = true then f i else 1) = f i := if_pos e131
            rw [e9]
            exact ⟨up2_s _ _ _ _, by rw [up2_k _ _ _ _ (by decide), up2_s], by rw [up2_k _ _ _ _ (by decide), up2_k _ _ _ _ (by decide)]; exact a5, fun q => absurd q (pS_2 e131)⟩
        · have e108 := b2i_1 h108
          refine b_aload_n dX9_next_111 rfl rfl ?_
          refine b_callV (As := []) (st := []) dX9_next_112 lk_X9_63 lm_X9_readNumber lv_X9_readNumber rfl (by decide) rfl rfl rfl (Nat.le_of_ble_eq_true rfl) (Nat.le_refl _) (by decide) ?_
          refine c_X9_readNumber (d := d + 4) T1 a3 (by omega) (fun h F2 b5 b3 b4 b6 b7 => ?_)
          refine b_goto (tgt := 160) dX9_next_115 (by decide) ?_
          refine b_vret rfl (by decide) dX9_next_160 ?_
          refine hq _ (F1.tr F2) ?_
          rw [← hi]
          unfold tkA
          rw [if_neg (by omega), if_neg (by rw [e78]; decide), if_pos e108]
          exact ⟨b3, b4, by rw [b5]; exact a5, fun _ => ⟨b6, b7⟩⟩
      · have e78 := b2i_1 h78
        refine b_aload_n dX9_next_81 rfl rfl ?_
        refine b_callV (As := []) (st := []) dX9_next_82 lk_X9_53 lm_X9_passLetters lv_X9_passLetters rfl (by decide) rfl rfl rfl (Nat.le_of_ble_eq_true rfl) (Nat.le_refl _) (by decide) ?_
        refine c_X9_passLetters (d := d + 4) T1 a3 (by omega) ?_
        refine b_aload_n dX9_next_85 rfl rfl ?_
        refine b_aload_n dX9_next_86 rfl rfl ?_
        refine b_callV (As := []) (st := [_]) dX9_next_87 lk_X9_56 lm_X9_wordKind lv_X9_wordKind rfl (by decide) rfl rfl rfl (Nat.le_of_ble_eq_true rfl) (Nat.le_refl _) (by decide) ?_
        refine c_X9_wordKind (f := f) (n := n) (p := i) (af := sk pL f n i) (T1.cg (FTk.up _ _ (by decide))) (up2_s _ _ _ _) (by rw [up2_k _ _ _ _ (by decide)]; exact a5) (sk_ge _ _ _ _) (sk_le (by omega)) ?_
        refine b_putI lf_X9_25 lp_9_4 rfl dX9_next_90 ?_
        refine b_goto (tgt := 160) dX9_next_93 (by decide) ?_
        refine b_vret rfl (by decide) dX9_next_160 ?_
        refine hq _ (F1.tr (FTk.tr (FTk.up _ _ (by decide)) (FTk.up _ _ (by decide)))) ?_
        rw [← hi]
        unfold tkA
        rw [if_neg (by omega), if_pos e78]
        exact ⟨by rw [up2_k _ _ _ _ (by decide), up2_s], up2_s _ _ _ _, by rw [up2_k _ _ _ _ (by decide), up2_k _ _ _ _ (by decide)]; exact a5, fun q => by have h9 := (wk_rng f i (sk pL f n i)).1; have q9 : wk f i (sk pL f n i) = 2 := q; omega⟩
    · have e55 : n ≤ i := nn_nlt (a := i) (b := n) (by omega) (by omega) h55
      refine b_aload_n dX9_next_58 rfl rfl ?_
      refine b_iconst (v := 0) dX9_next_59 (by decide +kernel) ?_
      refine b_putI lf_X9_25 lp_9_4 rfl dX9_next_60 ?_
      refine b_goto (tgt := 160) dX9_next_63 (by decide) ?_
      refine b_vret rfl (by decide) dX9_next_160 ?_
      refine hq _ (F1.tr (FTk.up _ _ (by decide))) ?_
      rw [← hi]
      unfold tkA
      rw [if_pos e55]
      exact ⟨by rw [up2_k _ _ _ _ (by decide)]; exact a3, up2_s _ _ _ _, by rw [up2_k _ _ _ _ (by decide)]; exact a5, fun q => by cases q⟩
  have key : ∀ i, i ≤ n → p ≤ i → (∀ j, p ≤ j → j < i → j < n ∧ pB (f j) = true) → B E md_X9_next (d + 6) Q X 0 [(0, .ref 3)] [] (up2 g 3 3 (nI i)) 0 := by
    refine lp_up (P := fun i => p ≤ i → (∀ j, p ≤ j → j < i → j < n ∧ pB (f j) = true) → B E md_X9_next (d + 6) Q X 0 [(0, .ref 3)] [] (up2 g 3 3 (nI i)) 0) (fun i hi ih h1 h2 => ?_)
    refine b_aload_n dX9_next_0 rfl rfl ?_
    refine b_getI lf_X9_22 rfl dX9_next_1 ?_
    refine b_topE (by rw [up2_s]) ?_
    refine b_aload_n dX9_next_4 rfl rfl ?_
    refine b_getI lf_X9_19 rfl dX9_next_5 ?_
    refine b_topE (y := nI n) (by rw [up2_k _ _ _ _ (by decide)]; exact hT.1) ?_
    refine b_icmp_ge (tgt := 39) dX9_next_8 (by decide) (fun h8 => ?_) (fun h8 => ?_)
    · have e8 : n ≤ i := nn_le (a := n) (b := i) (by omega) (by omega) h8
      refine K i (by omega) ?_
      exact (sk_eq h1 h2 (fun q => absurd q (by omega))).symm
    · have e8 : i < n := nn_nle (a := n) (b := i) (by omega) (by omega) h8
      refine b_aload_n dX9_next_11 rfl rfl ?_
      refine b_getR (b := 4) lf_X9_9 rfl rfl dX9_next_12 ?_
      refine b_aload_n dX9_next_15 rfl rfl ?_
      refine b_getI lf_X9_22 rfl dX9_next_16 ?_
      refine b_topE (by rw [up2_s]) ?_
      refine b_bldN (j := i) dX9_next_19 (rfl) (by show _ < 600; omega) ?_
      refine b_topE (y := (bSg (f i))) (by rw [up2_f _ _ _ _ (by decide)]; exact (hT.2.2 i (by omega)).2) ?_
      refine b_callS (As := [_]) (st := []) dX9_next_20 lk_X9_46 lm_X9_isBlank ls_X9_isBlank rfl rfl (Nat.le_of_ble_eq_true rfl) (Nat.le_refl _) (by decide) ?_
      refine c_X9_isBlank (hT.2.2 i (by omega)).1 ?_
      refine b_if_eq (tgt := 39) dX9_next_23 (by decide) (fun h23 => ?_) (fun h23 => ?_)
      · have e23 := b2i_0 h23
        refine K i (by omega) ?_
        exact (sk_eq h1 h2 (fun _ => e23)).symm
      · have e23 := b2i_1 h23
        refine b_aload_n dX9_next_26 rfl rfl ?_
        refine b_dup dX9_next_27 rfl ?_
        refine b_getI lf_X9_22 rfl dX9_next_28 ?_
        refine b_topE (by rw [up2_s]) ?_
        refine b_iconst (v := 1) dX9_next_31 (by decide +kernel) ?_
        refine b_iadd dX9_next_32 ?_
        refine b_topE (nI_add i 1) ?_
        refine b_putI lf_X9_22 lp_9_3 rfl dX9_next_33 ?_
        rw [up2_2]
        refine b_goto (tgt := 0) dX9_next_36 (by decide) ?_
        refine ih (i + 1) (by omega) (by omega) (by omega) (fun j a b => ?_)
        rcases Nat.lt_or_ge j i with q | q
        · exact h2 j a q
        · rw [show j = i by omega]; exact ⟨e8, e23⟩
  have := key p hp (Nat.le_refl _) (fun j a b => absurd b (by omega))
  rwa [up2_i h3] at this
theorem c_X9_begin {E : En} {d : Nat} {Q : QT} {X : XT} {g : G2} {f : Nat → Nat} {n : Nat} (hn : n ≤ 600) (hb : ∀ i, i < n → f i < 256 ∧ g 4 i = bSg (f i)) (hq : ∀ h, (∀ y, y ≠ 3 → h y = g y) → h 3 1 = g 3 1 → RTc h f n → Rtk h (nxt f n 0) → Q none h) : M E md_X9_begin (d + 7) [.ref 3, .int (nI n)] g Q X := by
  refine M.of _ rfl rfl (Nat.le_of_ble_eq_true rfl) ?_
  refine b_aload_n dX9_begin_0 rfl rfl ?_
  refine b_iload_n dX9_begin_1 rfl rfl ?_
  refine b_sipush (v := 600) dX9_begin_2 (by decide +kernel) ?_
  refine b_min dX9_begin_5 lc_X9_37 (by omega) (Nat.le_of_ble_eq_true rfl) (by decide) ?_
  refine b_topE (y := nI n) (if_neg (c := (600 : Int32) < nI n) (nI_nlt (a := 600) (b := n) hn (by decide))) ?_
  refine b_putI lf_X9_19 lp_9_2 rfl dX9_begin_8 ?_
  refine b_aload_n dX9_begin_11 rfl rfl ?_
  refine b_iconst (v := 0) dX9_begin_12 (by decide +kernel) ?_
  refine b_putI lf_X9_22 lp_9_3 rfl dX9_begin_13 ?_
  refine b_aload_n dX9_begin_16 rfl rfl ?_
  refine b_callV (As := []) (st := []) dX9_begin_17 lk_X9_43 lm_X9_next lv_X9_next rfl (by decide) rfl rfl rfl (Nat.le_of_ble_eq_true rfl) (Nat.le_refl _) (by decide) ?_
  refine c_X9_next (f := f) (n := n) (p := 0) ⟨by rw [up2_k _ _ _ _ (by decide), up2_s], hn, fun i hi => by rw [up2_f _ _ _ _ (by decide), up2_f _ _ _ _ (by decide)]; exact hb i hi⟩ (up2_s _ _ _ _) (Nat.zero_le _) (fun h F1 R1 => ?_)
  refine b_vret rfl (by decide) dX9_begin_20 ?_
  refine hq h (fun y hy => by rw [F1.1 y hy, up2_f _ _ _ _ hy, up2_f _ _ _ _ hy]) ?_ ?_ R1
  · rw [F1.2 1 (by decide), up2_k _ _ _ _ (by decide), up2_k _ _ _ _ (by decide)]
  · exact ⟨by rw [F1.2 2 (by decide), up2_k _ _ _ _ (by decide), up2_s], hn, fun i hi => by rw [F1.1 4 (by decide), up2_f _ _ _ _ (by decide), up2_f _ _ _ _ (by decide)]; exact hb i hi⟩
