/-! the tokens of the text -/
theorem up2_2 (g : G2) (a k : Nat) (x y : Int32) : up2 (up2 g a k x) a k y = up2 g a k y := by funext b j; unfold up2; split <;> rfl
theorem up2_i {g : G2} {a k : Nat} {x : Int32} (h : g a k = x) : up2 g a k x = g := by
  funext b j
  unfold up2
  split
  · rename_i e; rw [e.1, e.2, h]
  · rfl
/-- a byte of the tape, as it lies in the text -/
def bSg (x : Nat) : Int32 := if x < 128 then nI x else nI x - 256
theorem bSg_b : ∀ x, x < 256 → (bSg x == 32 || bSg x == 10) = pB x := by decide +kernel
theorem bSg_l : ∀ x, x < 256 → (decide (97 ≤ bSg x) && decide (bSg x ≤ 122)) = pL x := by decide +kernel
theorem bSg_d : ∀ x, x < 256 → (decide (48 ≤ bSg x) && decide (bSg x ≤ 57)) = pD x := by decide +kernel
theorem bSg_n : ∀ x, x < 256 → ¬ x < 128 → bSg x < 0 := by decide +kernel
theorem bSg_e {x c : Nat} (hx : x < 256) (hc : c < 128) : bSg x = nI c ↔ x = c := by
  by_cases h : x < 128
  · unfold bSg; rw [if_pos h]; exact nI_eq (by omega) (by omega)
  · constructor
    · intro e
      have := bSg_n x hx h
      rw [e] at this
      exact absurd this (nI_pos (by omega))
    · intro e; omega
def sgB (y : Int32) : Bool := y == 40 || y == 41 || y == 42 || y == 43 || y == 45 || y == 47 || y == 59 || y == 60 || y == 61
theorem bSg_s : ∀ x, x < 256 → sgB (bSg x) = pS x := by decide +kernel
theorem bSg_k : ∀ x, x < 256 → pS x = true → bSg x = nI x := by decide +kernel
theorem bSg_v : ∀ x, x < 256 → pD x = true → bSg x = nI x ∧ 48 ≤ x ∧ x ≤ 57 := by decide +kernel
/-- the text of the tokens: n bytes f -/
def RTc (g : G2) (f : Nat → Nat) (n : Nat) : Prop := g 3 2 = nI n ∧ n ≤ 600 ∧ ∀ i, i < n → f i < 256 ∧ g 4 i = bSg (f i)
/-- the token that stands now -/
def Rtk (g : G2) (t : Tk) : Prop := g 3 3 = nI t.af ∧ g 3 4 = nI t.k ∧ g 3 5 = nI t.pl ∧ (t.k = 2 → g 3 6 = nI t.v ∧ g 3 7 = nI t.dg)
/-- what the tokens' next leaves as it was -/
def FTk (g h : G2) : Prop := (∀ y, y ≠ 3 → h y = g y) ∧ ∀ j, j < 3 → h 3 j = g 3 j
theorem FTk.rf (g : G2) : FTk g g := ⟨fun _ _ => rfl, fun _ _ => rfl⟩
theorem FTk.tr {g h k : G2} (h1 : FTk g h) (h2 : FTk h k) : FTk g k := ⟨fun y q => (h2.1 y q).trans (h1.1 y q), fun j q => (h2.2 j q).trans (h1.2 j q)⟩
theorem RTc.cg {g h : G2} {f : Nat → Nat} {n : Nat} (hT : RTc g f n) (F : FTk g h) : RTc h f n := ⟨by rw [F.2 2 (by decide)]; exact hT.1, hT.2.1, fun i hi => by rw [F.1 4 (by decide)]; exact hT.2.2 i hi⟩
theorem FTk.up (g : G2) {k : Nat} (x : Int32) (hk : 3 ≤ k) : FTk g (up2 g 3 k x) := ⟨fun y hy => up2_f _ _ _ _ hy, fun j hj => up2_k _ _ _ _ (by omega)⟩
theorem c_X9_isBlank0 {E : En} {d : Nat} {Q : QT} {X : XT} {g : G2} {x : Int32} (hq : Q (some (.int (b2i (x == 32 || x == 10)))) g) : M E md_X9_isBlank d [.int x] g Q X := by
  refine M.of _ rfl rfl (Nat.le_of_ble_eq_true rfl) ?_
  refine b_iload_n dX9_isBlank_0 rfl rfl ?_
  refine b_bipush (v := 32) dX9_isBlank_1 (by decide +kernel) ?_
  refine b_icmp_eq (tgt := 12) dX9_isBlank_3 (by decide) (fun h3 => ?_) (fun h3 => ?_)
  · refine b_iconst (v := 1) dX9_isBlank_12 (by decide +kernel) ?_
    refine b_goto (tgt := 17) dX9_isBlank_13 (by decide) ?_
    refine b_zret (Or.inr rfl) rfl (by decide) dX9_isBlank_17 ?_
    have e : (x == 32 || x == 10) = true := by simp_all
    rw [e] at hq; exact hq
  · refine b_iload_n dX9_isBlank_6 rfl rfl ?_
    refine b_bipush (v := 10) dX9_isBlank_7 (by decide +kernel) ?_
    refine b_icmp_ne (tgt := 16) dX9_isBlank_9 (by decide) (fun h9 => ?_) (fun h9 => ?_)
    · refine b_iconst (v := 0) dX9_isBlank_16 (by decide +kernel) ?_
      refine b_zret (Or.inl rfl) rfl (by decide) dX9_isBlank_17 ?_
      have e : (x == 32 || x == 10) = false := by simp_all
      rw [e] at hq; exact hq
    · refine b_iconst (v := 1) dX9_isBlank_12 (by decide +kernel) ?_
      refine b_goto (tgt := 17) dX9_isBlank_13 (by decide) ?_
      refine b_zret (Or.inr rfl) rfl (by decide) dX9_isBlank_17 ?_
      have e : (x == 32 || x == 10) = true := by simp_all
      rw [e] at hq; exact hq
theorem c_X9_isBlank {E : En} {d : Nat} {Q : QT} {X : XT} {g : G2} {x : Nat} (hx : x < 256) (hq : Q (some (.int (b2i (pB x)))) g) : M E md_X9_isBlank d [.int (bSg x)] g Q X := c_X9_isBlank0 (by rw [bSg_b x hx]; exact hq)
theorem c_X9_isLetter0 {E : En} {d : Nat} {Q : QT} {X : XT} {g : G2} {x : Int32} (hq : Q (some (.int (b2i (decide (97 ≤ x) && decide (x ≤ 122))))) g) : M E md_X9_isLetter d [.int x] g Q X := by
  refine M.of _ rfl rfl (Nat.le_of_ble_eq_true rfl) ?_
  refine b_iload_n dX9_isLetter_0 rfl rfl ?_
  refine b_bipush (v := 97) dX9_isLetter_1 (by decide +kernel) ?_
  refine b_icmp_lt (tgt := 16) dX9_isLetter_3 (by decide) (fun h3 => ?_) (fun h3 => ?_)
  · refine b_iconst (v := 0) dX9_isLetter_16 (by decide +kernel) ?_
    refine b_zret (Or.inl rfl) rfl (by decide) dX9_isLetter_17 ?_
    have e : (decide (97 ≤ x) && decide (x ≤ 122)) = false := by rw [decide_eq_false (Int32.not_le.mpr h3)]; rfl
    rw [e] at hq; exact hq
  · refine b_iload_n dX9_isLetter_6 rfl rfl ?_
    refine b_bipush (v := 122) dX9_isLetter_7 (by decide +kernel) ?_
    refine b_icmp_gt (tgt := 16) dX9_isLetter_9 (by decide) (fun h9 => ?_) (fun h9 => ?_)
    · refine b_iconst (v := 0) dX9_isLetter_16 (by decide +kernel) ?_
      refine b_zret (Or.inl rfl) rfl (by decide) dX9_isLetter_17 ?_
      have e : (decide (97 ≤ x) && decide (x ≤ 122)) = false := by rw [decide_eq_false (Int32.not_le.mpr h9), Bool.and_false]
      rw [e] at hq; exact hq
    · refine b_iconst (v := 1) dX9_isLetter_12 (by decide +kernel) ?_
      refine b_goto (tgt := 17) dX9_isLetter_13 (by decide) ?_
      refine b_zret (Or.inr rfl) rfl (by decide) dX9_isLetter_17 ?_
      have e : (decide (97 ≤ x) && decide (x ≤ 122)) = true := by rw [decide_eq_true (Int32.not_lt.mp h3), decide_eq_true (Int32.not_lt.mp h9)]; rfl
      rw [e] at hq; exact hq
theorem c_X9_isLetter {E : En} {d : Nat} {Q : QT} {X : XT} {g : G2} {x : Nat} (hx : x < 256) (hq : Q (some (.int (b2i (pL x)))) g) : M E md_X9_isLetter d [.int (bSg x)] g Q X := c_X9_isLetter0 (by rw [bSg_l x hx]; exact hq)
theorem c_X9_isDigit0 {E : En} {d : Nat} {Q : QT} {X : XT} {g : G2} {x : Int32} (hq : Q (some (.int (b2i (decide (48 ≤ x) && decide (x ≤ 57))))) g) : M E md_X9_isDigit d [.int x] g Q X := by
  refine M.of _ rfl rfl (Nat.le_of_ble_eq_true rfl) ?_
  refine b_iload_n dX9_isDigit_0 rfl rfl ?_
  refine b_bipush (v := 48) dX9_isDigit_1 (by decide +kernel) ?_
  refine b_icmp_lt (tgt := 16) dX9_isDigit_3 (by decide) (fun h3 => ?_) (fun h3 => ?_)
  · refine b_iconst (v := 0) dX9_isDigit_16 (by decide +kernel) ?_
    refine b_zret (Or.inl rfl) rfl (by decide) dX9_isDigit_17 ?_
    have e : (decide (48 ≤ x) && decide (x ≤ 57)) = false := by rw [decide_eq_false (Int32.not_le.mpr h3)]; rfl
    rw [e] at hq; exact hq
  · refine b_iload_n dX9_isDigit_6 rfl rfl ?_
    refine b_bipush (v := 57) dX9_isDigit_7 (by decide +kernel) ?_
    refine b_icmp_gt (tgt := 16) dX9_isDigit_9 (by decide) (fun h9 => ?_) (fun h9 => ?_)
    · refine b_iconst (v := 0) dX9_isDigit_16 (by decide +kernel) ?_
      refine b_zret (Or.inl rfl) rfl (by decide) dX9_isDigit_17 ?_
      have e : (decide (48 ≤ x) && decide (x ≤ 57)) = false := by rw [decide_eq_false (Int32.not_le.mpr h9), Bool.and_false]
      rw [e] at hq; exact hq
    · refine b_iconst (v := 1) dX9_isDigit_12 (by decide +kernel) ?_
      refine b_goto (tgt := 17) dX9_isDigit_13 (by decide) ?_
      refine b_zret (Or.inr rfl) rfl (by decide) dX9_isDigit_17 ?_
      have e : (decide (48 ≤ x) && decide (x ≤ 57)) = true := by rw [decide_eq_true (Int32.not_lt.mp h3), decide_eq_true (Int32.not_lt.mp h9)]; rfl
      rw [e] at hq; exact hq
theorem c_X9_isDigit {E : En} {d : Nat} {Q : QT} {X : XT} {g : G2} {x : Nat} (hx : x < 256) (hq : Q (some (.int (b2i (pD x)))) g) : M E md_X9_isDigit d [.int (bSg x)] g Q X := c_X9_isDigit0 (by rw [bSg_d x hx]; exact hq)
theorem c_X9_isSign0 {E : En} {d : Nat} {Q : QT} {X : XT} {g : G2} {x : Int32} (hq : Q (some (.int (b2i (sgB x)))) g) : M E md_X9_isSign d [.int x] g Q X := by
  refine M.of _ rfl rfl (Nat.le_of_ble_eq_true rfl) ?_
  refine b_iload_n dX9_isSign_0 rfl rfl ?_
  by_cases k40 : x = 40
  · subst k40
    refine b_tableIn (off := 103) (tgt := 104) dX9_isSign_1 (by decide +kernel) (by decide +kernel) (by decide +kernel) (by decide) ?_
    refine b_iconst (v := 1) dX9_isSign_104 (by decide +kernel) ?_
    refine b_zret (Or.inr rfl) rfl (by decide) dX9_isSign_105 ?_
    exact hq
  by_cases k41 : x = 41
  · subst k41
    refine b_tableIn (off := 103) (tgt := 104) dX9_isSign_1 (by decide +kernel) (by decide +kernel) (by decide +kernel) (by decide) ?_
    refine b_iconst (v := 1) dX9_isSign_104 (by decide +kernel) ?_
    refine b_zret (Or.inr rfl) rfl (by decide) dX9_isSign_105 ?_
    exact hq
  by_cases k42 : x = 42
  · subst k42
    refine b_tableIn (off := 103) (tgt := 104) dX9_isSign_1 (by decide +kernel) (by decide +kernel) (by decide +kernel) (by decide) ?_
    refine b_iconst (v := 1) dX9_isSign_104 (by decide +kernel) ?_
    refine b_zret (Or.inr rfl) rfl (by decide) dX9_isSign_105 ?_
    exact hq
  by_cases k43 : x = 43
  · subst k43
    refine b_tableIn (off := 103) (tgt := 104) dX9_isSign_1 (by decide +kernel) (by decide +kernel) (by decide +kernel) (by decide) ?_
    refine b_iconst (v := 1) dX9_isSign_104 (by decide +kernel) ?_
    refine b_zret (Or.inr rfl) rfl (by decide) dX9_isSign_105 ?_
    exact hq
  by_cases k44 : x = 44
  · subst k44
    refine b_tableIn (off := 105) (tgt := 106) dX9_isSign_1 (by decide +kernel) (by decide +kernel) (by decide +kernel) (by decide) ?_
    refine b_iconst (v := 0) dX9_isSign_106 (by decide +kernel) ?_
    refine b_zret (Or.inl rfl) rfl (by decide) dX9_isSign_107 ?_
    exact hq
  by_cases k45 : x = 45
  · subst k45
    refine b_tableIn (off := 103) (tgt := 104) dX9_isSign_1 (by decide +kernel) (by decide +kernel) (by decide +kernel) (by decide) ?_
    refine b_iconst (v := 1) dX9_isSign_104 (by decide +kernel) ?_
    refine b_zret (Or.inr rfl) rfl (by decide) dX9_isSign_105 ?_
    exact hq
  by_cases k46 : x = 46
  · subst k46
    refine b_tableIn (off := 105) (tgt := 106) dX9_isSign_1 (by decide +kernel) (by decide +kernel) (by decide +kernel) (by decide) ?_
    refine b_iconst (v := 0) dX9_isSign_106 (by decide +kernel) ?_
    refine b_zret (Or.inl rfl) rfl (by decide) dX9_isSign_107 ?_
    exact hq
  by_cases k47 : x = 47
  · subst k47
    refine b_tableIn (off := 103) (tgt := 104) dX9_isSign_1 (by decide +kernel) (by decide +kernel) (by decide +kernel) (by decide) ?_
    refine b_iconst (v := 1) dX9_isSign_104 (by decide +kernel) ?_
    refine b_zret (Or.inr rfl) rfl (by decide) dX9_isSign_105 ?_
    exact hq
  by_cases k48 : x = 48
  · subst k48
    refine b_tableIn (off := 105) (tgt := 106) dX9_isSign_1 (by decide +kernel) (by decide +kernel) (by decide +kernel) (by decide) ?_
    refine b_iconst (v := 0) dX9_isSign_106 (by decide +kernel) ?_
    refine b_zret (Or.inl rfl) rfl (by decide) dX9_isSign_107 ?_
    exact hq
  by_cases k49 : x = 49
  · subst k49
    refine b_tableIn (off := 105) (tgt := 106) dX9_isSign_1 (by decide +kernel) (by decide +kernel) (by decide +kernel) (by decide) ?_
    refine b_iconst (v := 0) dX9_isSign_106 (by decide +kernel) ?_
    refine b_zret (Or.inl rfl) rfl (by decide) dX9_isSign_107 ?_
    exact hq
  by_cases k50 : x = 50
  · subst k50
    refine b_tableIn (off := 105) (tgt := 106) dX9_isSign_1 (by decide +kernel) (by decide +kernel) (by decide +kernel) (by decide) ?_
    refine b_iconst (v := 0) dX9_isSign_106 (by decide +kernel) ?_
    refine b_zret (Or.inl rfl) rfl (by decide) dX9_isSign_107 ?_
    exact hq
  by_cases k51 : x = 51
  · subst k51
    refine b_tableIn (off := 105) (tgt := 106) dX9_isSign_1 (by decide +kernel) (by decide +kernel) (by decide +kernel) (by decide) ?_
    refine b_iconst (v := 0) dX9_isSign_106 (by decide +kernel) ?_
    refine b_zret (Or.inl rfl) rfl (by decide) dX9_isSign_107 ?_
    exact hq
  by_cases k52 : x = 52
  · subst k52
    refine b_tableIn (off := 105) (tgt := 106) dX9_isSign_1 (by decide +kernel) (by decide +kernel) (by decide +kernel) (by decide) ?_
    refine b_iconst (v := 0) dX9_isSign_106 (by decide +kernel) ?_
    refine b_zret (Or.inl rfl) rfl (by decide) dX9_isSign_107 ?_
    exact hq
  by_cases k53 : x = 53
  · subst k53
    refine b_tableIn (off := 105) (tgt := 106) dX9_isSign_1 (by decide +kernel) (by decide +kernel) (by decide +kernel) (by decide) ?_
    refine b_iconst (v := 0) dX9_isSign_106 (by decide +kernel) ?_
    refine b_zret (Or.inl rfl) rfl (by decide) dX9_isSign_107 ?_
    exact hq
  by_cases k54 : x = 54
  · subst k54
    refine b_tableIn (off := 105) (tgt := 106) dX9_isSign_1 (by decide +kernel) (by decide +kernel) (by decide +kernel) (by decide) ?_
    refine b_iconst (v := 0) dX9_isSign_106 (by decide +kernel) ?_
    refine b_zret (Or.inl rfl) rfl (by decide) dX9_isSign_107 ?_
    exact hq
  by_cases k55 : x = 55
  · subst k55
    refine b_tableIn (off := 105) (tgt := 106) dX9_isSign_1 (by decide +kernel) (by decide +kernel) (by decide +kernel) (by decide) ?_
    refine b_iconst (v := 0) dX9_isSign_106 (by decide +kernel) ?_
    refine b_zret (Or.inl rfl) rfl (by decide) dX9_isSign_107 ?_
    exact hq
  by_cases k56 : x = 56
  · subst k56
    refine b_tableIn (off := 105) (tgt := 106) dX9_isSign_1 (by decide +kernel) (by decide +kernel) (by decide +kernel) (by decide) ?_
    refine b_iconst (v := 0) dX9_isSign_106 (by decide +kernel) ?_
    refine b_zret (Or.inl rfl) rfl (by decide) dX9_isSign_107 ?_
    exact hq
  by_cases k57 : x = 57
  · subst k57
    refine b_tableIn (off := 105) (tgt := 106) dX9_isSign_1 (by decide +kernel) (by decide +kernel) (by decide +kernel) (by decide) ?_
    refine b_iconst (v := 0) dX9_isSign_106 (by decide +kernel) ?_
    refine b_zret (Or.inl rfl) rfl (by decide) dX9_isSign_107 ?_
    exact hq
  by_cases k58 : x = 58
  · subst k58
    refine b_tableIn (off := 105) (tgt := 106) dX9_isSign_1 (by decide +kernel) (by decide +kernel) (by decide +kernel) (by decide) ?_
    refine b_iconst (v := 0) dX9_isSign_106 (by decide +kernel) ?_
    refine b_zret (Or.inl rfl) rfl (by decide) dX9_isSign_107 ?_
    exact hq
  by_cases k59 : x = 59
  · subst k59
    refine b_tableIn (off := 103) (tgt := 104) dX9_isSign_1 (by decide +kernel) (by decide +kernel) (by decide +kernel) (by decide) ?_
    refine b_iconst (v := 1) dX9_isSign_104 (by decide +kernel) ?_
    refine b_zret (Or.inr rfl) rfl (by decide) dX9_isSign_105 ?_
    exact hq
  by_cases k60 : x = 60
  · subst k60
    refine b_tableIn (off := 103) (tgt := 104) dX9_isSign_1 (by decide +kernel) (by decide +kernel) (by decide +kernel) (by decide) ?_
    refine b_iconst (v := 1) dX9_isSign_104 (by decide +kernel) ?_
    refine b_zret (Or.inr rfl) rfl (by decide) dX9_isSign_105 ?_
    exact hq
  by_cases k61 : x = 61
  · subst k61
    refine b_tableIn (off := 103) (tgt := 104) dX9_isSign_1 (by decide +kernel) (by decide +kernel) (by decide +kernel) (by decide) ?_
    refine b_iconst (v := 1) dX9_isSign_104 (by decide +kernel) ?_
    refine b_zret (Or.inr rfl) rfl (by decide) dX9_isSign_105 ?_
    exact hq
  refine b_tableOut (tgt := 106) dX9_isSign_1 ?_ (by decide) ?_
  · have j40 : ¬ (x).toInt = 40 := fun q => k40 (Int32.toInt_inj.mp q); have j41 : ¬ (x).toInt = 41 := fun q => k41 (Int32.toInt_inj.mp q); have j42 : ¬ (x).toInt = 42 := fun q => k42 (Int32.toInt_inj.mp q); have j43 : ¬ (x).toInt = 43 := fun q => k43 (Int32.toInt_inj.mp q); have j44 : ¬ (x).toInt = 44 := fun q => k44 (Int32.toInt_inj.mp q); have j45 : ¬ (x).toInt = 45 := fun q => k45 (Int32.toInt_inj.mp q); have j46 : ¬ (x).toInt = 46 := fun q => k46 (Int32.toInt_inj.mp q); have j47 : ¬ (x).toInt = 47 := fun q => k47 (Int32.toInt_inj.mp q); have j48 : ¬ (x).toInt = 48 := fun q => k48 (Int32.toInt_inj.mp q); have j49 : ¬ (x).toInt = 49 := fun q => k49 (Int32.toInt_inj.mp q); have j50 : ¬ (x).toInt = 50 := fun q => k50 (Int32.toInt_inj.mp q); have j51 : ¬ (x).toInt = 51 := fun q => k51 (Int32.toInt_inj.mp q); have j52 : ¬ (x).toInt = 52 := fun q => k52 (Int32.toInt_inj.mp q); have j53 : ¬ (x).toInt = 53 := fun q => k53 (Int32.toInt_inj.mp q); have j54 : ¬ (x).toInt = 54 := fun q => k54 (Int32.toInt_inj.mp q); have j55 : ¬ (x).toInt = 55 := fun q => k55 (Int32.toInt_inj.mp q); have j56 : ¬ (x).toInt = 56 := fun q => k56 (Int32.toInt_inj.mp q); have j57 : ¬ (x).toInt = 57 := fun q => k57 (Int32.toInt_inj.mp q); have j58 : ¬ (x).toInt = 58 := fun q => k58 (Int32.toInt_inj.mp q); have j59 : ¬ (x).toInt = 59 := fun q => k59 (Int32.toInt_inj.mp q); have j60 : ¬ (x).toInt = 60 := fun q => k60 (Int32.toInt_inj.mp q); have j61 : ¬ (x).toInt = 61 := fun q => k61 (Int32.toInt_inj.mp q); omega
  refine b_iconst (v := 0) dX9_isSign_106 (by decide +kernel) ?_
  refine b_zret (Or.inl rfl) rfl (by decide) dX9_isSign_107 ?_
  have e : sgB x = false := by simp only [sgB, Bool.or_eq_false_iff, beq_eq_false_iff_ne]; exact ⟨⟨⟨⟨⟨⟨⟨⟨k40, k41⟩, k42⟩, k43⟩, k45⟩, k47⟩, k59⟩, k60⟩, k61⟩
  rw [e] at hq; exact hq
theorem c_X9_isSign {E : En} {d : Nat} {Q : QT} {X : XT} {g : G2} {x : Nat} (hx : x < 256) (hq : Q (some (.int (b2i (pS x)))) g) : M E md_X9_isSign d [.int (bSg x)] g Q X := c_X9_isSign0 (by rw [bSg_s x hx]; exact hq)
theorem c_X9_passLetters {E : En} {d : Nat} {Q : QT} {X : XT} {g : G2} {f : Nat → Nat} {n p : Nat} (hT : RTc g f n) (h3 : g 3 3 = nI p) (hp : p ≤ n) (hq : Q none (up2 g 3 3 (nI (sk pL f n p)))) : M E md_X9_passLetters (d + 1) [.ref 3] g Q X := by
  refine M.of _ rfl rfl (Nat.le_of_ble_eq_true rfl) ?_
  have hn := hT.2.1
  have key : ∀ i, i ≤ n → p ≤ i → (∀ j, p ≤ j → j < i → j < n ∧ pL (f j) = true) → B E md_X9_passLetters (d + 1) Q X 0 [(0, .ref 3)] [] (up2 g 3 3 (nI i)) 0 := by
    refine lp_up (P := fun i => p ≤ i → (∀ j, p ≤ j → j < i → j < n ∧ pL (f j) = true) → B E md_X9_passLetters (d + 1) Q X 0 [(0, .ref 3)] [] (up2 g 3 3 (nI i)) 0) (fun i hi ih h1 h2 => ?_)
    refine b_aload_n dX9_passLetters_0 rfl rfl ?_
    refine b_getI lf_X9_22 rfl dX9_passLetters_1 ?_
    refine b_topE (by rw [up2_s]) ?_
    refine b_aload_n dX9_passLetters_4 rfl rfl ?_
    refine b_getI lf_X9_19 rfl dX9_passLetters_5 ?_
    refine b_topE (y := nI n) (by rw [up2_k _ _ _ _ (by decide)]; exact hT.1) ?_
    refine b_icmp_ge (tgt := 39) dX9_passLetters_8 (by decide) (fun h8 => ?_) (fun h8 => ?_)
    · have e8 : n ≤ i := nn_le (a := n) (b := i) (by omega) (by omega) h8
      refine b_vret rfl (by decide) dX9_passLetters_39 ?_
      rw [sk_eq h1 h2 (fun q => absurd q (by omega))] at hq
      exact hq
    · have e8 : i < n := nn_nle (a := n) (b := i) (by omega) (by omega) h8
      refine b_aload_n dX9_passLetters_11 rfl rfl ?_
      refine b_getR (b := 4) lf_X9_9 rfl rfl dX9_passLetters_12 ?_
      refine b_aload_n dX9_passLetters_15 rfl rfl ?_
      refine b_getI lf_X9_22 rfl dX9_passLetters_16 ?_
      refine b_topE (by rw [up2_s]) ?_
      refine b_bldN (j := i) dX9_passLetters_19 (rfl) (by show _ < 600; omega) ?_
      refine b_topE (y := (bSg (f i))) (by rw [up2_f _ _ _ _ (by decide)]; exact (hT.2.2 i (by omega)).2) ?_
      refine b_callS (As := [_]) (st := []) dX9_passLetters_20 lk_X9_50 lm_X9_isLetter ls_X9_isLetter rfl rfl (Nat.le_of_ble_eq_true rfl) (Nat.le_refl _) (by decide) ?_
      refine c_X9_isLetter (hT.2.2 i (by omega)).1 ?_
      refine b_if_eq (tgt := 39) dX9_passLetters_23 (by decide) (fun h23 => ?_) (fun h23 => ?_)
      · have e23 := b2i_0 h23
        rw [sk_eq h1 h2 (fun _ => e23)] at hq
        exact b_vret rfl (by decide) dX9_passLetters_39 hq
      · have e23 := b2i_1 h23
        refine b_aload_n dX9_passLetters_26 rfl rfl ?_
        refine b_dup dX9_passLetters_27 rfl ?_
        refine b_getI lf_X9_22 rfl dX9_passLetters_28 ?_
        refine b_topE (by rw [up2_s]) ?_
        refine b_iconst (v := 1) dX9_passLetters_31 (by decide +kernel) ?_
        refine b_iadd dX9_passLetters_32 ?_
        refine b_topE (nI_add i 1) ?_
        refine b_putI lf_X9_22 lp_9_3 rfl dX9_passLetters_33 ?_
        rw [up2_2]
        refine b_goto (tgt := 0) dX9_passLetters_36 (by decide) ?_
        refine ih (i + 1) (by omega) (by omega) (by omega) (fun j a b => ?_)
        rcases Nat.lt_or_ge j i with q | q
        · exact h2 j a q
        · rw [show j = i by omega]; exact ⟨e8, e23⟩
  have := key p hp (Nat.le_refl _) (fun j a b => absurd b (by omega))
  rwa [up2_i h3] at this
theorem c_X9_readNumber {E : En} {d : Nat} {Q : QT} {X : XT} {g : G2} {f : Nat → Nat} {n p : Nat} (hT : RTc g f n) (h3 : g 3 3 = nI p) (hp : p ≤ n) (hq : ∀ h, FTk g h → h 3 5 = g 3 5 → h 3 3 = nI (sk pD f n p) → h 3 4 = 2 → h 3 6 = nI (vD f p (min (sk pD f n p - p) 4)) → h 3 7 = nI (sk pD f n p - p) → Q none h) : M E md_X9_readNumber (d + 1) [.ref 3] g Q X := by
  refine M.of _ rfl rfl (Nat.le_of_ble_eq_true rfl) ?_
  have hn := hT.2.1
  have key : ∀ i, i ≤ n → p ≤ i → (∀ j, p ≤ j → j < i → j < n ∧ pD (f j) = true) → ∀ h, FTk g h → h 3 5 = g 3 5 → h 3 3 = nI i → h 3 4 = 2 → h 3 6 = nI (vD f p (min (i - p) 4)) → h 3 7 = nI (i - p) → B E md_X9_readNumber (d + 1) Q X 15 [(0, .ref 3)] [] h 0 := by
    refine lp_up (P := fun i => p ≤ i → (∀ j, p ≤ j → j < i → j < n ∧ pD (f j) = true) → ∀ h, FTk g h → h 3 5 = g 3 5 → h 3 3 = nI i → h 3 4 = 2 → h 3 6 = nI (vD f p (min (i - p) 4)) → h 3 7 = nI (i - p) → B E md_X9_readNumber (d + 1) Q X 15 [(0, .ref 3)] [] h 0) (fun i hi ih h1 h2 h a1 a2 a3 a4 a5 a6 => ?_)
    have hT1 := hT.cg a1
    have hvd : vD f p (min (i - p) 4) < 10000 := Nat.lt_of_lt_of_le (vD_lt _ (fun j hj => (h2 (p + j) (by omega) (by omega)).2)) (Nat.pow_le_pow_right (n := 10) (by decide) (by omega : min (i - p) 4 ≤ 4))
    refine b_aload_n dX9_readNumber_15 rfl rfl ?_
    refine b_getI lf_X9_22 rfl dX9_readNumber_16 ?_
    refine b_topE (a3) ?_
    refine b_aload_n dX9_readNumber_19 rfl rfl ?_
    refine b_getI lf_X9_19 rfl dX9_readNumber_20 ?_
    refine b_topE (hT1.1) ?_
    refine b_icmp_ge (tgt := 96) dX9_readNumber_23 (by decide) (fun h23 => ?_) (fun h23 => ?_)
    · have e23 : n ≤ i := nn_le (a := n) (b := i) (by omega) (by omega) h23
      refine b_vret rfl (by decide) dX9_readNumber_96 ?_
      rw [sk_eq h1 h2 (fun q => absurd q (by omega))] at hq
      exact hq h a1 a2 a3 a4 a5 a6
    · have e23 : i < n := nn_nle (a := n) (b := i) (by omega) (by omega) h23
      refine b_aload_n dX9_readNumber_26 rfl rfl ?_
      refine b_getR (b := 4) lf_X9_9 rfl rfl dX9_readNumber_27 ?_
      refine b_aload_n dX9_readNumber_30 rfl rfl ?_
      refine b_getI lf_X9_22 rfl dX9_readNumber_31 ?_
      refine b_topE (a3) ?_
      refine b_bldN (j := i) dX9_readNumber_34 (rfl) (by show _ < 600; omega) ?_
      refine b_topE (y := (bSg (f i))) ((hT1.2.2 i (by omega)).2) ?_
      refine b_callS (As := [_]) (st := []) dX9_readNumber_35 lk_X9_60 lm_X9_isDigit ls_X9_isDigit rfl rfl (Nat.le_of_ble_eq_true rfl) (Nat.le_refl _) (by decide) ?_
      refine c_X9_isDigit (hT1.2.2 i (by omega)).1 ?_
      refine b_if_eq (tgt := 96) dX9_readNumber_38 (by decide) (fun h38 => ?_) (fun h38 => ?_)
      · have e38 := b2i_0 h38
        refine b_vret rfl (by decide) dX9_readNumber_96 ?_
        rw [sk_eq h1 h2 (fun q => e38)] at hq
        exact hq h a1 a2 a3 a4 a5 a6
      · have e38 := b2i_1 h38
        have hdg := bSg_v (f i) (hT1.2.2 i (by omega)).1 e38
        refine b_aload_n dX9_readNumber_41 rfl rfl ?_
        refine b_dup dX9_readNumber_42 rfl ?_
        refine b_getI lf_X9_34 rfl dX9_readNumber_43 ?_
        refine b_topE (a6) ?_
        refine b_iconst (v := 1) dX9_readNumber_46 (by decide +kernel) ?_
        refine b_iadd dX9_readNumber_47 ?_
        refine b_topE (nI_add ((i - p)) 1) ?_
        refine b_putI lf_X9_34 lp_9_7 rfl dX9_readNumber_48 ?_
        refine b_aload_n dX9_readNumber_51 rfl rfl ?_
        refine b_getI lf_X9_34 rfl dX9_readNumber_52 ?_
        refine b_topE (by rw [up2_s]) ?_
        refine b_iconst (v := 4) dX9_readNumber_55 (by decide +kernel) ?_
        refine b_icmp_gt (tgt := 83) dX9_readNumber_56 (by decide) (fun h56 => ?_) (fun h56 => ?_)
        · have e56 : 4 < (((i - p) + 1)) := nn_lt (a := 4) (b := (((i - p) + 1))) (by omega) (by omega) h56
          refine b_aload_n dX9_readNumber_83 rfl rfl ?_
          refine b_dup dX9_readNumber_84 rfl ?_
          refine b_getI lf_X9_22 rfl dX9_readNumber_85 ?_
          refine b_topE (y := nI i) (by rw [up2_k _ _ _ _ (by decide)]; exact a3) ?_
          refine b_iconst (v := 1) dX9_readNumber_88 (by decide +kernel) ?_
          refine b_iadd dX9_readNumber_89 ?_
          refine b_topE (nI_add i 1) ?_
          refine b_putI lf_X9_22 lp_9_3 rfl dX9_readNumber_90 ?_
          refine b_goto (tgt := 15) dX9_readNumber_93 (by decide) ?_
          refine ih (i + 1) (by omega) (by omega) (by omega) (fun j a b => ?_) _ (FTk.tr a1 (FTk.tr (FTk.up _ _ (by decide)) (FTk.up _ _ (by decide)))) ?_ ?_ ?_ ?_ ?_
          · rcases Nat.lt_or_ge j i with q | q
            · exact h2 j a q
            · rw [show j = i by omega]; exact ⟨e23, e38⟩
          · rw [up2_k _ _ _ _ (by decide), up2_k _ _ _ _ (by decide)]; exact a2
          · exact up2_s _ _ _ _
          · rw [up2_k _ _ _ _ (by decide), up2_k _ _ _ _ (by decide)]; exact a4
          · rw [show min (i + 1 - p) 4 = min (i - p) 4 by omega, up2_k _ _ _ _ (by decide), up2_k _ _ _ _ (by decide)]; exact a5
          · rw [show i + 1 - p = i - p + 1 by omega, up2_k _ _ _ _ (by decide), up2_s]
        · have e56 : (((i - p) + 1)) ≤ 4 := nn_nlt (a := 4) (b := (((i - p) + 1))) (by omega) (by omega) h56
          refine b_aload_n dX9_readNumber_59 rfl rfl ?_
          refine b_aload_n dX9_readNumber_60 rfl rfl ?_
          refine b_getI lf_X9_31 rfl dX9_readNumber_61 ?_
          refine b_topE (y := nI (vD f p (min (i - p) 4))) (by rw [up2_k _ _ _ _ (by decide)]; exact a5) ?_
          refine b_bipush (v := 10) dX9_readNumber_64 (by decide +kernel) ?_
          refine b_imul dX9_readNumber_66 ?_
          refine b_topE (nI_mul (vD f p (min (i - p) 4)) 10) ?_
          refine b_aload_n dX9_readNumber_67 rfl rfl ?_
          refine b_getR (b := 4) lf_X9_9 rfl rfl dX9_readNumber_68 ?_
          refine b_aload_n dX9_readNumber_71 rfl rfl ?_
          refine b_getI lf_X9_22 rfl dX9_readNumber_72 ?_
          refine b_topE (y := nI i) (by rw [up2_k _ _ _ _ (by decide)]; exact a3) ?_
          refine b_bldN (j := i) dX9_readNumber_75 (rfl) (by show _ < 600; omega) ?_
          refine b_topE (y := nI (f i)) (by rw [up2_f _ _ _ _ (by decide)]; exact (hT1.2.2 i (by omega)).2.trans hdg.1) ?_
          refine b_iadd dX9_readNumber_76 ?_
          refine b_topE (nI_add ((vD f p (min (i - p) 4) * 10)) (f i)) ?_
          refine b_bipush (v := 48) dX9_readNumber_77 (by decide +kernel) ?_
          refine b_isub dX9_readNumber_79 ?_
          refine b_topE (nI_sub (((vD f p (min (i - p) 4) * 10) + f i)) 48 (by omega)) ?_
          refine b_putI lf_X9_31 lp_9_6 rfl dX9_readNumber_80 ?_
          refine b_aload_n dX9_readNumber_83 rfl rfl ?_
          refine b_dup dX9_readNumber_84 rfl ?_
          refine b_getI lf_X9_22 rfl dX9_readNumber_85 ?_
          refine b_topE (y := nI i) (by rw [up2_k _ _ _ _ (by decide), up2_k _ _ _ _ (by decide)]; exact a3) ?_
          refine b_iconst (v := 1) dX9_readNumber_88 (by decide +kernel) ?_
          refine b_iadd dX9_readNumber_89 ?_
          refine b_topE (nI_add i 1) ?_
          refine b_putI lf_X9_22 lp_9_3 rfl dX9_readNumber_90 ?_
          refine b_goto (tgt := 15) dX9_readNumber_93 (by decide) ?_
          refine ih (i + 1) (by omega) (by omega) (by omega) (fun j a b => ?_) _ (FTk.tr a1 (FTk.tr (FTk.tr (FTk.up _ _ (by decide)) (FTk.up _ _ (by decide))) (FTk.up _ _ (by decide)))) ?_ ?_ ?_ ?_ ?_
          · rcases Nat.lt_or_ge j i with q | q
            · exact h2 j a q
            · rw [show j = i by omega]; exact ⟨e23, e38⟩
          · rw [up2_k _ _ _ _ (by decide), up2_k _ _ _ _ (by decide), up2_k _ _ _ _ (by decide)]; exact a2
          · exact up2_s _ _ _ _
          · rw [up2_k _ _ _ _ (by decide), up2_k _ _ _ _ (by decide), up2_k _ _ _ _ (by decide)]; exact a4
          · rw [show min (i + 1 - p) 4 = (i - p) + 1 by omega, vD, show p + (i - p) = i by omega, up2_k _ _ _ _ (by decide), up2_s, show min (i - p) 4 = i - p by omega]; exact congrArg nI (by omega)
          · rw [show i + 1 - p = i - p + 1 by omega, up2_k _ _ _ _ (by decide), up2_k _ _ _ _ (by decide), up2_s]
  refine b_aload_n dX9_readNumber_0 rfl rfl ?_
  refine b_iconst (v := 2) dX9_readNumber_1 (by decide +kernel) ?_
  refine b_putI lf_X9_25 lp_9_4 rfl dX9_readNumber_2 ?_
  refine b_aload_n dX9_readNumber_5 rfl rfl ?_
  refine b_iconst (v := 0) dX9_readNumber_6 (by decide +kernel) ?_
  refine b_putI lf_X9_31 lp_9_6 rfl dX9_readNumber_7 ?_
  refine b_aload_n dX9_readNumber_10 rfl rfl ?_
  refine b_iconst (v := 0) dX9_readNumber_11 (by decide +kernel) ?_
  refine b_putI lf_X9_34 lp_9_7 rfl dX9_readNumber_12 ?_
  refine key p hp (Nat.le_refl _) (fun j a b => absurd b (by omega)) _ (FTk.tr (FTk.tr (FTk.up _ _ (by decide)) (FTk.up _ _ (by decide))) (FTk.up _ _ (by decide))) (by rw [up2_k _ _ _ _ (by decide), up2_k _ _ _ _ (by decide), up2_k _ _ _ _ (by decide)]) (by rw [up2_k _ _ _ _ (by decide), up2_k _ _ _ _ (by decide), up2_k _ _ _ _ (by decide)]; exact h3) (by rw [up2_k _ _ _ _ (by decide), up2_k _ _ _ _ (by decide), up2_s]) ?_ ?_
  · rw [Nat.sub_self, up2_k _ _ _ _ (by decide), up2_s]; rfl
  · rw [Nat.sub_self]; exact up2_s _ _ _ _
theorem eqP_iff {f : Nat → Nat} : ∀ {w : List Nat} {p : Nat}, eqP f p w = true ↔ ∀ j, j < w.length → f (p + j) = w.getD j 0
  | [], p => ⟨fun _ j hj => absurd hj (by simp), fun _ => rfl⟩
  | x :: r, p => by
    simp only [eqP, Bool.and_eq_true, beq_iff_eq, eqP_iff (w := r) (p := p + 1)]
    constructor
    · rintro ⟨h1, h2⟩ j hj
      cases j with
      | zero => exact h1
      | succ j => rw [← Nat.add_assoc, Nat.add_right_comm]; exact h2 j (by simpa using hj)
    · intro h
      exact ⟨h 0 (by simp), fun j hj => by have := h (j + 1) (by simpa using hj); rw [← Nat.add_assoc, Nat.add_right_comm] at this; exact this⟩
theorem mapD {w : List Nat} {j : Nat} (h : j < w.length) : (w.map nI).getD j 0 = nI (w.getD j 0) := by
  simp [List.getD, List.getElem?_eq_getElem h]
/-- a word and its string -/
def strW (q : Nat × Nat × List Int32) (w : List Nat) : Prop := q.2.1 = w.length ∧ q.2.2 = w.map nI ∧ w.length < 20 ∧ ∀ x ∈ w, x < 128
theorem strW_at {q : Nat × Nat × List Int32} {w : List Nat} {j : Nat} (h : strW q w) (hj : j < w.length) : q.2.2.getD j 0 = nI (w.getD j 0) ∧ w.getD j 0 < 128 := by
  refine ⟨by rw [h.2.1]; exact mapD hj, h.2.2.2 _ ?_⟩
  simp only [List.getD, List.getElem?_eq_getElem hj, Option.getD_some]
  exact List.getElem_mem _
theorem c_X9_spells {E : En} {d : Nat} {Q : QT} {X : XT} {g : G2} {f : Nat → Nat} {n p af : Nat} {q : Nat × Nat × List Int32} {w : List Nat} (hs : q ∈ strC) (hw : strW q w) (hT : RTc g f n) (h3 : g 3 3 = nI af) (h5 : g 3 5 = nI p) (hp : p ≤ af) (ha : af ≤ n) (hq : Q (some (.int (b2i (eqW f p af w)))) g) : M E md_X9_spells (d + 4) [.ref 3, .ref (1000 + q.1)] g Q X := by
  refine M.of _ rfl rfl (Nat.le_of_ble_eq_true rfl) ?_
  have hn := hT.2.1
  have hw2 := hw.2.2.1
  refine b_aload_n dX9_spells_0 rfl rfl ?_
  refine b_getI lf_X9_22 rfl dX9_spells_1 ?_
  refine b_topE (h3) ?_
  refine b_aload_n dX9_spells_4 rfl rfl ?_
  refine b_getI lf_X9_28 rfl dX9_spells_5 ?_
  refine b_topE (h5) ?_
  refine b_isub dX9_spells_8 ?_
  refine b_topE (nI_sub af p (by omega)) ?_
  refine b_aload_n dX9_spells_9 rfl rfl ?_
  refine b_callT (q := q) (As := []) (st := [_]) hs dX9_spells_10 lk_X9_106 lm_J0_length_8abf5 lv_J0_length_8abf5 rfl rfl rfl (Nat.le_of_ble_eq_true rfl) (Nat.le_refl _) (by decide) ?_
  refine c_str_length (d := d + 2) hs ?_
  rw [hw.1]
  refine b_icmp_eq (tgt := 18) dX9_spells_13 (by decide) (fun h13 => ?_) (fun h13 => ?_)
  · have e13 : ((af - p)) = w.length := nI_inj (a := ((af - p))) (b := w.length) (by omega) (by omega) h13
    refine b_iconst (v := 0) dX9_spells_18 (by decide +kernel) ?_
    refine b_istore_n (lv' := [(0, _), (1, _), (2, _)]) dX9_spells_19 rfl (by decide) rfl rfl ?_
    have hl : af - p = w.length := e13
    have key : ∀ i, i ≤ w.length → (∀ j, j < i → f (p + j) = w.getD j 0) → B E md_X9_spells (d + 4) Q X 20 [(0, .ref 3), (1, .ref (1000 + q.1)), (2, .int (nI i))] [] g 0 := by
      refine lp_up (P := fun i => (∀ j, j < i → f (p + j) = w.getD j 0) → B E md_X9_spells (d + 4) Q X 20 [(0, .ref 3), (1, .ref (1000 + q.1)), (2, .int (nI i))] [] g 0) (fun i hi ih h2 => ?_)
      refine b_iload_n dX9_spells_20 rfl rfl ?_
      refine b_aload_n dX9_spells_21 rfl rfl ?_
      refine b_callT (q := q) (As := []) (st := [_]) hs dX9_spells_22 lk_X9_106 lm_J0_length_8abf5 lv_J0_length_8abf5 rfl rfl rfl (Nat.le_of_ble_eq_true rfl) (Nat.le_refl _) (by decide) ?_
      refine c_str_length (d := d + 2) hs ?_
      rw [hw.1]
      refine b_icmp_ge (tgt := 55) dX9_spells_25 (by decide) (fun h25 => ?_) (fun h25 => ?_)
      · have e25 : w.length ≤ i := nn_le (a := w.length) (b := i) (by omega) (by omega) h25
        refine b_iconst (v := 1) dX9_spells_55 (by decide +kernel) ?_
        refine b_zret (Or.inr rfl) rfl (by decide) dX9_spells_56 ?_
        rw [show eqW f p af w = true from by unfold eqW; rw [eqP_iff.mpr (fun j hj => h2 j (by omega)), Bool.and_true]; exact beq_iff_eq.mpr hl] at hq
        exact hq
      · have e25 : i < w.length := nn_nle (a := w.length) (b := i) (by omega) (by omega) h25
        refine b_aload_n dX9_spells_28 rfl rfl ?_
        refine b_getR (b := 4) lf_X9_9 rfl rfl dX9_spells_29 ?_
        refine b_aload_n dX9_spells_32 rfl rfl ?_
        refine b_getI lf_X9_28 rfl dX9_spells_33 ?_
        refine b_topE (h5) ?_
        refine b_iload_n dX9_spells_36 rfl rfl ?_
        refine b_iadd dX9_spells_37 ?_
        refine b_topE (nI_add p i) ?_
        refine b_bldN (j := (p + i)) dX9_spells_38 (rfl) (by show _ < 600; omega) ?_
        refine b_topE (y := (bSg (f (p + i)))) ((hT.2.2 (p + i) (by omega)).2) ?_
        refine b_aload_n dX9_spells_39 rfl rfl ?_
        refine b_iload_n dX9_spells_40 rfl rfl ?_
        refine b_callT (q := q) (As := [_]) (st := [_]) hs dX9_spells_41 lk_X9_110 lm_J0_charAt_5068e lv_J0_charAt_5068e rfl rfl rfl (Nat.le_of_ble_eq_true rfl) (Nat.le_refl _) (by decide) ?_
        refine c_str_charAt (d := d) hs (by rw [hw.1]; exact e25) ?_
        rw [(strW_at hw e25).1]
        refine b_icmp_eq (tgt := 49) dX9_spells_44 (by decide) (fun h44 => ?_) (fun h44 => ?_)
        · have e44 := (bSg_e (hT.2.2 (p + i) (by omega)).1 (strW_at hw e25).2).mp h44
          refine b_incN (j := i) (lv' := [(0, _), (1, _), (2, _)]) dX9_spells_49 rfl rfl (by decide) rfl rfl ?_
          refine b_goto (tgt := 20) dX9_spells_52 (by decide) ?_
          refine ih (i + 1) (by omega) (by omega) (fun j hj => ?_)
          rcases Nat.lt_or_ge j i with q9 | q9
          · exact h2 j q9
          · rw [show j = i by omega]; exact e44
        · have e44 : ¬ f (p + i) = w.getD i 0 := fun q => h44 ((bSg_e (hT.2.2 (p + i) (by omega)).1 (strW_at hw e25).2).mpr q)
          refine b_iconst (v := 0) dX9_spells_47 (by decide +kernel) ?_
          refine b_zret (Or.inl rfl) rfl (by decide) dX9_spells_48 ?_
          rw [show eqW f p af w = false from by unfold eqW; rw [Bool.and_eq_false_iff]; right; exact Bool.eq_false_iff.mpr (fun q => e44 (eqP_iff.mp q i e25))] at hq
          exact hq
    exact key 0 (Nat.zero_le _) (fun j hj => absurd hj (by omega))
  · have e13 : ((af - p)) ≠ w.length := fun q => h13 (congrArg nI q)
    refine b_iconst (v := 0) dX9_spells_16 (by decide +kernel) ?_
    refine b_zret (Or.inl rfl) rfl (by decide) dX9_spells_17 ?_
    rw [show eqW f p af w = false from by unfold eqW; rw [beq_eq_false_iff_ne.mpr e13]; rfl] at hq
    exact hq
