/-! the tokens of the text, the model's -/
def RTm (g : G2) (f : Nat → Nat) (n : Nat) : Prop := g 84 17 = nI n ∧ n ≤ 600 ∧ ∀ i, i < n → f i < 256 ∧ g 98 i = nI (f i)
def tkM (k : Nat) : Nat := if k = 0 then 0 else if k = 1 then 4 else if k = 2 then 2 else if 99 ≤ k then 1 else 3
def Rtm (g : G2) (t : Tk) : Prop := g 84 16 = nI t.af ∧ g 84 21 = nI t.af ∧ g 84 20 = nI t.pl ∧ g 84 18 = nI (tkM t.k) ∧ (t.k = 2 → t.dg ≤ 4 → g 84 19 = nI t.v)
/-- what stepOn leaves as it was -/
def FMk (g h : G2) : Prop := (∀ y, y ≠ 84 → h y = g y) ∧ ∀ j, ¬ (j = 16 ∨ (18 ≤ j ∧ j ≤ 21)) → h 84 j = g 84 j
theorem FMk.rf (g : G2) : FMk g g := ⟨fun _ _ => rfl, fun _ _ => rfl⟩
theorem FMk.tr {g h k : G2} (h1 : FMk g h) (h2 : FMk h k) : FMk g k := ⟨fun y q => (h2.1 y q).trans (h1.1 y q), fun j q => (h2.2 j q).trans (h1.2 j q)⟩
theorem FMk.up (g : G2) {k : Nat} (x : Int32) (hk : k = 16 ∨ (18 ≤ k ∧ k ≤ 21)) : FMk g (up2 g 84 k x) := ⟨fun y hy => up2_f _ _ _ _ hy, fun j hj => up2_k _ _ _ _ (by omega)⟩
theorem RTm.cg {g h : G2} {f : Nat → Nat} {n : Nat} (hT : RTm g f n) (F : FMk g h) : RTm h f n := ⟨by rw [F.2 17 (by decide)]; exact hT.1, hT.2.1, fun i hi => by rw [F.1 98 (by decide)]; exact hT.2.2 i hi⟩
def byN (f : Nat → Nat) (n i : Nat) : Int32 := if i < n then nI (f i) else -1
theorem byN_i {f : Nat → Nat} {n i : Nat} (h : i < n) : byN f n i = nI (f i) := if_pos h
theorem byN_o {f : Nat → Nat} {n i : Nat} (h : ¬ i < n) : byN f n i = -1 := if_neg h
theorem byN_b {f : Nat → Nat} {n i : Nat} (hf : i < n → f i < 256) (h : byN f n i = 32 ∨ byN f n i = 10) : i < n ∧ pB (f i) = true := by
  by_cases q : i < n
  · rw [byN_i q] at h
    refine ⟨q, ?_⟩
    rcases h with h | h
    · rw [nI_inj (b := 32) (by have := hf q; omega) (by decide) h]; rfl
    · rw [nI_inj (b := 10) (by have := hf q; omega) (by decide) h]; rfl
  · rw [byN_o q] at h
    exact absurd h (by decide)
theorem byN_nb {f : Nat → Nat} {n i : Nat} (h1 : ¬ byN f n i = 32) (h2 : ¬ byN f n i = 10) (q : i < n) : pB (f i) = false := by
  rw [byN_i q] at h1 h2
  simp only [pB, Bool.or_eq_false_iff, beq_eq_false_iff_ne]
  exact ⟨fun e => h1 (by rw [e]; rfl), fun e => h2 (by rw [e]; rfl)⟩
theorem nI_tests : ∀ x, x < 256 → (decide ((97 : Int32) ≤ nI x) && decide (nI x ≤ 122)) = pL x ∧ (decide ((48 : Int32) ≤ nI x) && decide (nI x ≤ 57)) = pD x := by decide +kernel
def smB (y : Int32) : Bool := y == 59 || y == 40 || y == 41 || y == 43 || y == 45 || y == 42 || y == 47 || y == 60 || y == 61
theorem nI_smB : ∀ x, x < 256 → smB (nI x) = pS x := by decide +kernel
theorem c_X12_byteAt {E : En} {d : Nat} {Q : QT} {X : XT} {g : G2} {f : Nat → Nat} {n i : Nat} (hT : RTm g f n) (hi : i ≤ 600) (hq : Q (some (.int (byN f n i))) g) : M E md_X12_byteAt d [.ref 84, .int (nI i)] g Q X := by
  refine M.of _ rfl rfl (Nat.le_of_ble_eq_true rfl) ?_
  have hn := hT.2.1
  refine b_iload_n dX12_byteAt_0 rfl rfl ?_
  refine b_aload_n dX12_byteAt_1 rfl rfl ?_
  refine b_getI lf_X12_175 rfl dX12_byteAt_2 ?_
  refine b_topE (hT.1) ?_
  refine b_icmp_ge (tgt := 17) dX12_byteAt_5 (by decide) (fun h5 => ?_) (fun h5 => ?_)
  · have e5 : n ≤ i := nn_le (a := n) (b := i) (by omega) (by omega) h5
    refine b_iconst (v := (-1)) dX12_byteAt_17 (by decide +kernel) ?_
    refine b_iret rfl (by decide) dX12_byteAt_18 ?_
    rw [byN_o (by omega)] at hq
    exact hq
  · have e5 : i < n := nn_nle (a := n) (b := i) (by omega) (by omega) h5
    refine b_aload_n dX12_byteAt_8 rfl rfl ?_
    refine b_getR (b := 98) lf_X12_73 rfl rfl dX12_byteAt_9 ?_
    refine b_iload_n dX12_byteAt_12 rfl rfl ?_
    refine b_ildN (j := i) dX12_byteAt_13 (rfl) (by show _ < 600; omega) ?_
    refine b_topE (y := (nI (f i))) ((hT.2.2 i (by omega)).2) ?_
    refine b_goto (tgt := 18) dX12_byteAt_14 (by decide) ?_
    refine b_iret rfl (by decide) dX12_byteAt_18 ?_
    rw [byN_i (by omega)] at hq
    exact hq
theorem c_X12_isLetter0 {E : En} {d : Nat} {Q : QT} {X : XT} {g : G2} {x : Int32} (hq : Q (some (.int (b2i (decide (97 ≤ x) && decide (x ≤ 122))))) g) : M E md_X12_isLetter d [.int x] g Q X := by
  refine M.of _ rfl rfl (Nat.le_of_ble_eq_true rfl) ?_
  refine b_iload_n dX12_isLetter_0 rfl rfl ?_
  refine b_bipush (v := 97) dX12_isLetter_1 (by decide +kernel) ?_
  refine b_icmp_lt (tgt := 16) dX12_isLetter_3 (by decide) (fun h3 => ?_) (fun h3 => ?_)
  · refine b_iconst (v := 0) dX12_isLetter_16 (by decide +kernel) ?_
    refine b_zret (Or.inl rfl) rfl (by decide) dX12_isLetter_17 ?_
    have e : (decide (97 ≤ x) && decide (x ≤ 122)) = false := by rw [decide_eq_false (Int32.not_le.mpr h3)]; rfl
    rw [e] at hq; exact hq
  · refine b_iload_n dX12_isLetter_6 rfl rfl ?_
    refine b_bipush (v := 122) dX12_isLetter_7 (by decide +kernel) ?_
    refine b_icmp_gt (tgt := 16) dX12_isLetter_9 (by decide) (fun h9 => ?_) (fun h9 => ?_)
    · refine b_iconst (v := 0) dX12_isLetter_16 (by decide +kernel) ?_
      refine b_zret (Or.inl rfl) rfl (by decide) dX12_isLetter_17 ?_
      have e : (decide (97 ≤ x) && decide (x ≤ 122)) = false := by rw [decide_eq_false (Int32.not_le.mpr h9), Bool.and_false]
      rw [e] at hq; exact hq
    · refine b_iconst (v := 1) dX12_isLetter_12 (by decide +kernel) ?_
      refine b_goto (tgt := 17) dX12_isLetter_13 (by decide) ?_
      refine b_zret (Or.inr rfl) rfl (by decide) dX12_isLetter_17 ?_
      have e : (decide (97 ≤ x) && decide (x ≤ 122)) = true := by rw [decide_eq_true (Int32.not_lt.mp h3), decide_eq_true (Int32.not_lt.mp h9)]; rfl
      rw [e] at hq; exact hq
theorem c_X12_isLetter {E : En} {d : Nat} {Q : QT} {X : XT} {g : G2} {f : Nat → Nat} {n i : Nat} (hf : i < n → f i < 256) (hq : Q (some (.int (b2i (decide (i < n) && pL (f i))))) g) : M E md_X12_isLetter d [.int (byN f n i)] g Q X := by
  refine c_X12_isLetter0 ?_
  by_cases h : i < n
  · rw [byN_i h, (nI_tests (f i) (hf h)).1]; rw [decide_eq_true h] at hq; exact hq
  · rw [byN_o h]; rw [decide_eq_false h] at hq; exact hq
theorem c_X12_isDigit0 {E : En} {d : Nat} {Q : QT} {X : XT} {g : G2} {x : Int32} (hq : Q (some (.int (b2i (decide (48 ≤ x) && decide (x ≤ 57))))) g) : M E md_X12_isDigit d [.int x] g Q X := by
  refine M.of _ rfl rfl (Nat.le_of_ble_eq_true rfl) ?_
  refine b_iload_n dX12_isDigit_0 rfl rfl ?_
  refine b_bipush (v := 48) dX12_isDigit_1 (by decide +kernel) ?_
  refine b_icmp_lt (tgt := 16) dX12_isDigit_3 (by decide) (fun h3 => ?_) (fun h3 => ?_)
  · refine b_iconst (v := 0) dX12_isDigit_16 (by decide +kernel) ?_
    refine b_zret (Or.inl rfl) rfl (by decide) dX12_isDigit_17 ?_
    have e : (decide (48 ≤ x) && decide (x ≤ 57)) = false := by rw [decide_eq_false (Int32.not_le.mpr h3)]; rfl
    rw [e] at hq; exact hq
  · refine b_iload_n dX12_isDigit_6 rfl rfl ?_
    refine b_bipush (v := 57) dX12_isDigit_7 (by decide +kernel) ?_
    refine b_icmp_gt (tgt := 16) dX12_isDigit_9 (by decide) (fun h9 => ?_) (fun h9 => ?_)
    · refine b_iconst (v := 0) dX12_isDigit_16 (by decide +kernel) ?_
      refine b_zret (Or.inl rfl) rfl (by decide) dX12_isDigit_17 ?_
      have e : (decide (48 ≤ x) && decide (x ≤ 57)) = false := by rw [decide_eq_false (Int32.not_le.mpr h9), Bool.and_false]
      rw [e] at hq; exact hq
    · refine b_iconst (v := 1) dX12_isDigit_12 (by decide +kernel) ?_
      refine b_goto (tgt := 17) dX12_isDigit_13 (by decide) ?_
      refine b_zret (Or.inr rfl) rfl (by decide) dX12_isDigit_17 ?_
      have e : (decide (48 ≤ x) && decide (x ≤ 57)) = true := by rw [decide_eq_true (Int32.not_lt.mp h3), decide_eq_true (Int32.not_lt.mp h9)]; rfl
      rw [e] at hq; exact hq
theorem c_X12_isDigit {E : En} {d : Nat} {Q : QT} {X : XT} {g : G2} {f : Nat → Nat} {n i : Nat} (hf : i < n → f i < 256) (hq : Q (some (.int (b2i (decide (i < n) && pD (f i))))) g) : M E md_X12_isDigit d [.int (byN f n i)] g Q X := by
  refine c_X12_isDigit0 ?_
  by_cases h : i < n
  · rw [byN_i h, (nI_tests (f i) (hf h)).2]; rw [decide_eq_true h] at hq; exact hq
  · rw [byN_o h]; rw [decide_eq_false h] at hq; exact hq
theorem c_X12_isMark0 {E : En} {d : Nat} {Q : QT} {X : XT} {g : G2} {x : Int32} (hq : Q (some (.int (b2i (smB x)))) g) : M E md_X12_isMark d [.int x] g Q X := by
  refine M.of _ rfl rfl (Nat.le_of_ble_eq_true rfl) ?_
  refine b_iload_n dX12_isMark_0 rfl rfl ?_
  refine b_bipush (v := 59) dX12_isMark_1 (by decide +kernel) ?_
  refine b_icmp_eq (tgt := 54) dX12_isMark_3 (by decide) (fun h3 => ?_) (fun h3 => ?_)
  · refine b_iconst (v := 1) dX12_isMark_54 (by decide +kernel) ?_
    refine b_goto (tgt := 59) dX12_isMark_55 (by decide) ?_
    refine b_zret (Or.inr rfl) rfl (by decide) dX12_isMark_59 ?_
    rw [show smB x = true from by simp_all [smB]] at hq
    exact hq
  · refine b_iload_n dX12_isMark_6 rfl rfl ?_
    refine b_bipush (v := 40) dX12_isMark_7 (by decide +kernel) ?_
    refine b_icmp_eq (tgt := 54) dX12_isMark_9 (by decide) (fun h9 => ?_) (fun h9 => ?_)
    · refine b_iconst (v := 1) dX12_isMark_54 (by decide +kernel) ?_
      refine b_goto (tgt := 59) dX12_isMark_55 (by decide) ?_
      refine b_zret (Or.inr rfl) rfl (by decide) dX12_isMark_59 ?_
      rw [show smB x = true from by simp_all [smB]] at hq
      exact hq
    · refine b_iload_n dX12_isMark_12 rfl rfl ?_
      refine b_bipush (v := 41) dX12_isMark_13 (by decide +kernel) ?_
      refine b_icmp_eq (tgt := 54) dX12_isMark_15 (by decide) (fun h15 => ?_) (fun h15 => ?_)
      · refine b_iconst (v := 1) dX12_isMark_54 (by decide +kernel) ?_
        refine b_goto (tgt := 59) dX12_isMark_55 (by decide) ?_
        refine b_zret (Or.inr rfl) rfl (by decide) dX12_isMark_59 ?_
        rw [show smB x = true from by simp_all [smB]] at hq
        exact hq
      · refine b_iload_n dX12_isMark_18 rfl rfl ?_
        refine b_bipush (v := 43) dX12_isMark_19 (by decide +kernel) ?_
        refine b_icmp_eq (tgt := 54) dX12_isMark_21 (by decide) (fun h21 => ?_) (fun h21 => ?_)
        · refine b_iconst (v := 1) dX12_isMark_54 (by decide +kernel) ?_
          refine b_goto (tgt := 59) dX12_isMark_55 (by decide) ?_
          refine b_zret (Or.inr rfl) rfl (by decide) dX12_isMark_59 ?_
          rw [show smB x = true from by simp_all [smB]] at hq
          exact hq
        · refine b_iload_n dX12_isMark_24 rfl rfl ?_
          refine b_bipush (v := 45) dX12_isMark_25 (by decide +kernel) ?_
          refine b_icmp_eq (tgt := 54) dX12_isMark_27 (by decide) (fun h27 => ?_) (fun h27 => ?_)
          · refine b_iconst (v := 1) dX12_isMark_54 (by decide +kernel) ?_
            refine b_goto (tgt := 59) dX12_isMark_55 (by decide) ?_
            refine b_zret (Or.inr rfl) rfl (by decide) dX12_isMark_59 ?_
            rw [show smB x = true from by simp_all [smB]] at hq
            exact hq
          · refine b_iload_n dX12_isMark_30 rfl rfl ?_
            refine b_bipush (v := 42) dX12_isMark_31 (by decide +kernel) ?_
            refine b_icmp_eq (tgt := 54) dX12_isMark_33 (by decide) (fun h33 => ?_) (fun h33 => ?_)
            · refine b_iconst (v := 1) dX12_isMark_54 (by decide +kernel) ?_
              refine b_goto (tgt := 59) dX12_isMark_55 (by decide) ?_
              refine b_zret (Or.inr rfl) rfl (by decide) dX12_isMark_59 ?_
              rw [show smB x = true from by simp_all [smB]] at hq
              exact hq
            · refine b_iload_n dX12_isMark_36 rfl rfl ?_
              refine b_bipush (v := 47) dX12_isMark_37 (by decide +kernel) ?_
              refine b_icmp_eq (tgt := 54) dX12_isMark_39 (by decide) (fun h39 => ?_) (fun h39 => ?_)
              · refine b_iconst (v := 1) dX12_isMark_54 (by decide +kernel) ?_
                refine b_goto (tgt := 59) dX12_isMark_55 (by decide) ?_
                refine b_zret (Or.inr rfl) rfl (by decide) dX12_isMark_59 ?_
                rw [show smB x = true from by simp_all [smB]] at hq
                exact hq
              · refine b_iload_n dX12_isMark_42 rfl rfl ?_
                refine b_bipush (v := 60) dX12_isMark_43 (by decide +kernel) ?_
                refine b_icmp_eq (tgt := 54) dX12_isMark_45 (by decide) (fun h45 => ?_) (fun h45 => ?_)
                · refine b_iconst (v := 1) dX12_isMark_54 (by decide +kernel) ?_
                  refine b_goto (tgt := 59) dX12_isMark_55 (by decide) ?_
                  refine b_zret (Or.inr rfl) rfl (by decide) dX12_isMark_59 ?_
                  rw [show smB x = true from by simp_all [smB]] at hq
                  exact hq
                · refine b_iload_n dX12_isMark_48 rfl rfl ?_
                  refine b_bipush (v := 61) dX12_isMark_49 (by decide +kernel) ?_
                  refine b_icmp_ne (tgt := 58) dX12_isMark_51 (by decide) (fun h51 => ?_) (fun h51 => ?_)
                  · refine b_iconst (v := 0) dX12_isMark_58 (by decide +kernel) ?_
                    refine b_zret (Or.inl rfl) rfl (by decide) dX12_isMark_59 ?_
                    rw [show smB x = false from by simp_all [smB]] at hq
                    exact hq
                  · refine b_iconst (v := 1) dX12_isMark_54 (by decide +kernel) ?_
                    refine b_goto (tgt := 59) dX12_isMark_55 (by decide) ?_
                    refine b_zret (Or.inr rfl) rfl (by decide) dX12_isMark_59 ?_
                    rw [show smB x = true from by simp_all [smB]] at hq
                    exact hq
theorem mn_nI {a b : Nat} (ha : a < 2 ^ 31) (hb : b < 2 ^ 31) : (if nI a < nI b then nI a else nI b) = nI (if a < b then a else b) := by
  by_cases h : a < b
  · rw [if_pos (nI_lt h hb), if_pos h]
  · rw [if_neg (nI_nlt (by omega) ha), if_neg h]
theorem pS_3 : ∀ {x : Nat}, pS x = true → tkM x = 3 := by
  intro x h
  have h8 : x < 62 := by
    simp only [pS, Bool.or_eq_true, beq_iff_eq] at h
    omega
  have : ∀ x, x < 62 → pS x = true → tkM x = 3 := by decide +kernel
  exact this x h8 h
theorem c_X12_stepOn {E : En} {d : Nat} {Q : QT} {X : XT} {g : G2} {f : Nat → Nat} {n p : Nat} (hT : RTm g f n) (h3 : g 84 16 = nI p) (hp : p ≤ n) (hq : ∀ h, FMk g h → Rtm h (nxt f n p) → Q none h) : M E md_X12_stepOn (d + 1) [.ref 84] g Q X := by
  refine M.of _ rfl rfl (Nat.le_of_ble_eq_true rfl) ?_
  have hn := hT.2.1
  unfold nxt at hq
  have K : ∀ i, i ≤ n → i = sk pB f n p → B E md_X12_stepOn (d + 1) Q X 39 [(0, .ref 84)] [] (up2 g 84 16 (nI i)) 0 := by
    intro i hi0 hi
    refine b_aload_n dX12_stepOn_39 rfl rfl ?_
    refine b_aload_n dX12_stepOn_40 rfl rfl ?_
    refine b_getI lf_X12_178 rfl dX12_stepOn_41 ?_
    refine b_topE (by rw [up2_s]) ?_
    refine b_putI lf_X12_185 lp_12_20 rfl dX12_stepOn_44 ?_
    have F1 : FMk g (up2 (up2 g 84 16 (nI i)) 84 20 (nI i)) := FMk.tr (FMk.up _ _ (by decide)) (FMk.up _ _ (by decide))
    have a3 : up2 (up2 g 84 16 (nI i)) 84 20 (nI i) 84 16 = nI i := by rw [up2_k _ _ _ _ (by decide), up2_s]
    have a5 : up2 (up2 g 84 16 (nI i)) 84 20 (nI i) 84 20 = nI i := up2_s _ _ _ _
    have T1 := hT.cg F1
    generalize up2 (up2 g 84 16 (nI i)) 84 20 (nI i) = g1 at F1 a3 a5 T1 ⊢
    refine b_aload_n dX12_stepOn_47 rfl rfl ?_
    refine b_aload_n dX12_stepOn_48 rfl rfl ?_
    refine b_getI lf_X12_178 rfl dX12_stepOn_49 ?_
    refine b_topE (a3) ?_
    refine b_callV (As := [_]) (st := []) dX12_stepOn_52 lk_X12_181 lm_X12_byteAt lv_X12_byteAt rfl (by decide) rfl rfl rfl (Nat.le_of_ble_eq_true rfl) (Nat.le_refl _) (by decide) ?_
    refine c_X12_byteAt (i := i) T1 (by omega) ?_
    refine b_istore_n (lv' := [(0, _), (1, _)]) dX12_stepOn_55 rfl (by decide) rfl rfl ?_
    refine b_iload_n dX12_stepOn_56 rfl rfl ?_
    refine b_iconst (v := (-1)) dX12_stepOn_57 (by decide +kernel) ?_
    refine b_icmp_ne (tgt := 69) dX12_stepOn_58 (by decide) (fun h58 => ?_) (fun h58 => ?_)
    · have e58 : i < n := by
        rcases Nat.lt_or_ge i n with q | q
        · exact q
        · exact absurd (byN_o (by omega)) h58
      have hfi := (T1.2.2 i e58).1
      refine b_iload_n dX12_stepOn_69 rfl rfl ?_
      refine b_callS (As := [_]) (st := []) dX12_stepOn_70 lk_X12_191 lm_X12_isLetter ls_X12_isLetter rfl rfl (Nat.le_of_ble_eq_true rfl) (Nat.le_refl _) (by decide) ?_
      refine c_X12_isLetter (f := f) (n := n) (i := i) (fun q => (T1.2.2 i q).1) ?_
      rw [decide_eq_true e58, Bool.true_and]
      refine b_if_eq (tgt := 111) dX12_stepOn_73 (by decide) (fun h73 => ?_) (fun h73 => ?_)
      · have e73 := b2i_0 h73
        have hl := e73
        refine b_iload_n dX12_stepOn_111 rfl rfl ?_
        refine b_callS (As := [_]) (st := []) dX12_stepOn_112 lk_X12_195 lm_X12_isDigit ls_X12_isDigit rfl rfl (Nat.le_of_ble_eq_true rfl) (Nat.le_refl _) (by decide) ?_
        refine c_X12_isDigit (f := f) (n := n) (i := i) (fun q => (T1.2.2 i q).1) ?_
        rw [decide_eq_true e58, Bool.true_and]
        refine b_if_eq (tgt := 186) dX12_stepOn_115 (by decide) (fun h115 => ?_) (fun h115 => ?_)
        · have e115 := b2i_0 h115
          have hd := e115
          refine b_aload_n dX12_stepOn_186 rfl rfl ?_
          refine b_dup dX12_stepOn_187 rfl ?_
          refine b_getI lf_X12_178 rfl dX12_stepOn_188 ?_
          refine b_topE (a3) ?_
          refine b_iconst (v := 1) dX12_stepOn_191 (by decide +kernel) ?_
          refine b_iadd dX12_stepOn_192 ?_
          refine b_topE (nI_add i 1) ?_
          refine b_putI lf_X12_178 lp_12_16 rfl dX12_stepOn_193 ?_
          refine b_aload_n dX12_stepOn_196 rfl rfl ?_
          refine b_iload_n dX12_stepOn_197 rfl rfl ?_
          refine b_callS (As := [_]) (st := [_]) dX12_stepOn_198 lk_X12_208 lm_X12_isMark ls_X12_isMark rfl rfl (Nat.le_of_ble_eq_true rfl) (Nat.le_refl _) (by decide) ?_
          rw [byN_i e58]
          refine c_X12_isMark0 ?_
          rw [nI_smB _ hfi]
          refine b_if_eq (tgt := 208) dX12_stepOn_201 (by decide) (fun h201 => ?_) (fun h201 => ?_)
          · have e201 := b2i_0 h201
            refine b_iconst (v := 4) dX12_stepOn_208 (by decide +kernel) ?_
            refine b_putI lf_X12_188 lp_12_18 rfl dX12_stepOn_209 ?_
            refine b_aload_n dX12_stepOn_212 rfl rfl ?_
            refine b_aload_n dX12_stepOn_213 rfl rfl ?_
            refine b_getI lf_X12_178 rfl dX12_stepOn_214 ?_
            refine b_topE (by rw [up2_k _ _ _ _ (by decide), up2_s]) ?_
            refine b_putI lf_X12_211 lp_12_21 rfl dX12_stepOn_217 ?_
            refine b_vret rfl (by decide) dX12_stepOn_220 ?_
            refine hq _ (F1.tr (FMk.tr (FMk.tr (FMk.up _ _ (by decide)) (FMk.up _ _ (by decide))) (FMk.up _ _ (by decide)))) ?_
            rw [← hi]
            unfold tkA
            rw [if_neg (by omega), if_neg (by rw [hl]; decide), if_neg (by rw [hd]; decide)]
            have e9 : (if pS (f i) = true then f i else 1) = 1 := if_neg (by rw [e201]; decide)
            rw [e9]
            exact ⟨by rw [up2_k _ _ _ _ (by decide), up2_k _ _ _ _ (by decide), up2_s], up2_s _ _ _ _, by rw [up2_k _ _ _ _ (by decide), up2_k _ _ _ _ (by decide), up2_k _ _ _ _ (by decide)]; exact a5, by rw [up2_k _ _ _ _ (by decide), up2_s]; rfl, fun q => absurd q (by show ¬ (1 : Nat) = 2; decide)⟩
          · have e201 := b2i_1 h201
            refine b_iconst (v := 3) dX12_stepOn_204 (by decide +kernel) ?_
            refine b_goto (tgt := 209) dX12_stepOn_205 (by decide) ?_
            refine b_putI lf_X12_188 lp_12_18 rfl dX12_stepOn_209 ?_
            refine b_aload_n dX12_stepOn_212 rfl rfl ?_
            refine b_aload_n dX12_stepOn_213 rfl rfl ?_
            refine b_getI lf_X12_178 rfl dX12_stepOn_214 ?_
            refine b_topE (by rw [up2_k _ _ _ _ (by decide), up2_s]) ?_
            refine b_putI lf_X12_211 lp_12_21 rfl dX12_stepOn_217 ?_
            refine b_vret rfl (by decide) dX12_stepOn_220 ?_
            refine hq _ (F1.tr (FMk.tr (FMk.tr (FMk.up _ _ (by decide)) (FMk.up _ _ (by decide))) (FMk.up _ _ (by decide)))) ?_
            rw [← hi]
            unfold tkA
            rw [if_neg (by omega), if_neg (by rw [hl]; decide), if_neg (by rw [hd]; decide)]
            have e9 : (if pS (f i) = true then f i else 1) = f i := if_pos e201
            rw [e9]
            exact ⟨by rw [up2_k _ _ _ _ (by decide), up2_k _ _ _ _ (by decide), up2_s], up2_s _ _ _ _, by rw [up2_k _ _ _ _ (by decide), up2_k _ _ _ _ (by decide), up2_k _ _ _ _ (by decide)]; exact a5, by rw [up2_k _ _ _ _ (by decide), up2_s]; rw [pS_3 e201]; rfl, fun q => absurd q (pS_2 e201)⟩
        · have e115 := b2i_1 h115
          have hd := e115
          have KD : ∀ j, j ≤ n → j = sk pD f n i → ∀ h, FMk g1 h → h 84 20 = nI i → h 84 16 = nI j → ∀ m, h 84 19 = nI m → (j - i ≤ 4 → m = vD f i (j - i)) → B E md_X12_stepOn (d + 1) Q X 178 [(0, .ref 84), (1, .int (byN f n i))] [] h 0 := by
            intro j hj0 hj h c1 c5 c3 m m2 m3
            refine b_aload_n dX12_stepOn_178 rfl rfl ?_
            refine b_iconst (v := 2) dX12_stepOn_179 (by decide +kernel) ?_
            refine b_putI lf_X12_188 lp_12_18 rfl dX12_stepOn_180 ?_
            refine b_goto (tgt := 212) dX12_stepOn_183 (by decide) ?_
            refine b_aload_n dX12_stepOn_212 rfl rfl ?_
            refine b_aload_n dX12_stepOn_213 rfl rfl ?_
            refine b_getI lf_X12_178 rfl dX12_stepOn_214 ?_
            refine b_topE (y := nI j) (by rw [up2_k _ _ _ _ (by decide)]; exact c3) ?_
            refine b_putI lf_X12_211 lp_12_21 rfl dX12_stepOn_217 ?_
            refine b_vret rfl (by decide) dX12_stepOn_220 ?_
            refine hq _ (F1.tr (c1.tr (FMk.tr (FMk.up _ _ (by decide)) (FMk.up _ _ (by decide))))) ?_
            rw [← hi]
            unfold tkA
            rw [if_neg (by omega), if_neg (by rw [hl]; decide), if_pos hd, ← hj]
            exact ⟨by rw [up2_k _ _ _ _ (by decide), up2_k _ _ _ _ (by decide)]; exact c3, up2_s _ _ _ _, by rw [up2_k _ _ _ _ (by decide), up2_k _ _ _ _ (by decide)]; exact c5, by rw [up2_k _ _ _ _ (by decide), up2_s]; rfl, fun _ q => by rw [up2_k _ _ _ _ (by decide), up2_k _ _ _ _ (by decide)]; show h 84 19 = nI (vD f i (min (j - i) 4)); rw [m2, m3 q, Nat.min_eq_left q]⟩
          have key : ∀ j, j ≤ n → i ≤ j → (∀ k, i ≤ k → k < j → k < n ∧ pD (f k) = true) → ∀ h, FMk g1 h → h 84 20 = nI i → h 84 16 = nI j → ∀ m, m ≤ 100000 → h 84 19 = nI m → (j - i ≤ 4 → m = vD f i (j - i)) → B E md_X12_stepOn (d + 1) Q X 123 [(0, .ref 84), (1, .int (byN f n i))] [] h 0 := by
            refine lp_up (P := fun j => i ≤ j → (∀ k, i ≤ k → k < j → k < n ∧ pD (f k) = true) → ∀ h, FMk g1 h → h 84 20 = nI i → h 84 16 = nI j → ∀ m, m ≤ 100000 → h 84 19 = nI m → (j - i ≤ 4 → m = vD f i (j - i)) → B E md_X12_stepOn (d + 1) Q X 123 [(0, .ref 84), (1, .int (byN f n i))] [] h 0) (fun j hj ih h1 h2 h c1 c5 c3 m m1 m2 m3 => ?_)
            refine b_aload_n dX12_stepOn_123 rfl rfl ?_
            refine b_aload_n dX12_stepOn_124 rfl rfl ?_
            refine b_getI lf_X12_178 rfl dX12_stepOn_125 ?_
            refine b_topE (c3) ?_
            refine b_callV (As := [_]) (st := []) dX12_stepOn_128 lk_X12_181 lm_X12_byteAt lv_X12_byteAt rfl (by decide) rfl rfl rfl (Nat.le_of_ble_eq_true rfl) (Nat.le_refl _) (by decide) ?_
            refine c_X12_byteAt (i := j) (T1.cg c1) (by omega) ?_
            refine b_callS (As := [_]) (st := []) dX12_stepOn_131 lk_X12_195 lm_X12_isDigit ls_X12_isDigit rfl rfl (Nat.le_of_ble_eq_true rfl) (Nat.le_refl _) (by decide) ?_
            refine c_X12_isDigit (f := f) (n := n) (i := j) (fun q => (T1.2.2 j q).1) ?_
            refine b_if_eq (tgt := 178) dX12_stepOn_134 (by decide) (fun h134 => ?_) (fun h134 => ?_)
            · have e134 := b2i_0 h134
              refine KD j (by omega) (sk_eq h1 h2 (fun q => ?_)).symm h c1 c5 c3 m m2 m3
              rw [decide_eq_true q, Bool.true_and] at e134
              exact e134
            · have e134 := b2i_1 h134
              simp only [Bool.and_eq_true, decide_eq_true_eq] at e134
              have hdg := bSg_v (f j) (T1.2.2 j e134.1).1 e134.2
              refine b_aload_n dX12_stepOn_137 rfl rfl ?_
              refine b_ldc lx_X12_201 dX12_stepOn_138 ?_
              refine b_bipush (v := 10) dX12_stepOn_140 (by decide +kernel) ?_
              refine b_aload_n dX12_stepOn_142 rfl rfl ?_
              refine b_getI lf_X12_198 rfl dX12_stepOn_143 ?_
              refine b_topE (m2) ?_
              refine b_imul dX12_stepOn_146 ?_
              refine b_topE (nI_mul 10 m) ?_
              refine b_aload_n dX12_stepOn_147 rfl rfl ?_
              refine b_aload_n dX12_stepOn_148 rfl rfl ?_
              refine b_getI lf_X12_178 rfl dX12_stepOn_149 ?_
              refine b_topE (c3) ?_
              refine b_callV (As := [_]) (st := [_, _, _]) dX12_stepOn_152 lk_X12_181 lm_X12_byteAt lv_X12_byteAt rfl (by decide) rfl rfl rfl (Nat.le_of_ble_eq_true rfl) (Nat.le_refl _) (by decide) ?_
              refine c_X12_byteAt (i := j) (T1.cg c1) (by omega) ?_
              rw [byN_i e134.1]
              refine b_iadd dX12_stepOn_155 ?_
              refine b_topE (nI_add ((10 * m)) (f j)) ?_
              refine b_bipush (v := 48) dX12_stepOn_156 (by decide +kernel) ?_
              refine b_isub dX12_stepOn_158 ?_
              refine b_topE (nI_sub (((10 * m) + f j)) 48 (by omega)) ?_
              refine b_min dX12_stepOn_159 lc_X12_202 (by omega) (Nat.le_of_ble_eq_true rfl) (by decide) ?_
              refine b_topE (y := nI ((if 10 * m + f j - 48 < 100000 then 10 * m + f j - 48 else 100000))) (mn_nI (a := 10 * m + f j - 48) (b := 100000) (by omega) (by decide)) ?_
              refine b_putI lf_X12_198 lp_12_19 rfl dX12_stepOn_162 ?_
              refine b_aload_n dX12_stepOn_165 rfl rfl ?_
              refine b_dup dX12_stepOn_166 rfl ?_
              refine b_getI lf_X12_178 rfl dX12_stepOn_167 ?_
              refine b_topE (y := nI j) (by rw [up2_k _ _ _ _ (by decide)]; exact c3) ?_
              refine b_iconst (v := 1) dX12_stepOn_170 (by decide +kernel) ?_
              refine b_iadd dX12_stepOn_171 ?_
              refine b_topE (nI_add j 1) ?_
              refine b_putI lf_X12_178 lp_12_16 rfl dX12_stepOn_172 ?_
              refine b_goto (tgt := 123) dX12_stepOn_175 (by decide) ?_
              refine ih (j + 1) (by omega) (by omega) (by omega) (fun k a b => ?_) _ (FMk.tr c1 (FMk.tr (FMk.up _ _ (by decide)) (FMk.up _ _ (by decide)))) ?_ (up2_s _ _ _ _) (if 10 * m + f j - 48 < 100000 then 10 * m + f j - 48 else 100000) (by split <;> omega) ?_ ?_
              · rcases Nat.lt_or_ge k j with q | q
                · exact h2 k a q
                · rw [show k = j by omega]; exact e134
              · rw [up2_k _ _ _ _ (by decide), up2_k _ _ _ _ (by decide)]; exact c5
              · rw [up2_k _ _ _ _ (by decide), up2_s]
              · intro h4
                have e5 := m3 (by omega)
                have hv : vD f i (j - i) < 10000 := Nat.lt_of_lt_of_le (vD_lt _ (fun k hk => (h2 (i + k) (by omega) (by omega)).2)) (Nat.pow_le_pow_right (n := 10) (by decide) (by omega : j - i ≤ 4))
                have h6 : j + 1 - i = j - i + 1 := by omega
                rw [h6, vD, show i + (j - i) = j by omega, ← e5, if_pos (by omega)]
                omega
          refine b_aload_n dX12_stepOn_118 rfl rfl ?_
          refine b_iconst (v := 0) dX12_stepOn_119 (by decide +kernel) ?_
          refine b_putI lf_X12_198 lp_12_19 rfl dX12_stepOn_120 ?_
          exact key i (by omega) (Nat.le_refl _) (fun k a b => absurd b (by omega)) _ (FMk.up _ _ (by decide)) (by rw [up2_k _ _ _ _ (by decide)]; exact a5) (by rw [up2_k _ _ _ _ (by decide)]; exact a3) 0 (by decide) (up2_s _ _ _ _) (fun _ => by rw [Nat.sub_self]; rfl)
      · have e73 := b2i_1 h73
        have hl := e73
        have KL : ∀ j, j ≤ n → j = sk pL f n i → B E md_X12_stepOn (d + 1) Q X 103 [(0, .ref 84), (1, .int (byN f n i))] [] (up2 g1 84 16 (nI j)) 0 := by
          intro j hj0 hj
          refine b_aload_n dX12_stepOn_103 rfl rfl ?_
          refine b_iconst (v := 1) dX12_stepOn_104 (by decide +kernel) ?_
          refine b_putI lf_X12_188 lp_12_18 rfl dX12_stepOn_105 ?_
          refine b_goto (tgt := 212) dX12_stepOn_108 (by decide) ?_
          refine b_aload_n dX12_stepOn_212 rfl rfl ?_
          refine b_aload_n dX12_stepOn_213 rfl rfl ?_
          refine b_getI lf_X12_178 rfl dX12_stepOn_214 ?_
          refine b_topE (by rw [up2_k _ _ _ _ (by decide), up2_s]) ?_
          refine b_putI lf_X12_211 lp_12_21 rfl dX12_stepOn_217 ?_
          refine b_vret rfl (by decide) dX12_stepOn_220 ?_
          refine hq _ (F1.tr (FMk.tr (FMk.tr (FMk.up _ _ (by decide)) (FMk.up _ _ (by decide))) (FMk.up _ _ (by decide)))) ?_
          rw [← hi]
          unfold tkA
          rw [if_neg (by omega), if_pos hl, ← hj]
          have h9 := (wk_rng f i j).1
          exact ⟨by rw [up2_k _ _ _ _ (by decide), up2_k _ _ _ _ (by decide), up2_s], up2_s _ _ _ _, by rw [up2_k _ _ _ _ (by decide), up2_k _ _ _ _ (by decide), up2_k _ _ _ _ (by decide)]; exact a5, by rw [up2_k _ _ _ _ (by decide), up2_s]; show (1 : Int32) = nI (tkM (wk f i j)); rw [show tkM (wk f i j) = 1 from by unfold tkM; rw [if_neg (by omega), if_neg (by omega), if_neg (by omega), if_pos h9]]; rfl, fun q => by have q9 : wk f i j = 2 := q; omega⟩
        have key : ∀ j, j ≤ n → i ≤ j → (∀ k, i ≤ k → k < j → k < n ∧ pL (f k) = true) → B E md_X12_stepOn (d + 1) Q X 76 [(0, .ref 84), (1, .int (byN f n i))] [] (up2 g1 84 16 (nI j)) 0 := by
          refine lp_up (P := fun j => i ≤ j → (∀ k, i ≤ k → k < j → k < n ∧ pL (f k) = true) → B E md_X12_stepOn (d + 1) Q X 76 [(0, .ref 84), (1, .int (byN f n i))] [] (up2 g1 84 16 (nI j)) 0) (fun j hj ih h1 h2 => ?_)
          refine b_aload_n dX12_stepOn_76 rfl rfl ?_
          refine b_aload_n dX12_stepOn_77 rfl rfl ?_
          refine b_getI lf_X12_178 rfl dX12_stepOn_78 ?_
          refine b_topE (by rw [up2_s]) ?_
          refine b_callV (As := [_]) (st := []) dX12_stepOn_81 lk_X12_181 lm_X12_byteAt lv_X12_byteAt rfl (by decide) rfl rfl rfl (Nat.le_of_ble_eq_true rfl) (Nat.le_refl _) (by decide) ?_
          refine c_X12_byteAt (i := j) (T1.cg (FMk.up _ _ (by decide))) (by omega) ?_
          refine b_callS (As := [_]) (st := []) dX12_stepOn_84 lk_X12_191 lm_X12_isLetter ls_X12_isLetter rfl rfl (Nat.le_of_ble_eq_true rfl) (Nat.le_refl _) (by decide) ?_
          refine c_X12_isLetter (f := f) (n := n) (i := j) (fun q => (T1.2.2 j q).1) ?_
          refine b_if_eq (tgt := 103) dX12_stepOn_87 (by decide) (fun h87 => ?_) (fun h87 => ?_)
          · have e87 := b2i_0 h87
            refine KL j (by omega) (sk_eq h1 h2 (fun q => ?_)).symm
            rw [decide_eq_true q, Bool.true_and] at e87
            exact e87
          · have e87 := b2i_1 h87
            simp only [Bool.and_eq_true, decide_eq_true_eq] at e87
            refine b_aload_n dX12_stepOn_90 rfl rfl ?_
            refine b_dup dX12_stepOn_91 rfl ?_
            refine b_getI lf_X12_178 rfl dX12_stepOn_92 ?_
            refine b_topE (by rw [up2_s]) ?_
            refine b_iconst (v := 1) dX12_stepOn_95 (by decide +kernel) ?_
            refine b_iadd dX12_stepOn_96 ?_
            refine b_topE (nI_add j 1) ?_
            refine b_putI lf_X12_178 lp_12_16 rfl dX12_stepOn_97 ?_
            rw [up2_2]
            refine b_goto (tgt := 76) dX12_stepOn_100 (by decide) ?_
            refine ih (j + 1) (by omega) (by omega) (by omega) (fun k a b => ?_)
            rcases Nat.lt_or_ge k j with q | q
            · exact h2 k a q
            · rw [show k = j by omega]; exact e87
        have k9 := key i (by omega) (Nat.le_refl _) (fun k a b => absurd b (by omega))
        rw [up2_i a3] at k9
        exact k9
    · have e58 : n ≤ i := by
        rcases Nat.lt_or_ge i n with q | q
        · rw [byN_i q] at h58; exact absurd h58 (nI_nm1 (by have := (T1.2.2 i q).1; omega))
        · exact q
      refine b_aload_n dX12_stepOn_61 rfl rfl ?_
      refine b_iconst (v := 0) dX12_stepOn_62 (by decide +kernel) ?_
      refine b_putI lf_X12_188 lp_12_18 rfl dX12_stepOn_63 ?_
      refine b_goto (tgt := 212) dX12_stepOn_66 (by decide) ?_
      refine b_aload_n dX12_stepOn_212 rfl rfl ?_
      refine b_aload_n dX12_stepOn_213 rfl rfl ?_
      refine b_getI lf_X12_178 rfl dX12_stepOn_214 ?_
      refine b_topE (y := nI i) (by rw [up2_k _ _ _ _ (by decide)]; exact a3) ?_
      refine b_putI lf_X12_211 lp_12_21 rfl dX12_stepOn_217 ?_
      refine b_vret rfl (by decide) dX12_stepOn_220 ?_
      refine hq _ (F1.tr (FMk.tr (FMk.up _ _ (by decide)) (FMk.up _ _ (by decide)))) ?_
      rw [← hi]
      unfold tkA
      rw [if_pos e58]
      exact ⟨by rw [up2_k _ _ _ _ (by decide), up2_k _ _ _ _ (by decide)]; exact a3, up2_s _ _ _ _, by rw [up2_k _ _ _ _ (by decide), up2_k _ _ _ _ (by decide)]; exact a5, by rw [up2_k _ _ _ _ (by decide), up2_s]; rfl, fun q => by cases q⟩
  have key : ∀ i, i ≤ n → p ≤ i → (∀ j, p ≤ j → j < i → j < n ∧ pB (f j) = true) → B E md_X12_stepOn (d + 1) Q X 0 [(0, .ref 84)] [] (up2 g 84 16 (nI i)) 0 := by
    refine lp_up (P := fun i => p ≤ i → (∀ j, p ≤ j → j < i → j < n ∧ pB (f j) = true) → B E md_X12_stepOn (d + 1) Q X 0 [(0, .ref 84)] [] (up2 g 84 16 (nI i)) 0) (fun i hi ih h1 h2 => ?_)
    refine b_aload_n dX12_stepOn_0 rfl rfl ?_
    refine b_aload_n dX12_stepOn_1 rfl rfl ?_
    refine b_getI lf_X12_178 rfl dX12_stepOn_2 ?_
    refine b_topE (by rw [up2_s]) ?_
    refine b_callV (As := [_]) (st := []) dX12_stepOn_5 lk_X12_181 lm_X12_byteAt lv_X12_byteAt rfl (by decide) rfl rfl rfl (Nat.le_of_ble_eq_true rfl) (Nat.le_refl _) (by decide) ?_
    refine c_X12_byteAt (i := i) (hT.cg (FMk.up _ _ (by decide))) (by omega) ?_
    refine b_bipush (v := 32) dX12_stepOn_8 (by decide +kernel) ?_
    refine b_icmp_eq (tgt := 26) dX12_stepOn_10 (by decide) (fun h10 => ?_) (fun h10 => ?_)
    · have hc := byN_b (fun q => (hT.2.2 i q).1) (Or.inl h10)
      refine b_aload_n dX12_stepOn_26 rfl rfl ?_
      refine b_dup dX12_stepOn_27 rfl ?_
      refine b_getI lf_X12_178 rfl dX12_stepOn_28 ?_
      refine b_topE (by rw [up2_s]) ?_
      refine b_iconst (v := 1) dX12_stepOn_31 (by decide +kernel) ?_
      refine b_iadd dX12_stepOn_32 ?_
      refine b_topE (nI_add i 1) ?_
      refine b_putI lf_X12_178 lp_12_16 rfl dX12_stepOn_33 ?_
      rw [up2_2]
      refine b_goto (tgt := 0) dX12_stepOn_36 (by decide) ?_
      refine ih (i + 1) (by omega) (by omega) (by omega) (fun j a b => ?_)
      · rcases Nat.lt_or_ge j i with q | q
        · exact h2 j a q
        · rw [show j = i by omega]; exact hc
    · refine b_aload_n dX12_stepOn_13 rfl rfl ?_
      refine b_aload_n dX12_stepOn_14 rfl rfl ?_
      refine b_getI lf_X12_178 rfl dX12_stepOn_15 ?_
      refine b_topE (by rw [up2_s]) ?_
      refine b_callV (As := [_]) (st := []) dX12_stepOn_18 lk_X12_181 lm_X12_byteAt lv_X12_byteAt rfl (by decide) rfl rfl rfl (Nat.le_of_ble_eq_true rfl) (Nat.le_refl _) (by decide) ?_
      refine c_X12_byteAt (i := i) (hT.cg (FMk.up _ _ (by decide))) (by omega) ?_
      refine b_bipush (v := 10) dX12_stepOn_21 (by decide +kernel) ?_
      refine b_icmp_ne (tgt := 39) dX12_stepOn_23 (by decide) (fun h23 => ?_) (fun h23 => ?_)
      · refine K i (by omega) (sk_eq h1 h2 (fun q => byN_nb h10 h23 q)).symm
      · have hc := byN_b (fun q => (hT.2.2 i q).1) (Or.inr (h23))
        refine b_aload_n dX12_stepOn_26 rfl rfl ?_
        refine b_dup dX12_stepOn_27 rfl ?_
        refine b_getI lf_X12_178 rfl dX12_stepOn_28 ?_
        refine b_topE (by rw [up2_s]) ?_
        refine b_iconst (v := 1) dX12_stepOn_31 (by decide +kernel) ?_
        refine b_iadd dX12_stepOn_32 ?_
        refine b_topE (nI_add i 1) ?_
        refine b_putI lf_X12_178 lp_12_16 rfl dX12_stepOn_33 ?_
        rw [up2_2]
        refine b_goto (tgt := 0) dX12_stepOn_36 (by decide) ?_
        refine ih (i + 1) (by omega) (by omega) (by omega) (fun j a b => ?_)
        · rcases Nat.lt_or_ge j i with q | q
          · exact h2 j a q
          · rw [show j = i by omega]; exact hc
  have := key p hp (Nat.le_refl _) (fun j a b => absurd b (by omega))
  rwa [up2_i h3] at this
