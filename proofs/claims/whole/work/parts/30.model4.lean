def inB (v a b : Int) : Bool := decide (a ≤ v ∧ v ≤ b)
def trB (f : Nat → Int32) (i : Nat) : Bool := decide (0 < i) && !(f i == 12) && !(f (i - 1) == 12) && (if 0 ≤ f i - f (i - 1) then f i - f (i - 1) else 0 - (f i - f (i - 1))) == 6
theorem c_X12_isIn {E : En} {d : Nat} {Q : QT} {X : XT} {g : G2} {v a b : Int64} (hq : Q (some (.int (b2i (inB v.toInt a.toInt b.toInt)))) g) : M E md_X12_isIn d [.long v, .long a, .long b] g Q X := by
  refine M.of _ rfl rfl (Nat.le_of_ble_eq_true rfl) ?_
  refine b_lload_n dX12_isIn_0 rfl rfl ?_
  refine b_lload_n dX12_isIn_1 rfl rfl ?_
  refine b_lcmp dX12_isIn_2 ?_
  refine b_if_lt (tgt := 17) dX12_isIn_3 (by decide) (fun h3 => ?_) (fun h3 => ?_)
  · have e : inB v.toInt a.toInt b.toInt = false := by unfold inB; have h9 := (lg_cmp_lt _ _).mp h3; rw [Int64.lt_iff_toInt_lt] at h9; exact decide_eq_false (by omega)
    rw [e] at hq
    refine b_iconst (v := 0) dX12_isIn_17 (by decide +kernel) ?_
    refine b_zret (by first | exact Or.inl rfl | exact Or.inr rfl) rfl (by decide) dX12_isIn_18 ?_
    exact hq
  · have h9 : ¬ v.toInt < a.toInt := fun q => h3 ((lg_cmp_lt _ _).mpr (Int64.lt_iff_toInt_lt.mpr q))
    refine b_lload_n dX12_isIn_6 rfl rfl ?_
    refine b_lload dX12_isIn_7 rfl ?_
    refine b_lcmp dX12_isIn_9 ?_
    refine b_if_gt (tgt := 17) dX12_isIn_10 (by decide) (fun h10 => ?_) (fun h10 => ?_)
    · have h8 := (lg_cmp_gt _ _).mp h10
      rw [Int64.lt_iff_toInt_lt] at h8
      have e : inB v.toInt a.toInt b.toInt = false := by unfold inB; exact decide_eq_false (by omega)
      rw [e] at hq
      refine b_iconst (v := 0) dX12_isIn_17 (by decide +kernel) ?_
      refine b_zret (by first | exact Or.inl rfl | exact Or.inr rfl) rfl (by decide) dX12_isIn_18 ?_
      exact hq
    · have h8 : ¬ b.toInt < v.toInt := fun q => h10 ((lg_cmp_gt _ _).mpr (Int64.lt_iff_toInt_lt.mpr q))
      have e : inB v.toInt a.toInt b.toInt = true := by unfold inB; exact decide_eq_true (by omega)
      rw [e] at hq
      refine b_iconst (v := 1) dX12_isIn_13 (by decide +kernel) ?_
      refine b_goto (tgt := 18) dX12_isIn_14 (by decide) ?_
      refine b_zret (by first | exact Or.inl rfl | exact Or.inr rfl) rfl (by decide) dX12_isIn_18 ?_
      exact hq
theorem c_X12_isPerson {E : En} {d : Nat} {Q : QT} {X : XT} {g : G2} {n : Nat} {x : Int32} (hn : g 87 0 = nI n) (h8 : n ≤ 8) (hq : Q (some (.int (b2i (inB x.toInt 0 (n - 1))))) g) : M E md_X12_isPerson (d + 1) [.ref 84, .int x] g Q X := by
  refine M.of _ rfl rfl (Nat.le_of_ble_eq_true rfl) ?_
  refine b_iload_n dX12_isPerson_0 rfl rfl ?_
  refine b_i2l dX12_isPerson_1 rfl ?_
  refine b_lconst (v := 0) dX12_isPerson_2 (by decide +kernel) ?_
  refine b_aload_n dX12_isPerson_3 rfl rfl ?_
  refine b_getR (b := 87) lf_X12_40 rfl rfl dX12_isPerson_4 ?_
  refine b_iconst (v := 0) dX12_isPerson_7 (by decide +kernel) ?_
  refine b_ildN (j := 0) dX12_isPerson_8 (rfl) (by show _ < 10; decide) ?_
  refine b_iconst (v := 1) dX12_isPerson_9 (by decide +kernel) ?_
  refine b_isub dX12_isPerson_10 ?_
  refine b_i2l dX12_isPerson_11 rfl ?_
  refine b_callS (As := [_, _, _]) (st := []) dX12_isPerson_12 lk_X12_168 lm_X12_isIn ls_X12_isIn rfl rfl (Nat.le_of_ble_eq_true rfl) (Nat.le_refl _) (by decide) ?_
  refine c_X12_isIn ?_
  have e : inB (x.toInt64).toInt (0 : Int64).toInt ((g 87 0 - 1).toInt64).toInt = inB x.toInt 0 (n - 1) := by
    rw [Int32.toInt_toInt64, Int32.toInt_toInt64, hn, show (0 : Int64).toInt = 0 from by decide, Int32.toInt_sub, nI_toInt (by omega), show (1 : Int32).toInt = 1 from by decide, Int.bmod_eq_of_le (by omega) (by omega)]
  rw [e]
  refine b_zret (b2i_01 _) rfl (by decide) dX12_isPerson_15 ?_
  exact hq
theorem c_X12_thrown {E : En} {d : Nat} {Q : QT} {X : XT} {g : G2} (hq : Q (some (.int (g 84 2))) g) : M E md_X12_thrown d [.ref 84] g Q X := by
  refine M.of _ rfl rfl (Nat.le_of_ble_eq_true rfl) ?_
  refine b_aload_n dX12_thrown_0 rfl rfl ?_
  refine b_getI lf_X12_165 rfl dX12_thrown_1 ?_
  refine b_iret rfl (by decide) dX12_thrown_4 ?_
  exact hq
theorem c_X12_fail {E : En} {d : Nat} {Q : QT} {X : XT} {g : G2} {x : Int32} (hq : Q (some (.int 0)) (up2 g 84 2 x)) : M E md_X12_fail d [.ref 84, .int x] g Q X := by
  refine M.of _ rfl rfl (Nat.le_of_ble_eq_true rfl) ?_
  refine b_aload_n dX12_fail_0 rfl rfl ?_
  refine b_iload_n dX12_fail_1 rfl rfl ?_
  refine b_putI lf_X12_165 lp_12_2 rfl dX12_fail_2 ?_
  refine b_iconst (v := 0) dX12_fail_5 (by decide +kernel) ?_
  refine b_iret rfl (by decide) dX12_fail_6 ?_
  exact hq
theorem c_X12_failing {E : En} {d : Nat} {Q : QT} {X : XT} {g : G2} {x : Int32} (hq : Q (some (.int 0)) (up2 g 84 2 x)) : M E md_X12_failing d [.ref 84, .int x] g Q X := by
  refine M.of _ rfl rfl (Nat.le_of_ble_eq_true rfl) ?_
  refine b_aload_n dX12_failing_0 rfl rfl ?_
  refine b_iload_n dX12_failing_1 rfl rfl ?_
  refine b_putI lf_X12_165 lp_12_2 rfl dX12_failing_2 ?_
  refine b_iconst (v := 0) dX12_failing_5 (by decide +kernel) ?_
  refine b_zret (Or.inl rfl) rfl (by decide) dX12_failing_6 ?_
  exact hq
theorem c_X12_refuse {E : En} {d : Nat} {Q : QT} {X : XT} {g : G2} {p : Nat} (hp : p < 3) (hq : Q (some (.int (-1))) (up2 g 96 p (g 96 p + 1))) : M E md_X12_refuse d [.ref 84, .int (nI p)] g Q X := by
  refine M.of _ rfl rfl (Nat.le_of_ble_eq_true rfl) ?_
  refine b_aload_n dX12_refuse_0 rfl rfl ?_
  refine b_getR (b := 96) lf_X12_67 rfl rfl dX12_refuse_1 ?_
  refine b_iload_n dX12_refuse_4 rfl rfl ?_
  refine b_dup2 dX12_refuse_5 rfl rfl ?_
  refine b_ildN (j := p) dX12_refuse_6 (rfl) (by show _ < 3; omega) ?_
  refine b_iconst (v := 1) dX12_refuse_7 (by decide +kernel) ?_
  refine b_iadd dX12_refuse_8 ?_
  refine b_istN (j := p) dX12_refuse_9 (rfl) (by show _ < 3; omega) ?_
  refine b_iconst (v := (-1)) dX12_refuse_10 (by decide +kernel) ?_
  refine b_iret rfl (by decide) dX12_refuse_11 ?_
  exact hq
theorem c_X12_refuses {E : En} {d : Nat} {Q : QT} {X : XT} {g : G2} (hq : Q (some (.int 0)) (up2 g 96 1 (g 96 1 + 1))) : M E md_X12_refuses d [.ref 84] g Q X := by
  refine M.of _ rfl rfl (Nat.le_of_ble_eq_true rfl) ?_
  refine b_aload_n dX12_refuses_0 rfl rfl ?_
  refine b_getR (b := 96) lf_X12_67 rfl rfl dX12_refuses_1 ?_
  refine b_iconst (v := 1) dX12_refuses_4 (by decide +kernel) ?_
  refine b_dup2 dX12_refuses_5 rfl rfl ?_
  refine b_ildN (j := 1) dX12_refuses_6 (rfl) (by show _ < 3; decide) ?_
  refine b_iconst (v := 1) dX12_refuses_7 (by decide +kernel) ?_
  refine b_iadd dX12_refuses_8 ?_
  refine b_istN (j := 1) dX12_refuses_9 (rfl) (by show _ < 3; decide) ?_
  refine b_iconst (v := 0) dX12_refuses_10 (by decide +kernel) ?_
  refine b_zret (Or.inl rfl) rfl (by decide) dX12_refuses_11 ?_
  exact hq
theorem c_X12_rests {E : En} {d : Nat} {Q : QT} {X : XT} {g : G2} {n : Nat} (hn : g 84 32 = nI n) (h4 : n ≤ 400) (hq : Q (some (.int (nI (cntN (tmP (g 104) 12 0) n)))) g) : M E md_X12_rests d [.ref 84] g Q X := by
  refine M.of _ rfl rfl (Nat.le_of_ble_eq_true rfl) ?_
  have LP : ∀ i, i ≤ n → B E md_X12_rests d Q X 4 [(0, .ref 84), (1, .int (nI (cntN (tmP (g 104) 12 0) i))), (2, .int (nI i))] [] g 0 := by
    refine lp_up (fun i hi ih => ?_)
    refine b_iload_n dX12_rests_4 rfl rfl ?_
    refine b_aload_n dX12_rests_5 rfl rfl ?_
    refine b_getI lf_X12_320 rfl dX12_rests_6 ?_
    refine b_icmp_ge (tgt := 37) dX12_rests_9 (by decide) (fun h9 => ?_) (fun h9 => ?_)
    · have e : i = n := by have := (nI_leI (by omega) (by omega)).mp (hn ▸ h9); omega
      subst e
      refine b_iload_n dX12_rests_37 rfl rfl ?_
      refine b_iret rfl (by decide) dX12_rests_38 ?_
      exact hq
    · have e : i < n := by
        rcases Nat.lt_or_ge i n with q | q
        · exact q
        · exact absurd (hn ▸ (nI_leI (by omega) (by omega)).mpr q) h9
      refine b_iload_n dX12_rests_12 rfl rfl ?_
      refine b_aload_n dX12_rests_13 rfl rfl ?_
      refine b_getR (b := 104) lf_X12_93 rfl rfl dX12_rests_14 ?_
      refine b_iload_n dX12_rests_17 rfl rfl ?_
      refine b_ildN (j := i) dX12_rests_18 (rfl) (by show _ < 400; omega) ?_
      refine b_bipush (v := 12) dX12_rests_19 (by decide +kernel) ?_
      refine b_icmp_ne (tgt := 28) dX12_rests_21 (by decide) (fun h21 => ?_) (fun h21 => ?_)
      · refine b_iconst (v := 0) dX12_rests_28 (by decide +kernel) ?_
        refine b_iadd dX12_rests_29 ?_
        refine b_topE (y := nI (cntN (tmP (g 104) 12 0) i)) (Int32.add_zero _) ?_
        refine b_istore_n (lv' := [(0, _), (1, _), (2, _)]) dX12_rests_30 rfl (by decide) rfl rfl ?_
        refine b_incN (j := i) (lv' := [(0, _), (1, _), (2, _)]) dX12_rests_31 rfl rfl (by decide) rfl rfl ?_
        refine b_goto (tgt := 4) dX12_rests_34 (by decide) ?_
        have ih2 := ih (i + 1) (by omega) (by omega)
        rw [cntN] at ih2
        rw [if_neg (by unfold tmP; simp [h21]), Nat.add_zero] at ih2
        exact ih2
      · refine b_iconst (v := 1) dX12_rests_24 (by decide +kernel) ?_
        refine b_goto (tgt := 29) dX12_rests_25 (by decide) ?_
        refine b_iadd dX12_rests_29 ?_
        refine b_topE (y := nI (cntN (tmP (g 104) 12 0) i + 1)) (nI_1 _) ?_
        refine b_istore_n (lv' := [(0, _), (1, _), (2, _)]) dX12_rests_30 rfl (by decide) rfl rfl ?_
        refine b_incN (j := i) (lv' := [(0, _), (1, _), (2, _)]) dX12_rests_31 rfl rfl (by decide) rfl rfl ?_
        refine b_goto (tgt := 4) dX12_rests_34 (by decide) ?_
        have ih2 := ih (i + 1) (by omega) (by omega)
        rw [cntN] at ih2
        rw [if_pos (by unfold tmP; simp [h21])] at ih2
        exact ih2
  refine b_iconst (v := 0) dX12_rests_0 (by decide +kernel) ?_
  refine b_istore_n (lv' := [(0, _), (1, _)]) dX12_rests_1 rfl (by decide) rfl rfl ?_
  refine b_iconst (v := 0) dX12_rests_2 (by decide +kernel) ?_
  refine b_istore_n (lv' := [(0, _), (1, _), (2, _)]) dX12_rests_3 rfl (by decide) rfl rfl ?_
  exact LP 0 (Nat.zero_le _)
theorem c_X12_timesOf {E : En} {d : Nat} {Q : QT} {X : XT} {g : G2} {n : Nat} {p : Int32} (hn : g 84 32 = nI n) (h4 : n ≤ 400) (hq : Q (some (.int (nI (cntN (tmP (g 104) p 0) n)))) g) : M E md_X12_timesOf d [.ref 84, .int p] g Q X := by
  refine M.of _ rfl rfl (Nat.le_of_ble_eq_true rfl) ?_
  have LP : ∀ i, i ≤ n → B E md_X12_timesOf d Q X 4 [(0, .ref 84), (1, .int p), (2, .int (nI (cntN (tmP (g 104) p 0) i))), (3, .int (nI i))] [] g 0 := by
    refine lp_up (fun i hi ih => ?_)
    refine b_iload_n dX12_timesOf_4 rfl rfl ?_
    refine b_aload_n dX12_timesOf_5 rfl rfl ?_
    refine b_getI lf_X12_320 rfl dX12_timesOf_6 ?_
    refine b_icmp_ge (tgt := 36) dX12_timesOf_9 (by decide) (fun h9 => ?_) (fun h9 => ?_)
    · have e : i = n := by have := (nI_leI (by omega) (by omega)).mp (hn ▸ h9); omega
      subst e
      refine b_iload_n dX12_timesOf_36 rfl rfl ?_
      refine b_iret rfl (by decide) dX12_timesOf_37 ?_
      exact hq
    · have e : i < n := by
        rcases Nat.lt_or_ge i n with q | q
        · exact q
        · exact absurd (hn ▸ (nI_leI (by omega) (by omega)).mpr q) h9
      refine b_iload_n dX12_timesOf_12 rfl rfl ?_
      refine b_aload_n dX12_timesOf_13 rfl rfl ?_
      refine b_getR (b := 104) lf_X12_93 rfl rfl dX12_timesOf_14 ?_
      refine b_iload_n dX12_timesOf_17 rfl rfl ?_
      refine b_ildN (j := i) dX12_timesOf_18 (rfl) (by show _ < 400; omega) ?_
      refine b_iload_n dX12_timesOf_19 rfl rfl ?_
      refine b_icmp_ne (tgt := 27) dX12_timesOf_20 (by decide) (fun h20 => ?_) (fun h20 => ?_)
      · refine b_iconst (v := 0) dX12_timesOf_27 (by decide +kernel) ?_
        refine b_iadd dX12_timesOf_28 ?_
        refine b_topE (y := nI (cntN (tmP (g 104) p 0) i)) (Int32.add_zero _) ?_
        refine b_istore_n (lv' := [(0, _), (1, _), (2, _), (3, _)]) dX12_timesOf_29 rfl (by decide) rfl rfl ?_
        refine b_incN (j := i) (lv' := [(0, _), (1, _), (2, _), (3, _)]) dX12_timesOf_30 rfl rfl (by decide) rfl rfl ?_
        refine b_goto (tgt := 4) dX12_timesOf_33 (by decide) ?_
        have ih2 := ih (i + 1) (by omega) (by omega)
        rw [cntN] at ih2
        rw [if_neg (by unfold tmP; simp [h20]), Nat.add_zero] at ih2
        exact ih2
      · refine b_iconst (v := 1) dX12_timesOf_23 (by decide +kernel) ?_
        refine b_goto (tgt := 28) dX12_timesOf_24 (by decide) ?_
        refine b_iadd dX12_timesOf_28 ?_
        refine b_topE (y := nI (cntN (tmP (g 104) p 0) i + 1)) (nI_1 _) ?_
        refine b_istore_n (lv' := [(0, _), (1, _), (2, _), (3, _)]) dX12_timesOf_29 rfl (by decide) rfl rfl ?_
        refine b_incN (j := i) (lv' := [(0, _), (1, _), (2, _), (3, _)]) dX12_timesOf_30 rfl rfl (by decide) rfl rfl ?_
        refine b_goto (tgt := 4) dX12_timesOf_33 (by decide) ?_
        have ih2 := ih (i + 1) (by omega) (by omega)
        rw [cntN] at ih2
        rw [if_pos (by unfold tmP; simp [h20])] at ih2
        exact ih2
  refine b_iconst (v := 0) dX12_timesOf_0 (by decide +kernel) ?_
  refine b_istore_n (lv' := [(0, _), (1, _), (2, _)]) dX12_timesOf_1 rfl (by decide) rfl rfl ?_
  refine b_iconst (v := 0) dX12_timesOf_2 (by decide +kernel) ?_
  refine b_istore_n (lv' := [(0, _), (1, _), (2, _), (3, _)]) dX12_timesOf_3 rfl (by decide) rfl rfl ?_
  exact LP 0 (Nat.zero_le _)
theorem c_X12_placeOf {E : En} {d : Nat} {Q : QT} {X : XT} {g : G2} {n p : Nat} (hn : g 87 0 = nI n) (h8 : n ≤ 8) (hp : p < 8) (hq : Q (some (.int (nI (cntN (fun i => decide (g 90 i < g 90 p)) n)))) g) : M E md_X12_placeOf d [.ref 84, .int (nI p)] g Q X := by
  refine M.of _ rfl rfl (Nat.le_of_ble_eq_true rfl) ?_
  have LP : ∀ i, i ≤ n → B E md_X12_placeOf d Q X 4 [(0, .ref 84), (1, .int (nI p)), (2, .int (nI (cntN (fun i => decide (g 90 i < g 90 p)) i))), (3, .int (nI i))] [] g 0 := by
    refine lp_up (fun i hi ih => ?_)
    refine b_iload_n dX12_placeOf_4 rfl rfl ?_
    refine b_aload_n dX12_placeOf_5 rfl rfl ?_
    refine b_getR (b := 87) lf_X12_40 rfl rfl dX12_placeOf_6 ?_
    refine b_iconst (v := 0) dX12_placeOf_9 (by decide +kernel) ?_
    refine b_ildN (j := 0) dX12_placeOf_10 (rfl) (by show _ < 10; decide) ?_
    refine b_icmp_ge (tgt := 43) dX12_placeOf_11 (by decide) (fun h11 => ?_) (fun h11 => ?_)
    · have e : i = n := by have := (nI_leI (by omega) (by omega)).mp (hn ▸ h11); omega
      subst e
      refine b_iload_n dX12_placeOf_43 rfl rfl ?_
      refine b_iret rfl (by decide) dX12_placeOf_44 ?_
      exact hq
    · have e : i < n := by
        rcases Nat.lt_or_ge i n with q | q
        · exact q
        · exact absurd (hn ▸ (nI_leI (by omega) (by omega)).mpr q) h11
      refine b_iload_n dX12_placeOf_14 rfl rfl ?_
      refine b_aload_n dX12_placeOf_15 rfl rfl ?_
      refine b_getR (b := 90) lf_X12_49 rfl rfl dX12_placeOf_16 ?_
      refine b_iload_n dX12_placeOf_19 rfl rfl ?_
      refine b_ildN (j := i) dX12_placeOf_20 (rfl) (by show _ < 16; omega) ?_
      refine b_aload_n dX12_placeOf_21 rfl rfl ?_
      refine b_getR (b := 90) lf_X12_49 rfl rfl dX12_placeOf_22 ?_
      refine b_iload_n dX12_placeOf_25 rfl rfl ?_
      refine b_ildN (j := p) dX12_placeOf_26 (rfl) (by show _ < 16; omega) ?_
      refine b_icmp_ge (tgt := 34) dX12_placeOf_27 (by decide) (fun h27 => ?_) (fun h27 => ?_)
      · have h27b := Int32.not_lt.mpr h27
        refine b_iconst (v := 0) dX12_placeOf_34 (by decide +kernel) ?_
        refine b_iadd dX12_placeOf_35 ?_
        refine b_topE (y := nI (cntN (fun i => decide (g 90 i < g 90 p)) i)) (Int32.add_zero _) ?_
        refine b_istore_n (lv' := [(0, _), (1, _), (2, _), (3, _)]) dX12_placeOf_36 rfl (by decide) rfl rfl ?_
        refine b_incN (j := i) (lv' := [(0, _), (1, _), (2, _), (3, _)]) dX12_placeOf_37 rfl rfl (by decide) rfl rfl ?_
        refine b_goto (tgt := 4) dX12_placeOf_40 (by decide) ?_
        have ih2 := ih (i + 1) (by omega) (by omega)
        rw [cntN] at ih2
        rw [if_neg (by simp [h27b]), Nat.add_zero] at ih2
        exact ih2
      · have h27b := Int32.not_le.mp h27
        refine b_iconst (v := 1) dX12_placeOf_30 (by decide +kernel) ?_
        refine b_goto (tgt := 35) dX12_placeOf_31 (by decide) ?_
        refine b_iadd dX12_placeOf_35 ?_
        refine b_topE (y := nI (cntN (fun i => decide (g 90 i < g 90 p)) i + 1)) (nI_1 _) ?_
        refine b_istore_n (lv' := [(0, _), (1, _), (2, _), (3, _)]) dX12_placeOf_36 rfl (by decide) rfl rfl ?_
        refine b_incN (j := i) (lv' := [(0, _), (1, _), (2, _), (3, _)]) dX12_placeOf_37 rfl rfl (by decide) rfl rfl ?_
        refine b_goto (tgt := 4) dX12_placeOf_40 (by decide) ?_
        have ih2 := ih (i + 1) (by omega) (by omega)
        rw [cntN] at ih2
        rw [if_pos (by simp [h27b])] at ih2
        exact ih2
  refine b_iconst (v := 0) dX12_placeOf_0 (by decide +kernel) ?_
  refine b_istore_n (lv' := [(0, _), (1, _), (2, _)]) dX12_placeOf_1 rfl (by decide) rfl rfl ?_
  refine b_iconst (v := 0) dX12_placeOf_2 (by decide +kernel) ?_
  refine b_istore_n (lv' := [(0, _), (1, _), (2, _), (3, _)]) dX12_placeOf_3 rfl (by decide) rfl rfl ?_
  exact LP 0 (Nat.zero_le _)
theorem c_X12_isTritone {E : En} {d : Nat} {Q : QT} {X : XT} {g : G2} {i : Nat} (hi : i < 400) (hq : Q (some (.int (b2i (trB (g 104) i)))) g) : M E md_X12_isTritone (d + 1) [.ref 84, .int (nI i)] g Q X := by
  refine M.of _ rfl rfl (Nat.le_of_ble_eq_true rfl) ?_
  refine b_iload_n dX12_isTritone_0 rfl rfl ?_
  refine b_if_le (tgt := 55) dX12_isTritone_1 (by decide) (fun h1 => ?_) (fun h1 => ?_)
  · have h0 : i = 0 := by
      rcases Nat.eq_zero_or_pos i with q | q
      · exact q
      · exact absurd h1 (nI_nle q (by omega))
    refine b_iconst (v := 0) dX12_isTritone_55 (by decide +kernel) ?_
    refine b_zret (by first | exact Or.inl rfl | exact Or.inr rfl) rfl (by decide) dX12_isTritone_56 ?_
    have e : trB (g 104) i = false := by unfold trB; rw [decide_eq_false (by omega)]; rfl
    rw [e] at hq
    exact hq
  · have h0 : 0 < i := by
      rcases Nat.eq_zero_or_pos i with q | q
      · rw [q] at h1; exact absurd (show nI 0 ≤ 0 from by decide +kernel) h1
      · exact q
    refine b_aload_n dX12_isTritone_4 rfl rfl ?_
    refine b_getR (b := 104) lf_X12_93 rfl rfl dX12_isTritone_5 ?_
    refine b_iload_n dX12_isTritone_8 rfl rfl ?_
    refine b_ildN (j := i) dX12_isTritone_9 (rfl) (by show _ < 400; omega) ?_
    refine b_bipush (v := 12) dX12_isTritone_10 (by decide +kernel) ?_
    refine b_icmp_eq (tgt := 55) dX12_isTritone_12 (by decide) (fun h12 => ?_) (fun h12 => ?_)
    · refine b_iconst (v := 0) dX12_isTritone_55 (by decide +kernel) ?_
      refine b_zret (by first | exact Or.inl rfl | exact Or.inr rfl) rfl (by decide) dX12_isTritone_56 ?_
      have e : trB (g 104) i = false := by unfold trB; simp [h12]
      rw [e] at hq
      exact hq
    · refine b_aload_n dX12_isTritone_15 rfl rfl ?_
      refine b_getR (b := 104) lf_X12_93 rfl rfl dX12_isTritone_16 ?_
      refine b_iload_n dX12_isTritone_19 rfl rfl ?_
      refine b_iconst (v := 1) dX12_isTritone_20 (by decide +kernel) ?_
      refine b_isub dX12_isTritone_21 ?_
      refine b_ildN (j := (i - 1)) dX12_isTritone_22 (nI_m1 h0) (by show _ < 400; omega) ?_
      refine b_bipush (v := 12) dX12_isTritone_23 (by decide +kernel) ?_
      refine b_icmp_eq (tgt := 55) dX12_isTritone_25 (by decide) (fun h25 => ?_) (fun h25 => ?_)
      · refine b_iconst (v := 0) dX12_isTritone_55 (by decide +kernel) ?_
        refine b_zret (by first | exact Or.inl rfl | exact Or.inr rfl) rfl (by decide) dX12_isTritone_56 ?_
        have e : trB (g 104) i = false := by unfold trB; simp [h25]
        rw [e] at hq
        exact hq
      · refine b_aload_n dX12_isTritone_28 rfl rfl ?_
        refine b_getR (b := 104) lf_X12_93 rfl rfl dX12_isTritone_29 ?_
        refine b_iload_n dX12_isTritone_32 rfl rfl ?_
        refine b_ildN (j := i) dX12_isTritone_33 (rfl) (by show _ < 400; omega) ?_
        refine b_aload_n dX12_isTritone_34 rfl rfl ?_
        refine b_getR (b := 104) lf_X12_93 rfl rfl dX12_isTritone_35 ?_
        refine b_iload_n dX12_isTritone_38 rfl rfl ?_
        refine b_iconst (v := 1) dX12_isTritone_39 (by decide +kernel) ?_
        refine b_isub dX12_isTritone_40 ?_
        refine b_ildN (j := (i - 1)) dX12_isTritone_41 (nI_m1 h0) (by show _ < 400; omega) ?_
        refine b_isub dX12_isTritone_42 ?_
        refine b_abs dX12_isTritone_43 lc_X12_439 (by omega) (Nat.le_of_ble_eq_true rfl) (by decide) ?_
        refine b_bipush (v := 6) dX12_isTritone_46 (by decide +kernel) ?_
        refine b_icmp_ne (tgt := 55) dX12_isTritone_48 (by decide) (fun h48 => ?_) (fun h48 => ?_)
        · refine b_iconst (v := 0) dX12_isTritone_55 (by decide +kernel) ?_
          refine b_zret (by first | exact Or.inl rfl | exact Or.inr rfl) rfl (by decide) dX12_isTritone_56 ?_
          have e : trB (g 104) i = false := by unfold trB; rw [beq_eq_false_iff_ne.mpr h48]; simp
          rw [e] at hq
          exact hq
        · refine b_iconst (v := 1) dX12_isTritone_51 (by decide +kernel) ?_
          refine b_goto (tgt := 56) dX12_isTritone_52 (by decide) ?_
          refine b_zret (by first | exact Or.inl rfl | exact Or.inr rfl) rfl (by decide) dX12_isTritone_56 ?_
          have e : trB (g 104) i = true := by unfold trB; rw [decide_eq_true h0, h48]; simp [h12, h25]
          rw [e] at hq
          exact hq
theorem c_X12_tritonesFrom {E : En} {d : Nat} {Q : QT} {X : XT} {g : G2} {n s : Nat} (hn : g 84 32 = nI n) (h4 : n ≤ 400) (hs : s ≤ n) (hq : Q (some (.int (nI (cntN (fun i => decide (s ≤ i) && trB (g 104) i) n)))) g) : M E md_X12_tritonesFrom (d + 2) [.ref 84, .int (nI s)] g Q X := by
  refine M.of _ rfl rfl (Nat.le_of_ble_eq_true rfl) ?_
  have LP : ∀ i, i ≤ n → s ≤ i → B E md_X12_tritonesFrom (d + 2) Q X 4 [(0, .ref 84), (1, .int (nI s)), (2, .int (nI (cntN (fun i => decide (s ≤ i) && trB (g 104) i) i))), (3, .int (nI i))] [] g 0 := by
    refine lp_up (fun i hi ih hsi => ?_)
    refine b_iload_n dX12_tritonesFrom_4 rfl rfl ?_
    refine b_aload_n dX12_tritonesFrom_5 rfl rfl ?_
    refine b_getI lf_X12_320 rfl dX12_tritonesFrom_6 ?_
    refine b_icmp_ge (tgt := 34) dX12_tritonesFrom_9 (by decide) (fun h9 => ?_) (fun h9 => ?_)
    · have e : i = n := by have := (nI_leI (by omega) (by omega)).mp (hn ▸ h9); omega
      subst e
      refine b_iload_n dX12_tritonesFrom_34 rfl rfl ?_
      refine b_iret rfl (by decide) dX12_tritonesFrom_35 ?_
      exact hq
    · have e : i < n := by
        rcases Nat.lt_or_ge i n with q | q
        · exact q
        · exact absurd (hn ▸ (nI_leI (by omega) (by omega)).mpr q) h9
      refine b_iload_n dX12_tritonesFrom_12 rfl rfl ?_
      refine b_aload_n dX12_tritonesFrom_13 rfl rfl ?_
      refine b_iload_n dX12_tritonesFrom_14 rfl rfl ?_
      refine b_callV (As := [_]) (st := [_]) dX12_tritonesFrom_15 lk_X12_442 lm_X12_isTritone lv_X12_isTritone rfl (by decide) rfl rfl rfl (Nat.le_of_ble_eq_true rfl) (Nat.le_refl _) (by decide) ?_
      refine c_X12_isTritone (by omega) ?_
      refine b_if_eq (tgt := 25) dX12_tritonesFrom_18 (by decide) (fun h18 => ?_) (fun h18 => ?_)
      · have e18 := b2i_0 h18
        refine b_iconst (v := 0) dX12_tritonesFrom_25 (by decide +kernel) ?_
        refine b_iadd dX12_tritonesFrom_26 ?_
        refine b_topE (y := nI (cntN (fun i => decide (s ≤ i) && trB (g 104) i) i)) (Int32.add_zero _) ?_
        refine b_istore_n (lv' := [(0, _), (1, _), (2, _), (3, _)]) dX12_tritonesFrom_27 rfl (by decide) rfl rfl ?_
        refine b_incN (j := i) (lv' := [(0, _), (1, _), (2, _), (3, _)]) dX12_tritonesFrom_28 rfl rfl (by decide) rfl rfl ?_
        refine b_goto (tgt := 4) dX12_tritonesFrom_31 (by decide) ?_
        have ih2 := ih (i + 1) (by omega) (by omega) (by omega)
        rw [cntN] at ih2
        rw [if_neg (by simp [e18]; try omega), Nat.add_zero] at ih2
        exact ih2
      · have e18 := b2i_1 h18
        refine b_iconst (v := 1) dX12_tritonesFrom_21 (by decide +kernel) ?_
        refine b_goto (tgt := 26) dX12_tritonesFrom_22 (by decide) ?_
        refine b_iadd dX12_tritonesFrom_26 ?_
        refine b_topE (y := nI (cntN (fun i => decide (s ≤ i) && trB (g 104) i) i + 1)) (nI_1 _) ?_
        refine b_istore_n (lv' := [(0, _), (1, _), (2, _), (3, _)]) dX12_tritonesFrom_27 rfl (by decide) rfl rfl ?_
        refine b_incN (j := i) (lv' := [(0, _), (1, _), (2, _), (3, _)]) dX12_tritonesFrom_28 rfl rfl (by decide) rfl rfl ?_
        refine b_goto (tgt := 4) dX12_tritonesFrom_31 (by decide) ?_
        have ih2 := ih (i + 1) (by omega) (by omega) (by omega)
        rw [cntN] at ih2
        rw [if_pos (by simp [e18]; try omega)] at ih2
        exact ih2
  refine b_iconst (v := 0) dX12_tritonesFrom_0 (by decide +kernel) ?_
  refine b_istore_n (lv' := [(0, _), (1, _), (2, _)]) dX12_tritonesFrom_1 rfl (by decide) rfl rfl ?_
  refine b_iload_n dX12_tritonesFrom_2 rfl rfl ?_
  refine b_istore_n (lv' := [(0, _), (1, _), (2, _), (3, _)]) dX12_tritonesFrom_3 rfl (by decide) rfl rfl ?_
  have e := LP s hs (Nat.le_refl _)
  rw [cntN_z (fun i hi => by simp; omega)] at e
  exact e
theorem c_X12_isAt {E : En} {d : Nat} {Q : QT} {X : XT} {g : G2} {n m p : Nat} (hn : g 84 32 = nI n) (h4 : n ≤ 400) (hm : m ≤ 7) (hp : p ≤ 400) (hq : Q (some (.int (b2i (hasF (g 104) n (g 109) m p)))) g) : M E md_X12_isAt d [.ref 84, .int (nI p), .int (nI m)] g Q X := by
  refine M.of _ rfl rfl (Nat.le_of_ble_eq_true rfl) ?_
  have LP : p + m ≤ n → ∀ i, i ≤ m → anyN (fun i => !(g 104 (p + i) == g 109 i)) i = false → B E md_X12_isAt d Q X 14 [(0, .ref 84), (1, .int (nI p)), (2, .int (nI m)), (3, .int (nI i))] [] g 0 := by
    intro hpm
    have hq2 : Q (some (.int (b2i (!anyN (fun i => !(g 104 (p + i) == g 109 i)) m)))) g := by
      have e : hasF (g 104) n (g 109) m p = !anyN (fun i => !(g 104 (p + i) == g 109 i)) m := by unfold hasF; rw [decide_eq_true hpm]; rfl
      rw [← e]; exact hq
    refine lp_up (fun i hi ih hF => ?_)
    refine b_iload_n dX12_isAt_14 rfl rfl ?_
    refine b_iload_n dX12_isAt_15 rfl rfl ?_
    refine b_icmp_ge (tgt := 44) dX12_isAt_16 (by decide) (fun h16 => ?_) (fun h16 => ?_)
    · have e : i = m := by have := (nI_leI (by omega) (by omega)).mp h16; omega
      subst e
      refine b_iconst (v := 1) dX12_isAt_44 (by decide +kernel) ?_
      refine b_zret (Or.inr rfl) rfl (by decide) dX12_isAt_45 ?_
      rw [hF] at hq2
      exact hq2
    · have e : i < m := by
        rcases Nat.lt_or_ge i m with q | q
        · exact q
        · exact absurd ((nI_leI (by omega) (by omega)).mpr q) h16
      refine b_aload_n dX12_isAt_19 rfl rfl ?_
      refine b_getR (b := 104) lf_X12_93 rfl rfl dX12_isAt_20 ?_
      refine b_iload_n dX12_isAt_23 rfl rfl ?_
      refine b_iload_n dX12_isAt_24 rfl rfl ?_
      refine b_iadd dX12_isAt_25 ?_
      refine b_ildN (j := (p + i)) dX12_isAt_26 (nI_add p i) (by show _ < 400; omega) ?_
      refine b_aload_n dX12_isAt_27 rfl rfl ?_
      refine b_getR (b := 109) lf_X12_111 rfl rfl dX12_isAt_28 ?_
      refine b_iload_n dX12_isAt_31 rfl rfl ?_
      refine b_ildN (j := i) dX12_isAt_32 (rfl) (by show _ < 7; omega) ?_
      refine b_icmp_eq (tgt := 38) dX12_isAt_33 (by decide) (fun h33 => ?_) (fun h33 => ?_)
      · refine b_incN (j := i) (lv' := [(0, _), (1, _), (2, _), (3, _)]) dX12_isAt_38 rfl rfl (by decide) rfl rfl ?_
        refine b_goto (tgt := 14) dX12_isAt_41 (by decide) ?_
        exact ih (i + 1) (by omega) (by omega) (anyN_f hF (by grind))
      · refine b_iconst (v := 0) dX12_isAt_36 (by decide +kernel) ?_
        refine b_zret (Or.inl rfl) rfl (by decide) dX12_isAt_37 ?_
        rw [anyN_t (P := (fun i => !(g 104 (p + i) == g 109 i))) e (by grind)] at hq2
        exact hq2
  refine b_iload_n dX12_isAt_0 rfl rfl ?_
  refine b_iload_n dX12_isAt_1 rfl rfl ?_
  refine b_iadd dX12_isAt_2 ?_
  refine b_aload_n dX12_isAt_3 rfl rfl ?_
  refine b_getI lf_X12_320 rfl dX12_isAt_4 ?_
  refine b_icmp_le (tgt := 12) dX12_isAt_7 (by decide) (fun h7 => ?_) (fun h7 => ?_)
  · have e5 : p + m ≤ n := by
      rw [hn, nI_add] at h7
      exact (nI_leI (by omega) (by omega)).mp h7
    refine b_iconst (v := 0) dX12_isAt_12 (by decide +kernel) ?_
    refine b_istore_n (lv' := [(0, _), (1, _), (2, _), (3, _)]) dX12_isAt_13 rfl (by decide) rfl rfl ?_
    exact LP e5 0 (Nat.zero_le _) rfl
  · have e : ¬ p + m ≤ n := fun q => h7 (by rw [hn, nI_add]; exact nI_le q (by omega))
    have e2 : hasF (g 104) n (g 109) m p = false := by unfold hasF; rw [decide_eq_false e]; rfl
    rw [e2] at hq
    refine b_iconst (v := 0) dX12_isAt_10 (by decide +kernel) ?_
    refine b_zret (Or.inl rfl) rfl (by decide) dX12_isAt_11 ?_
    exact hq
theorem c_X12_firstFrom {E : En} {d : Nat} {Q : QT} {X : XT} {g : G2} {n m s : Nat} (hn : g 84 32 = nI n) (h4 : n ≤ 400) (hm : m ≤ 7) (hs : s ≤ n) (hq : Q (some (.int (fndF (hasF (g 104) n (g 109) m) (n - s) s))) g) : M E md_X12_firstFrom (d + 1) [.ref 84, .int (nI s), .int (nI m)] g Q X := by
  refine M.of _ rfl rfl (Nat.le_of_ble_eq_true rfl) ?_
  have LP : ∀ i, i ≤ n → s ≤ i → Q (some (.int (fndF (hasF (g 104) n (g 109) m) (n - i) i))) g → B E md_X12_firstFrom (d + 1) Q X 2 [(0, .ref 84), (1, .int (nI s)), (2, .int (nI m)), (3, .int (nI i))] [] g 0 := by
    refine lp_up (fun i hi ih hsi hq => ?_)
    refine b_iload_n dX12_firstFrom_2 rfl rfl ?_
    refine b_aload_n dX12_firstFrom_3 rfl rfl ?_
    refine b_getI lf_X12_320 rfl dX12_firstFrom_4 ?_
    refine b_icmp_ge (tgt := 27) dX12_firstFrom_7 (by decide) (fun h7 => ?_) (fun h7 => ?_)
    · have e : i = n := by have := (nI_leI (by omega) (by omega)).mp (hn ▸ h7); omega
      refine b_iconst (v := (-1)) dX12_firstFrom_27 (by decide +kernel) ?_
      refine b_iret rfl (by decide) dX12_firstFrom_28 ?_
      rw [e, Nat.sub_self, fndF] at hq
      exact hq
    · have e : i < n := by
        rcases Nat.lt_or_ge i n with q | q
        · exact q
        · exact absurd (hn ▸ (nI_leI (by omega) (by omega)).mpr q) h7
      refine b_aload_n dX12_firstFrom_10 rfl rfl ?_
      refine b_iload_n dX12_firstFrom_11 rfl rfl ?_
      refine b_iload_n dX12_firstFrom_12 rfl rfl ?_
      refine b_callV (As := [_, _]) (st := []) dX12_firstFrom_13 lk_X12_421 lm_X12_isAt lv_X12_isAt rfl (by decide) rfl rfl rfl (Nat.le_of_ble_eq_true rfl) (Nat.le_refl _) (by decide) ?_
      refine c_X12_isAt hn h4 hm (by omega) ?_
      refine b_if_eq (tgt := 21) dX12_firstFrom_16 (by decide) (fun h16 => ?_) (fun h16 => ?_)
      · have eP : (hasF (g 104) n (g 109) m) i = false := b2i_0 h16
        refine b_incN (j := i) (lv' := [(0, _), (1, _), (2, _), (3, _)]) dX12_firstFrom_21 rfl rfl (by decide) rfl rfl ?_
        refine b_goto (tgt := 2) dX12_firstFrom_24 (by decide) ?_
        refine ih (i + 1) (by omega) (by omega) (by omega) ?_
        have e3 : n - i = (n - (i + 1)) + 1 := by omega
        rw [e3, fndF, if_neg (by rw [eP]; decide)] at hq
        exact hq
      · have eP : (hasF (g 104) n (g 109) m) i = true := b2i_1 h16
        have e3 : n - i = (n - (i + 1)) + 1 := by omega
        rw [e3, fndF, if_pos eP] at hq
        refine b_iload_n dX12_firstFrom_19 rfl rfl ?_
        refine b_iret rfl (by decide) dX12_firstFrom_20 ?_
        exact hq
  refine b_iload_n dX12_firstFrom_0 rfl rfl ?_
  refine b_istore_n (lv' := [(0, _), (1, _), (2, _), (3, _)]) dX12_firstFrom_1 rfl (by decide) rfl rfl ?_
  exact LP s hs (Nat.le_refl _) hq
