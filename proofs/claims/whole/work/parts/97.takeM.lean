theorem c_X12_takeHalf_87 {E : En} {d : Nat} {Q : QT} {X : XT} {g : G2} (hq : ∀ h, (∀ z, z ≠ 87 → h z = g z) → (∀ j, 5 ≤ j → h 87 j = g 87 j) → (∀ j, j < 5 → h 87 j = g 87 (5 + j)) → Q none h) : M E md_X12_takeHalf d [.ref 87] g Q X := by
  refine M.of _ rfl rfl (Nat.le_of_ble_eq_true rfl) ?_
  have Lp : ∀ i, i ≤ 5 → ∀ h : G2, (∀ z, z ≠ 87 → h z = g z) → (∀ j, i ≤ j → h 87 j = g 87 j) → (∀ j, j < i → h 87 j = g 87 (5 + j)) → B E md_X12_takeHalf d Q X 2 [(0, .ref 87), (1, .int (nI i))] [] h 0 := by
    refine lp_up (fun i hi ih h q1 q2 q3 => ?_)
    refine b_iload_n dX12_takeHalf_2 rfl rfl ?_
    refine b_aload_n dX12_takeHalf_3 rfl rfl ?_
    refine b_ilen (n := 10) dX12_takeHalf_4 rfl (by decide) ?_
    refine b_iconst (v := 2) dX12_takeHalf_5 (by decide +kernel) ?_
    refine b_idiv dX12_takeHalf_6 (by decide +kernel) ?_
    refine b_topE (pk_div (d := 2) (by omega) (by decide) (by decide)) ?_
    refine b_icmp_ge (tgt := 27) dX12_takeHalf_7 (by decide) (fun h7 => ?_) (fun h7 => ?_)
    · have e7 : ((10 / 2)) ≤ i := nn_le (a := ((10 / 2))) (b := i) (by omega) (by omega) h7
      refine b_vret rfl (by decide) dX12_takeHalf_27 ?_
      have z : i = 5 := by omega
      subst z
      exact hq h q1 (fun j hj => q2 j hj) q3
    · have e7 : i < ((10 / 2)) := nn_nle (a := ((10 / 2))) (b := i) (by omega) (by omega) h7
      refine b_aload_n dX12_takeHalf_10 rfl rfl ?_
      refine b_iload_n dX12_takeHalf_11 rfl rfl ?_
      refine b_aload_n dX12_takeHalf_12 rfl rfl ?_
      refine b_aload_n dX12_takeHalf_13 rfl rfl ?_
      refine b_ilen (n := 10) dX12_takeHalf_14 rfl (by decide) ?_
      refine b_iconst (v := 2) dX12_takeHalf_15 (by decide +kernel) ?_
      refine b_idiv dX12_takeHalf_16 (by decide +kernel) ?_
      refine b_topE (pk_div (d := 2) (by omega) (by decide) (by decide)) ?_
      refine b_iload_n dX12_takeHalf_17 rfl rfl ?_
      refine b_iadd dX12_takeHalf_18 ?_
      refine b_topE (nI_add ((10 / 2)) i) ?_
      refine b_ildN (j := ((10 / 2) + i)) dX12_takeHalf_19 (rfl) (by show _ < 10; omega) ?_
      refine b_topE (y := (g 87 (5 + i))) (by rw [show (10 / 2 + i) = 5 + i from rfl]; exact q2 _ (by omega)) ?_
      refine b_istN (j := i) dX12_takeHalf_20 (rfl) (by show _ < 10; omega) ?_
      refine b_incN (j := i) (lv' := [(0, _), (1, _)]) dX12_takeHalf_21 rfl rfl (by decide) rfl rfl ?_
      refine b_goto (tgt := 2) dX12_takeHalf_24 (by decide) ?_
      refine ih (i + 1) (by omega) (by omega) _ (fun z q => (up2_f _ _ _ _ q).trans (q1 z q)) (fun j hj => (up2_k _ _ _ _ (by omega)).trans (q2 j (by omega))) (fun j hj => ?_)
      by_cases q : j = i
      · rw [q]; exact up2_s _ _ _ _
      · exact (up2_k _ _ _ _ q).trans (q3 j (by omega))
  refine b_iconst (v := 0) dX12_takeHalf_0 (by decide +kernel) ?_
  refine b_istore_n (lv' := [(0, _), (1, _)]) dX12_takeHalf_1 rfl (by decide) rfl rfl ?_
  exact Lp 0 (by decide) g (fun _ _ => rfl) (fun _ _ => rfl) (fun j hj => absurd hj (Nat.not_lt_zero _))
theorem c_X12_takeHalf_88 {E : En} {d : Nat} {Q : QT} {X : XT} {g : G2} (hq : ∀ h, (∀ z, z ≠ 88 → h z = g z) → (∀ j, 8 ≤ j → h 88 j = g 88 j) → (∀ j, j < 8 → h 88 j = g 88 (8 + j)) → Q none h) : M E md_X12_takeHalf d [.ref 88] g Q X := by
  refine M.of _ rfl rfl (Nat.le_of_ble_eq_true rfl) ?_
  have Lp : ∀ i, i ≤ 8 → ∀ h : G2, (∀ z, z ≠ 88 → h z = g z) → (∀ j, i ≤ j → h 88 j = g 88 j) → (∀ j, j < i → h 88 j = g 88 (8 + j)) → B E md_X12_takeHalf d Q X 2 [(0, .ref 88), (1, .int (nI i))] [] h 0 := by
    refine lp_up (fun i hi ih h q1 q2 q3 => ?_)
    refine b_iload_n dX12_takeHalf_2 rfl rfl ?_
    refine b_aload_n dX12_takeHalf_3 rfl rfl ?_
    refine b_ilen (n := 16) dX12_takeHalf_4 rfl (by decide) ?_
    refine b_iconst (v := 2) dX12_takeHalf_5 (by decide +kernel) ?_
    refine b_idiv dX12_takeHalf_6 (by decide +kernel) ?_
    refine b_topE (pk_div (d := 2) (by omega) (by decide) (by decide)) ?_
    refine b_icmp_ge (tgt := 27) dX12_takeHalf_7 (by decide) (fun h7 => ?_) (fun h7 => ?_)
    · have e7 : ((16 / 2)) ≤ i := nn_le (a := ((16 / 2))) (b := i) (by omega) (by omega) h7
      refine b_vret rfl (by decide) dX12_takeHalf_27 ?_
      have z : i = 8 := by omega
      subst z
      exact hq h q1 (fun j hj => q2 j hj) q3
    · have e7 : i < ((16 / 2)) := nn_nle (a := ((16 / 2))) (b := i) (by omega) (by omega) h7
      refine b_aload_n dX12_takeHalf_10 rfl rfl ?_
      refine b_iload_n dX12_takeHalf_11 rfl rfl ?_
      refine b_aload_n dX12_takeHalf_12 rfl rfl ?_
      refine b_aload_n dX12_takeHalf_13 rfl rfl ?_
      refine b_ilen (n := 16) dX12_takeHalf_14 rfl (by decide) ?_
      refine b_iconst (v := 2) dX12_takeHalf_15 (by decide +kernel) ?_
      refine b_idiv dX12_takeHalf_16 (by decide +kernel) ?_
      refine b_topE (pk_div (d := 2) (by omega) (by decide) (by decide)) ?_
      refine b_iload_n dX12_takeHalf_17 rfl rfl ?_
      refine b_iadd dX12_takeHalf_18 ?_
      refine b_topE (nI_add ((16 / 2)) i) ?_
      refine b_ildN (j := ((16 / 2) + i)) dX12_takeHalf_19 (rfl) (by show _ < 16; omega) ?_
      refine b_topE (y := (g 88 (8 + i))) (by rw [show (16 / 2 + i) = 8 + i from rfl]; exact q2 _ (by omega)) ?_
      refine b_istN (j := i) dX12_takeHalf_20 (rfl) (by show _ < 16; omega) ?_
      refine b_incN (j := i) (lv' := [(0, _), (1, _)]) dX12_takeHalf_21 rfl rfl (by decide) rfl rfl ?_
      refine b_goto (tgt := 2) dX12_takeHalf_24 (by decide) ?_
      refine ih (i + 1) (by omega) (by omega) _ (fun z q => (up2_f _ _ _ _ q).trans (q1 z q)) (fun j hj => (up2_k _ _ _ _ (by omega)).trans (q2 j (by omega))) (fun j hj => ?_)
      by_cases q : j = i
      · rw [q]; exact up2_s _ _ _ _
      · exact (up2_k _ _ _ _ q).trans (q3 j (by omega))
  refine b_iconst (v := 0) dX12_takeHalf_0 (by decide +kernel) ?_
  refine b_istore_n (lv' := [(0, _), (1, _)]) dX12_takeHalf_1 rfl (by decide) rfl rfl ?_
  exact Lp 0 (by decide) g (fun _ _ => rfl) (fun _ _ => rfl) (fun j hj => absurd hj (Nat.not_lt_zero _))
theorem c_X12_takeHalf_89 {E : En} {d : Nat} {Q : QT} {X : XT} {g : G2} (hq : ∀ h, (∀ z, z ≠ 89 → h z = g z) → (∀ j, 8 ≤ j → h 89 j = g 89 j) → (∀ j, j < 8 → h 89 j = g 89 (8 + j)) → Q none h) : M E md_X12_takeHalf d [.ref 89] g Q X := by
  refine M.of _ rfl rfl (Nat.le_of_ble_eq_true rfl) ?_
  have Lp : ∀ i, i ≤ 8 → ∀ h : G2, (∀ z, z ≠ 89 → h z = g z) → (∀ j, i ≤ j → h 89 j = g 89 j) → (∀ j, j < i → h 89 j = g 89 (8 + j)) → B E md_X12_takeHalf d Q X 2 [(0, .ref 89), (1, .int (nI i))] [] h 0 := by
    refine lp_up (fun i hi ih h q1 q2 q3 => ?_)
    refine b_iload_n dX12_takeHalf_2 rfl rfl ?_
    refine b_aload_n dX12_takeHalf_3 rfl rfl ?_
    refine b_ilen (n := 16) dX12_takeHalf_4 rfl (by decide) ?_
    refine b_iconst (v := 2) dX12_takeHalf_5 (by decide +kernel) ?_
    refine b_idiv dX12_takeHalf_6 (by decide +kernel) ?_
    refine b_topE (pk_div (d := 2) (by omega) (by decide) (by decide)) ?_
    refine b_icmp_ge (tgt := 27) dX12_takeHalf_7 (by decide) (fun h7 => ?_) (fun h7 => ?_)
    · have e7 : ((16 / 2)) ≤ i := nn_le (a := ((16 / 2))) (b := i) (by omega) (by omega) h7
      refine b_vret rfl (by decide) dX12_takeHalf_27 ?_
      have z : i = 8 := by omega
      subst z
      exact hq h q1 (fun j hj => q2 j hj) q3
    · have e7 : i < ((16 / 2)) := nn_nle (a := ((16 / 2))) (b := i) (by omega) (by omega) h7
      refine b_aload_n dX12_takeHalf_10 rfl rfl ?_
      refine b_iload_n dX12_takeHalf_11 rfl rfl ?_
      refine b_aload_n dX12_takeHalf_12 rfl rfl ?_
      refine b_aload_n dX12_takeHalf_13 rfl rfl ?_
      refine b_ilen (n := 16) dX12_takeHalf_14 rfl (by decide) ?_
      refine b_iconst (v := 2) dX12_takeHalf_15 (by decide +kernel) ?_
      refine b_idiv dX12_takeHalf_16 (by decide +kernel) ?_
      refine b_topE (pk_div (d := 2) (by omega) (by decide) (by decide)) ?_
      refine b_iload_n dX12_takeHalf_17 rfl rfl ?_
      refine b_iadd dX12_takeHalf_18 ?_
      refine b_topE (nI_add ((16 / 2)) i) ?_
      refine b_ildN (j := ((16 / 2) + i)) dX12_takeHalf_19 (rfl) (by show _ < 16; omega) ?_
      refine b_topE (y := (g 89 (8 + i))) (by rw [show (16 / 2 + i) = 8 + i from rfl]; exact q2 _ (by omega)) ?_
      refine b_istN (j := i) dX12_takeHalf_20 (rfl) (by show _ < 16; omega) ?_
      refine b_incN (j := i) (lv' := [(0, _), (1, _)]) dX12_takeHalf_21 rfl rfl (by decide) rfl rfl ?_
      refine b_goto (tgt := 2) dX12_takeHalf_24 (by decide) ?_
      refine ih (i + 1) (by omega) (by omega) _ (fun z q => (up2_f _ _ _ _ q).trans (q1 z q)) (fun j hj => (up2_k _ _ _ _ (by omega)).trans (q2 j (by omega))) (fun j hj => ?_)
      by_cases q : j = i
      · rw [q]; exact up2_s _ _ _ _
      · exact (up2_k _ _ _ _ q).trans (q3 j (by omega))
  refine b_iconst (v := 0) dX12_takeHalf_0 (by decide +kernel) ?_
  refine b_istore_n (lv' := [(0, _), (1, _)]) dX12_takeHalf_1 rfl (by decide) rfl rfl ?_
  exact Lp 0 (by decide) g (fun _ _ => rfl) (fun _ _ => rfl) (fun j hj => absurd hj (Nat.not_lt_zero _))
theorem c_X12_takeHalf_90 {E : En} {d : Nat} {Q : QT} {X : XT} {g : G2} (hq : ∀ h, (∀ z, z ≠ 90 → h z = g z) → (∀ j, 8 ≤ j → h 90 j = g 90 j) → (∀ j, j < 8 → h 90 j = g 90 (8 + j)) → Q none h) : M E md_X12_takeHalf d [.ref 90] g Q X := by
  refine M.of _ rfl rfl (Nat.le_of_ble_eq_true rfl) ?_
  have Lp : ∀ i, i ≤ 8 → ∀ h : G2, (∀ z, z ≠ 90 → h z = g z) → (∀ j, i ≤ j → h 90 j = g 90 j) → (∀ j, j < i → h 90 j = g 90 (8 + j)) → B E md_X12_takeHalf d Q X 2 [(0, .ref 90), (1, .int (nI i))] [] h 0 := by
    refine lp_up (fun i hi ih h q1 q2 q3 => ?_)
    refine b_iload_n dX12_takeHalf_2 rfl rfl ?_
    refine b_aload_n dX12_takeHalf_3 rfl rfl ?_
    refine b_ilen (n := 16) dX12_takeHalf_4 rfl (by decide) ?_
    refine b_iconst (v := 2) dX12_takeHalf_5 (by decide +kernel) ?_
    refine b_idiv dX12_takeHalf_6 (by decide +kernel) ?_
    refine b_topE (pk_div (d := 2) (by omega) (by decide) (by decide)) ?_
    refine b_icmp_ge (tgt := 27) dX12_takeHalf_7 (by decide) (fun h7 => ?_) (fun h7 => ?_)
    · have e7 : ((16 / 2)) ≤ i := nn_le (a := ((16 / 2))) (b := i) (by omega) (by omega) h7
      refine b_vret rfl (by decide) dX12_takeHalf_27 ?_
      have z : i = 8 := by omega
      subst z
      exact hq h q1 (fun j hj => q2 j hj) q3
    · have e7 : i < ((16 / 2)) := nn_nle (a := ((16 / 2))) (b := i) (by omega) (by omega) h7
      refine b_aload_n dX12_takeHalf_10 rfl rfl ?_
      refine b_iload_n dX12_takeHalf_11 rfl rfl ?_
      refine b_aload_n dX12_takeHalf_12 rfl rfl ?_
      refine b_aload_n dX12_takeHalf_13 rfl rfl ?_
      refine b_ilen (n := 16) dX12_takeHalf_14 rfl (by decide) ?_
      refine b_iconst (v := 2) dX12_takeHalf_15 (by decide +kernel) ?_
      refine b_idiv dX12_takeHalf_16 (by decide +kernel) ?_
      refine b_topE (pk_div (d := 2) (by omega) (by decide) (by decide)) ?_
      refine b_iload_n dX12_takeHalf_17 rfl rfl ?_
      refine b_iadd dX12_takeHalf_18 ?_
      refine b_topE (nI_add ((16 / 2)) i) ?_
      refine b_ildN (j := ((16 / 2) + i)) dX12_takeHalf_19 (rfl) (by show _ < 16; omega) ?_
      refine b_topE (y := (g 90 (8 + i))) (by rw [show (16 / 2 + i) = 8 + i from rfl]; exact q2 _ (by omega)) ?_
      refine b_istN (j := i) dX12_takeHalf_20 (rfl) (by show _ < 16; omega) ?_
      refine b_incN (j := i) (lv' := [(0, _), (1, _)]) dX12_takeHalf_21 rfl rfl (by decide) rfl rfl ?_
      refine b_goto (tgt := 2) dX12_takeHalf_24 (by decide) ?_
      refine ih (i + 1) (by omega) (by omega) _ (fun z q => (up2_f _ _ _ _ q).trans (q1 z q)) (fun j hj => (up2_k _ _ _ _ (by omega)).trans (q2 j (by omega))) (fun j hj => ?_)
      by_cases q : j = i
      · rw [q]; exact up2_s _ _ _ _
      · exact (up2_k _ _ _ _ q).trans (q3 j (by omega))
  refine b_iconst (v := 0) dX12_takeHalf_0 (by decide +kernel) ?_
  refine b_istore_n (lv' := [(0, _), (1, _)]) dX12_takeHalf_1 rfl (by decide) rfl rfl ?_
  exact Lp 0 (by decide) g (fun _ _ => rfl) (fun _ _ => rfl) (fun j hj => absurd hj (Nat.not_lt_zero _))
theorem c_X12_takeHalf_91 {E : En} {d : Nat} {Q : QT} {X : XT} {g : G2} (hq : ∀ h, (∀ z, z ≠ 91 → h z = g z) → (∀ j, 8 ≤ j → h 91 j = g 91 j) → (∀ j, j < 8 → h 91 j = g 91 (8 + j)) → Q none h) : M E md_X12_takeHalf d [.ref 91] g Q X := by
  refine M.of _ rfl rfl (Nat.le_of_ble_eq_true rfl) ?_
  have Lp : ∀ i, i ≤ 8 → ∀ h : G2, (∀ z, z ≠ 91 → h z = g z) → (∀ j, i ≤ j → h 91 j = g 91 j) → (∀ j, j < i → h 91 j = g 91 (8 + j)) → B E md_X12_takeHalf d Q X 2 [(0, .ref 91), (1, .int (nI i))] [] h 0 := by
    refine lp_up (fun i hi ih h q1 q2 q3 => ?_)
    refine b_iload_n dX12_takeHalf_2 rfl rfl ?_
    refine b_aload_n dX12_takeHalf_3 rfl rfl ?_
    refine b_ilen (n := 16) dX12_takeHalf_4 rfl (by decide) ?_
    refine b_iconst (v := 2) dX12_takeHalf_5 (by decide +kernel) ?_
    refine b_idiv dX12_takeHalf_6 (by decide +kernel) ?_
    refine b_topE (pk_div (d := 2) (by omega) (by decide) (by decide)) ?_
    refine b_icmp_ge (tgt := 27) dX12_takeHalf_7 (by decide) (fun h7 => ?_) (fun h7 => ?_)
    · have e7 : ((16 / 2)) ≤ i := nn_le (a := ((16 / 2))) (b := i) (by omega) (by omega) h7
      refine b_vret rfl (by decide) dX12_takeHalf_27 ?_
      have z : i = 8 := by omega
      subst z
      exact hq h q1 (fun j hj => q2 j hj) q3
    · have e7 : i < ((16 / 2)) := nn_nle (a := ((16 / 2))) (b := i) (by omega) (by omega) h7
      refine b_aload_n dX12_takeHalf_10 rfl rfl ?_
      refine b_iload_n dX12_takeHalf_11 rfl rfl ?_
      refine b_aload_n dX12_takeHalf_12 rfl rfl ?_
      refine b_aload_n dX12_takeHalf_13 rfl rfl ?_
      refine b_ilen (n := 16) dX12_takeHalf_14 rfl (by decide) ?_
      refine b_iconst (v := 2) dX12_takeHalf_15 (by decide +kernel) ?_
      refine b_idiv dX12_takeHalf_16 (by decide +kernel) ?_
      refine b_topE (pk_div (d := 2) (by omega) (by decide) (by decide)) ?_
      refine b_iload_n dX12_takeHalf_17 rfl rfl ?_
      refine b_iadd dX12_takeHalf_18 ?_
      refine b_topE (nI_add ((16 / 2)) i) ?_
      refine b_ildN (j := ((16 / 2) + i)) dX12_takeHalf_19 (rfl) (by show _ < 16; omega) ?_
      refine b_topE (y := (g 91 (8 + i))) (by rw [show (16 / 2 + i) = 8 + i from rfl]; exact q2 _ (by omega)) ?_
      refine b_istN (j := i) dX12_takeHalf_20 (rfl) (by show _ < 16; omega) ?_
      refine b_incN (j := i) (lv' := [(0, _), (1, _)]) dX12_takeHalf_21 rfl rfl (by decide) rfl rfl ?_
      refine b_goto (tgt := 2) dX12_takeHalf_24 (by decide) ?_
      refine ih (i + 1) (by omega) (by omega) _ (fun z q => (up2_f _ _ _ _ q).trans (q1 z q)) (fun j hj => (up2_k _ _ _ _ (by omega)).trans (q2 j (by omega))) (fun j hj => ?_)
      by_cases q : j = i
      · rw [q]; exact up2_s _ _ _ _
      · exact (up2_k _ _ _ _ q).trans (q3 j (by omega))
  refine b_iconst (v := 0) dX12_takeHalf_0 (by decide +kernel) ?_
  refine b_istore_n (lv' := [(0, _), (1, _)]) dX12_takeHalf_1 rfl (by decide) rfl rfl ?_
  exact Lp 0 (by decide) g (fun _ _ => rfl) (fun _ _ => rfl) (fun j hj => absurd hj (Nat.not_lt_zero _))
theorem c_X12_takeHalf_92 {E : En} {d : Nat} {Q : QT} {X : XT} {g : G2} (hq : ∀ h, (∀ z, z ≠ 92 → h z = g z) → (∀ j, 6 ≤ j → h 92 j = g 92 j) → (∀ j, j < 6 → h 92 j = g 92 (6 + j)) → Q none h) : M E md_X12_takeHalf d [.ref 92] g Q X := by
  refine M.of _ rfl rfl (Nat.le_of_ble_eq_true rfl) ?_
  have Lp : ∀ i, i ≤ 6 → ∀ h : G2, (∀ z, z ≠ 92 → h z = g z) → (∀ j, i ≤ j → h 92 j = g 92 j) → (∀ j, j < i → h 92 j = g 92 (6 + j)) → B E md_X12_takeHalf d Q X 2 [(0, .ref 92), (1, .int (nI i))] [] h 0 := by
    refine lp_up (fun i hi ih h q1 q2 q3 => ?_)
    refine b_iload_n dX12_takeHalf_2 rfl rfl ?_
    refine b_aload_n dX12_takeHalf_3 rfl rfl ?_
    refine b_ilen (n := 12) dX12_takeHalf_4 rfl (by decide) ?_
    refine b_iconst (v := 2) dX12_takeHalf_5 (by decide +kernel) ?_
    refine b_idiv dX12_takeHalf_6 (by decide +kernel) ?_
    refine b_topE (pk_div (d := 2) (by omega) (by decide) (by decide)) ?_
    refine b_icmp_ge (tgt := 27) dX12_takeHalf_7 (by decide) (fun h7 => ?_) (fun h7 => ?_)
    · have e7 : ((12 / 2)) ≤ i := nn_le (a := ((12 / 2))) (b := i) (by omega) (by omega) h7
      refine b_vret rfl (by decide) dX12_takeHalf_27 ?_
      have z : i = 6 := by omega
      subst z
      exact hq h q1 (fun j hj => q2 j hj) q3
    · have e7 : i < ((12 / 2)) := nn_nle (a := ((12 / 2))) (b := i) (by omega) (by omega) h7
      refine b_aload_n dX12_takeHalf_10 rfl rfl ?_
      refine b_iload_n dX12_takeHalf_11 rfl rfl ?_
      refine b_aload_n dX12_takeHalf_12 rfl rfl ?_
      refine b_aload_n dX12_takeHalf_13 rfl rfl ?_
      refine b_ilen (n := 12) dX12_takeHalf_14 rfl (by decide) ?_
      refine b_iconst (v := 2) dX12_takeHalf_15 (by decide +kernel) ?_
      refine b_idiv dX12_takeHalf_16 (by decide +kernel) ?_
      refine b_topE (pk_div (d := 2) (by omega) (by decide) (by decide)) ?_
      refine b_iload_n dX12_takeHalf_17 rfl rfl ?_
      refine b_iadd dX12_takeHalf_18 ?_
      refine b_topE (nI_add ((12 / 2)) i) ?_
      refine b_ildN (j := ((12 / 2) + i)) dX12_takeHalf_19 (rfl) (by show _ < 12; omega) ?_
      refine b_topE (y := (g 92 (6 + i))) (by rw [show (12 / 2 + i) = 6 + i from rfl]; exact q2 _ (by omega)) ?_
      refine b_istN (j := i) dX12_takeHalf_20 (rfl) (by show _ < 12; omega) ?_
      refine b_incN (j := i) (lv' := [(0, _), (1, _)]) dX12_takeHalf_21 rfl rfl (by decide) rfl rfl ?_
      refine b_goto (tgt := 2) dX12_takeHalf_24 (by decide) ?_
      refine ih (i + 1) (by omega) (by omega) _ (fun z q => (up2_f _ _ _ _ q).trans (q1 z q)) (fun j hj => (up2_k _ _ _ _ (by omega)).trans (q2 j (by omega))) (fun j hj => ?_)
      by_cases q : j = i
      · rw [q]; exact up2_s _ _ _ _
      · exact (up2_k _ _ _ _ q).trans (q3 j (by omega))
  refine b_iconst (v := 0) dX12_takeHalf_0 (by decide +kernel) ?_
  refine b_istore_n (lv' := [(0, _), (1, _)]) dX12_takeHalf_1 rfl (by decide) rfl rfl ?_
  exact Lp 0 (by decide) g (fun _ _ => rfl) (fun _ _ => rfl) (fun j hj => absurd hj (Nat.not_lt_zero _))
theorem c_X12_takeHalf_93 {E : En} {d : Nat} {Q : QT} {X : XT} {g : G2} (hq : ∀ h, (∀ z, z ≠ 93 → h z = g z) → (∀ j, 6 ≤ j → h 93 j = g 93 j) → (∀ j, j < 6 → h 93 j = g 93 (6 + j)) → Q none h) : M E md_X12_takeHalf d [.ref 93] g Q X := by
  refine M.of _ rfl rfl (Nat.le_of_ble_eq_true rfl) ?_
  have Lp : ∀ i, i ≤ 6 → ∀ h : G2, (∀ z, z ≠ 93 → h z = g z) → (∀ j, i ≤ j → h 93 j = g 93 j) → (∀ j, j < i → h 93 j = g 93 (6 + j)) → B E md_X12_takeHalf d Q X 2 [(0, .ref 93), (1, .int (nI i))] [] h 0 := by
    refine lp_up (fun i hi ih h q1 q2 q3 => ?_)
    refine b_iload_n dX12_takeHalf_2 rfl rfl ?_
    refine b_aload_n dX12_takeHalf_3 rfl rfl ?_
    refine b_ilen (n := 12) dX12_takeHalf_4 rfl (by decide) ?_
    refine b_iconst (v := 2) dX12_takeHalf_5 (by decide +kernel) ?_
    refine b_idiv dX12_takeHalf_6 (by decide +kernel) ?_
    refine b_topE (pk_div (d := 2) (by omega) (by decide) (by decide)) ?_
    refine b_icmp_ge (tgt := 27) dX12_takeHalf_7 (by decide) (fun h7 => ?_) (fun h7 => ?_)
    · have e7 : ((12 / 2)) ≤ i := nn_le (a := ((12 / 2))) (b := i) (by omega) (by omega) h7
      refine b_vret rfl (by decide) dX12_takeHalf_27 ?_
      have z : i = 6 := by omega
      subst z
      exact hq h q1 (fun j hj => q2 j hj) q3
    · have e7 : i < ((12 / 2)) := nn_nle (a := ((12 / 2))) (b := i) (by omega) (by omega) h7
      refine b_aload_n dX12_takeHalf_10 rfl rfl ?_
      refine b_iload_n dX12_takeHalf_11 rfl rfl ?_
      refine b_aload_n dX12_takeHalf_12 rfl rfl ?_
      refine b_aload_n dX12_takeHalf_13 rfl rfl ?_
      refine b_ilen (n := 12) dX12_takeHalf_14 rfl (by decide) ?_
      refine b_iconst (v := 2) dX12_takeHalf_15 (by decide +kernel) ?_
      refine b_idiv dX12_takeHalf_16 (by decide +kernel) ?_
      refine b_topE (pk_div (d := 2) (by omega) (by decide) (by decide)) ?_
      refine b_iload_n dX12_takeHalf_17 rfl rfl ?_
      refine b_iadd dX12_takeHalf_18 ?_
      refine b_topE (nI_add ((12 / 2)) i) ?_
      refine b_ildN (j := ((12 / 2) + i)) dX12_takeHalf_19 (rfl) (by show _ < 12; omega) ?_
      refine b_topE (y := (g 93 (6 + i))) (by rw [show (12 / 2 + i) = 6 + i from rfl]; exact q2 _ (by omega)) ?_
      refine b_istN (j := i) dX12_takeHalf_20 (rfl) (by show _ < 12; omega) ?_
      refine b_incN (j := i) (lv' := [(0, _), (1, _)]) dX12_takeHalf_21 rfl rfl (by decide) rfl rfl ?_
      refine b_goto (tgt := 2) dX12_takeHalf_24 (by decide) ?_
      refine ih (i + 1) (by omega) (by omega) _ (fun z q => (up2_f _ _ _ _ q).trans (q1 z q)) (fun j hj => (up2_k _ _ _ _ (by omega)).trans (q2 j (by omega))) (fun j hj => ?_)
      by_cases q : j = i
      · rw [q]; exact up2_s _ _ _ _
      · exact (up2_k _ _ _ _ q).trans (q3 j (by omega))
  refine b_iconst (v := 0) dX12_takeHalf_0 (by decide +kernel) ?_
  refine b_istore_n (lv' := [(0, _), (1, _)]) dX12_takeHalf_1 rfl (by decide) rfl rfl ?_
  exact Lp 0 (by decide) g (fun _ _ => rfl) (fun _ _ => rfl) (fun j hj => absurd hj (Nat.not_lt_zero _))
theorem c_X12_takeHalf_94 {E : En} {d : Nat} {Q : QT} {X : XT} {g : G2} (hq : ∀ h, (∀ z, z ≠ 94 → h z = g z) → (∀ j, 24 ≤ j → h 94 j = g 94 j) → (∀ j, j < 24 → h 94 j = g 94 (24 + j)) → Q none h) : M E md_X12_takeHalf d [.ref 94] g Q X := by
  refine M.of _ rfl rfl (Nat.le_of_ble_eq_true rfl) ?_
  have Lp : ∀ i, i ≤ 24 → ∀ h : G2, (∀ z, z ≠ 94 → h z = g z) → (∀ j, i ≤ j → h 94 j = g 94 j) → (∀ j, j < i → h 94 j = g 94 (24 + j)) → B E md_X12_takeHalf d Q X 2 [(0, .ref 94), (1, .int (nI i))] [] h 0 := by
    refine lp_up (fun i hi ih h q1 q2 q3 => ?_)
    refine b_iload_n dX12_takeHalf_2 rfl rfl ?_
    refine b_aload_n dX12_takeHalf_3 rfl rfl ?_
    refine b_ilen (n := 48) dX12_takeHalf_4 rfl (by decide) ?_
    refine b_iconst (v := 2) dX12_takeHalf_5 (by decide +kernel) ?_
    refine b_idiv dX12_takeHalf_6 (by decide +kernel) ?_
    refine b_topE (pk_div (d := 2) (by omega) (by decide) (by decide)) ?_
    refine b_icmp_ge (tgt := 27) dX12_takeHalf_7 (by decide) (fun h7 => ?_) (fun h7 => ?_)
    · have e7 : ((48 / 2)) ≤ i := nn_le (a := ((48 / 2))) (b := i) (by omega) (by omega) h7
      refine b_vret rfl (by decide) dX12_takeHalf_27 ?_
      have z : i = 24 := by omega
      subst z
      exact hq h q1 (fun j hj => q2 j hj) q3
    · have e7 : i < ((48 / 2)) := nn_nle (a := ((48 / 2))) (b := i) (by omega) (by omega) h7
      refine b_aload_n dX12_takeHalf_10 rfl rfl ?_
      refine b_iload_n dX12_takeHalf_11 rfl rfl ?_
      refine b_aload_n dX12_takeHalf_12 rfl rfl ?_
      refine b_aload_n dX12_takeHalf_13 rfl rfl ?_
      refine b_ilen (n := 48) dX12_takeHalf_14 rfl (by decide) ?_
      refine b_iconst (v := 2) dX12_takeHalf_15 (by decide +kernel) ?_
      refine b_idiv dX12_takeHalf_16 (by decide +kernel) ?_
      refine b_topE (pk_div (d := 2) (by omega) (by decide) (by decide)) ?_
      refine b_iload_n dX12_takeHalf_17 rfl rfl ?_
      refine b_iadd dX12_takeHalf_18 ?_
      refine b_topE (nI_add ((48 / 2)) i) ?_
      refine b_ildN (j := ((48 / 2) + i)) dX12_takeHalf_19 (rfl) (by show _ < 48; omega) ?_
      refine b_topE (y := (g 94 (24 + i))) (by rw [show (48 / 2 + i) = 24 + i from rfl]; exact q2 _ (by omega)) ?_
      refine b_istN (j := i) dX12_takeHalf_20 (rfl) (by show _ < 48; omega) ?_
      refine b_incN (j := i) (lv' := [(0, _), (1, _)]) dX12_takeHalf_21 rfl rfl (by decide) rfl rfl ?_
      refine b_goto (tgt := 2) dX12_takeHalf_24 (by decide) ?_
      refine ih (i + 1) (by omega) (by omega) _ (fun z q => (up2_f _ _ _ _ q).trans (q1 z q)) (fun j hj => (up2_k _ _ _ _ (by omega)).trans (q2 j (by omega))) (fun j hj => ?_)
      by_cases q : j = i
      · rw [q]; exact up2_s _ _ _ _
      · exact (up2_k _ _ _ _ q).trans (q3 j (by omega))
  refine b_iconst (v := 0) dX12_takeHalf_0 (by decide +kernel) ?_
  refine b_istore_n (lv' := [(0, _), (1, _)]) dX12_takeHalf_1 rfl (by decide) rfl rfl ?_
  exact Lp 0 (by decide) g (fun _ _ => rfl) (fun _ _ => rfl) (fun j hj => absurd hj (Nat.not_lt_zero _))
theorem c_X12_takeHalf_95 {E : En} {d : Nat} {Q : QT} {X : XT} {g : G2} (hq : ∀ h, (∀ z, z ≠ 95 → h z = g z) → (∀ j, 600 ≤ j → h 95 j = g 95 j) → (∀ j, j < 600 → h 95 j = g 95 (600 + j)) → Q none h) : M E md_X12_takeHalf d [.ref 95] g Q X := by
  refine M.of _ rfl rfl (Nat.le_of_ble_eq_true rfl) ?_
  have Lp : ∀ i, i ≤ 600 → ∀ h : G2, (∀ z, z ≠ 95 → h z = g z) → (∀ j, i ≤ j → h 95 j = g 95 j) → (∀ j, j < i → h 95 j = g 95 (600 + j)) → B E md_X12_takeHalf d Q X 2 [(0, .ref 95), (1, .int (nI i))] [] h 0 := by
    refine lp_up (fun i hi ih h q1 q2 q3 => ?_)
    refine b_iload_n dX12_takeHalf_2 rfl rfl ?_
    refine b_aload_n dX12_takeHalf_3 rfl rfl ?_
    refine b_ilen (n := 1200) dX12_takeHalf_4 rfl (by decide) ?_
    refine b_iconst (v := 2) dX12_takeHalf_5 (by decide +kernel) ?_
    refine b_idiv dX12_takeHalf_6 (by decide +kernel) ?_
    refine b_topE (pk_div (d := 2) (by omega) (by decide) (by decide)) ?_
    refine b_icmp_ge (tgt := 27) dX12_takeHalf_7 (by decide) (fun h7 => ?_) (fun h7 => ?_)
    · have e7 : ((1200 / 2)) ≤ i := nn_le (a := ((1200 / 2))) (b := i) (by omega) (by omega) h7
      refine b_vret rfl (by decide) dX12_takeHalf_27 ?_
      have z : i = 600 := by omega
      subst z
      exact hq h q1 (fun j hj => q2 j hj) q3
    · have e7 : i < ((1200 / 2)) := nn_nle (a := ((1200 / 2))) (b := i) (by omega) (by omega) h7
      refine b_aload_n dX12_takeHalf_10 rfl rfl ?_
      refine b_iload_n dX12_takeHalf_11 rfl rfl ?_
      refine b_aload_n dX12_takeHalf_12 rfl rfl ?_
      refine b_aload_n dX12_takeHalf_13 rfl rfl ?_
      refine b_ilen (n := 1200) dX12_takeHalf_14 rfl (by decide) ?_
      refine b_iconst (v := 2) dX12_takeHalf_15 (by decide +kernel) ?_
      refine b_idiv dX12_takeHalf_16 (by decide +kernel) ?_
      refine b_topE (pk_div (d := 2) (by omega) (by decide) (by decide)) ?_
      refine b_iload_n dX12_takeHalf_17 rfl rfl ?_
      refine b_iadd dX12_takeHalf_18 ?_
      refine b_topE (nI_add ((1200 / 2)) i) ?_
      refine b_ildN (j := ((1200 / 2) + i)) dX12_takeHalf_19 (rfl) (by show _ < 1200; omega) ?_
      refine b_topE (y := (g 95 (600 + i))) (by rw [show (1200 / 2 + i) = 600 + i from rfl]; exact q2 _ (by omega)) ?_
      refine b_istN (j := i) dX12_takeHalf_20 (rfl) (by show _ < 1200; omega) ?_
      refine b_incN (j := i) (lv' := [(0, _), (1, _)]) dX12_takeHalf_21 rfl rfl (by decide) rfl rfl ?_
      refine b_goto (tgt := 2) dX12_takeHalf_24 (by decide) ?_
      refine ih (i + 1) (by omega) (by omega) _ (fun z q => (up2_f _ _ _ _ q).trans (q1 z q)) (fun j hj => (up2_k _ _ _ _ (by omega)).trans (q2 j (by omega))) (fun j hj => ?_)
      by_cases q : j = i
      · rw [q]; exact up2_s _ _ _ _
      · exact (up2_k _ _ _ _ q).trans (q3 j (by omega))
  refine b_iconst (v := 0) dX12_takeHalf_0 (by decide +kernel) ?_
  refine b_istore_n (lv' := [(0, _), (1, _)]) dX12_takeHalf_1 rfl (by decide) rfl rfl ?_
  exact Lp 0 (by decide) g (fun _ _ => rfl) (fun _ _ => rfl) (fun j hj => absurd hj (Nat.not_lt_zero _))
def J2 (h1 : G2) (np : Nat) (h2 : G2) : Prop := (∀ y, y ≠ 99 → y ≠ 100 → h2 y = h1 y) ∧ ∀ p, p < np → h2 99 p = h1 89 p ∧ h2 100 p = h1 91 p
def J3 (h2 h3 : G2) : Prop := (∀ y, y ≠ 101 → y ≠ 102 → h3 y = h2 y) ∧ ∀ k, k < 6 → h3 101 k = h2 92 k ∧ h3 102 k = h2 93 k
theorem c_X12_takeOver {E : En} {d : Nat} {Q : QT} {X : XT} {g : G2} {np : Nat} (hn : g 87 5 = nI np) (h8 : np ≤ 8) (hq : ∀ h, (∀ y, y ≠ 84 → ¬ (87 ≤ y ∧ y ≤ 95) → y ≠ 97 → ¬ (99 ≤ y ∧ y ≤ 102) → h y = g y) → (∀ y, 87 ≤ y → y ≤ 95 → ∀ j, j < hfN y → h y j = g y (hfN y + j)) → (∀ j, (j < 30 ∨ (39 ≤ j ∧ j ≠ 58)) → h 84 j = g 84 j) → (∀ j, (j = 30 ∨ j = 32 ∨ j = 33 ∨ j = 34 ∨ j = 35 ∨ j = 37 ∨ j = 38 ∨ j = 58) → h 84 j = 0) → h 84 31 = g 87 8 → h 84 36 = g 87 6 → (∀ p, p < np → h 99 p = g 89 (8 + p) ∧ h 100 p = g 91 (8 + p)) → (∀ k, k < 6 → h 101 k = g 92 (6 + k) ∧ h 102 k = g 93 (6 + k)) → (∃ f0, ∀ k, h 97 k = ordR (fun p => cntN (fun j => decide (h 90 j < h 90 p)) np) f0 np k) → Q none h) : M E md_X12_takeOver (d + 1) [.ref 84] g Q X := by
  refine M.of _ rfl rfl (Nat.le_of_ble_eq_true rfl) ?_
  refine b_aload_n dX12_takeOver_0 rfl rfl ?_
  refine b_getR (b := 87) lf_X12_40 rfl rfl dX12_takeOver_1 ?_
  refine b_callS (As := [_]) (st := []) dX12_takeOver_4 lk_X12_312 lm_X12_takeHalf ls_X12_takeHalf rfl rfl (Nat.le_of_ble_eq_true rfl) (Nat.le_refl _) (by decide) ?_
  refine c_X12_takeHalf_87 (fun t0 A0 B0 C0 => ?_)
  refine b_aload_n dX12_takeOver_7 rfl rfl ?_
  refine b_getR (b := 88) lf_X12_44 rfl rfl dX12_takeOver_8 ?_
  refine b_callS (As := [_]) (st := []) dX12_takeOver_11 lk_X12_312 lm_X12_takeHalf ls_X12_takeHalf rfl rfl (Nat.le_of_ble_eq_true rfl) (Nat.le_refl _) (by decide) ?_
  refine c_X12_takeHalf_88 (fun t1 A1 B1 C1 => ?_)
  refine b_aload_n dX12_takeOver_14 rfl rfl ?_
  refine b_getR (b := 89) lf_X12_46 rfl rfl dX12_takeOver_15 ?_
  refine b_callS (As := [_]) (st := []) dX12_takeOver_18 lk_X12_312 lm_X12_takeHalf ls_X12_takeHalf rfl rfl (Nat.le_of_ble_eq_true rfl) (Nat.le_refl _) (by decide) ?_
  refine c_X12_takeHalf_89 (fun t2 A2 B2 C2 => ?_)
  refine b_aload_n dX12_takeOver_21 rfl rfl ?_
  refine b_getR (b := 90) lf_X12_49 rfl rfl dX12_takeOver_22 ?_
  refine b_callS (As := [_]) (st := []) dX12_takeOver_25 lk_X12_312 lm_X12_takeHalf ls_X12_takeHalf rfl rfl (Nat.le_of_ble_eq_true rfl) (Nat.le_refl _) (by decide) ?_
  refine c_X12_takeHalf_90 (fun t3 A3 B3 C3 => ?_)
  refine b_aload_n dX12_takeOver_28 rfl rfl ?_
  refine b_getR (b := 91) lf_X12_52 rfl rfl dX12_takeOver_29 ?_
  refine b_callS (As := [_]) (st := []) dX12_takeOver_32 lk_X12_312 lm_X12_takeHalf ls_X12_takeHalf rfl rfl (Nat.le_of_ble_eq_true rfl) (Nat.le_refl _) (by decide) ?_
  refine c_X12_takeHalf_91 (fun t4 A4 B4 C4 => ?_)
  refine b_aload_n dX12_takeOver_35 rfl rfl ?_
  refine b_getR (b := 92) lf_X12_55 rfl rfl dX12_takeOver_36 ?_
  refine b_callS (As := [_]) (st := []) dX12_takeOver_39 lk_X12_312 lm_X12_takeHalf ls_X12_takeHalf rfl rfl (Nat.le_of_ble_eq_true rfl) (Nat.le_refl _) (by decide) ?_
  refine c_X12_takeHalf_92 (fun t5 A5 B5 C5 => ?_)
  refine b_aload_n dX12_takeOver_42 rfl rfl ?_
  refine b_getR (b := 93) lf_X12_58 rfl rfl dX12_takeOver_43 ?_
  refine b_callS (As := [_]) (st := []) dX12_takeOver_46 lk_X12_312 lm_X12_takeHalf ls_X12_takeHalf rfl rfl (Nat.le_of_ble_eq_true rfl) (Nat.le_refl _) (by decide) ?_
  refine c_X12_takeHalf_93 (fun t6 A6 B6 C6 => ?_)
  refine b_aload_n dX12_takeOver_49 rfl rfl ?_
  refine b_getR (b := 94) lf_X12_61 rfl rfl dX12_takeOver_50 ?_
  refine b_callS (As := [_]) (st := []) dX12_takeOver_53 lk_X12_312 lm_X12_takeHalf ls_X12_takeHalf rfl rfl (Nat.le_of_ble_eq_true rfl) (Nat.le_refl _) (by decide) ?_
  refine c_X12_takeHalf_94 (fun t7 A7 B7 C7 => ?_)
  refine b_aload_n dX12_takeOver_56 rfl rfl ?_
  refine b_getR (b := 95) lf_X12_64 rfl rfl dX12_takeOver_57 ?_
  refine b_callS (As := [_]) (st := []) dX12_takeOver_60 lk_X12_312 lm_X12_takeHalf ls_X12_takeHalf rfl rfl (Nat.le_of_ble_eq_true rfl) (Nat.le_refl _) (by decide) ?_
  refine c_X12_takeHalf_95 (fun t8 A8 B8 C8 => ?_)
  have eF : ∀ y, ¬ (87 ≤ y ∧ y ≤ 95) → t8 y = g y := fun y q => by rw [A8 y (by omega), A7 y (by omega), A6 y (by omega), A5 y (by omega), A4 y (by omega), A3 y (by omega), A2 y (by omega), A1 y (by omega), A0 y (by omega)]
  have eH87 : ∀ j, j < 5 → t8 87 j = g 87 (5 + j) := fun j hj => by rw [A8 87 (by decide), A7 87 (by decide), A6 87 (by decide), A5 87 (by decide), A4 87 (by decide), A3 87 (by decide), A2 87 (by decide), A1 87 (by decide), C0 j hj]
  have eH88 : ∀ j, j < 8 → t8 88 j = g 88 (8 + j) := fun j hj => by rw [A8 88 (by decide), A7 88 (by decide), A6 88 (by decide), A5 88 (by decide), A4 88 (by decide), A3 88 (by decide), A2 88 (by decide), C1 j hj, A0 88 (by decide)]
  have eH89 : ∀ j, j < 8 → t8 89 j = g 89 (8 + j) := fun j hj => by rw [A8 89 (by decide), A7 89 (by decide), A6 89 (by decide), A5 89 (by decide), A4 89 (by decide), A3 89 (by decide), C2 j hj, A1 89 (by decide), A0 89 (by decide)]
  have eH90 : ∀ j, j < 8 → t8 90 j = g 90 (8 + j) := fun j hj => by rw [A8 90 (by decide), A7 90 (by decide), A6 90 (by decide), A5 90 (by decide), A4 90 (by decide), C3 j hj, A2 90 (by decide), A1 90 (by decide), A0 90 (by decide)]
  have eH91 : ∀ j, j < 8 → t8 91 j = g 91 (8 + j) := fun j hj => by rw [A8 91 (by decide), A7 91 (by decide), A6 91 (by decide), A5 91 (by decide), C4 j hj, A3 91 (by decide), A2 91 (by decide), A1 91 (by decide), A0 91 (by decide)]
  have eH92 : ∀ j, j < 6 → t8 92 j = g 92 (6 + j) := fun j hj => by rw [A8 92 (by decide), A7 92 (by decide), A6 92 (by decide), C5 j hj, A4 92 (by decide), A3 92 (by decide), A2 92 (by decide), A1 92 (by decide), A0 92 (by decide)]
  have eH93 : ∀ j, j < 6 → t8 93 j = g 93 (6 + j) := fun j hj => by rw [A8 93 (by decide), A7 93 (by decide), C6 j hj, A5 93 (by decide), A4 93 (by decide), A3 93 (by decide), A2 93 (by decide), A1 93 (by decide), A0 93 (by decide)]
  have eH94 : ∀ j, j < 24 → t8 94 j = g 94 (24 + j) := fun j hj => by rw [A8 94 (by decide), C7 j hj, A6 94 (by decide), A5 94 (by decide), A4 94 (by decide), A3 94 (by decide), A2 94 (by decide), A1 94 (by decide), A0 94 (by decide)]
  have eH95 : ∀ j, j < 600 → t8 95 j = g 95 (600 + j) := fun j hj => by rw [C8 j hj, A7 95 (by decide), A6 95 (by decide), A5 95 (by decide), A4 95 (by decide), A3 95 (by decide), A2 95 (by decide), A1 95 (by decide), A0 95 (by decide)]
  have eH : ∀ y, 87 ≤ y → y ≤ 95 → ∀ j, j < hfN y → t8 y j = g y (hfN y + j) := by
    intro y a b
    have hy : y = 87 ∨ y = 88 ∨ y = 89 ∨ y = 90 ∨ y = 91 ∨ y = 92 ∨ y = 93 ∨ y = 94 ∨ y = 95 := by omega
    rcases hy with rfl | rfl | rfl | rfl | rfl | rfl | rfl | rfl | rfl
    · exact eH87
    · exact eH88
    · exact eH89
    · exact eH90
    · exact eH91
    · exact eH92
    · exact eH93
    · exact eH94
    · exact eH95
  refine b_aload_n dX12_takeOver_63 rfl rfl ?_
  refine b_iconst (v := 0) dX12_takeOver_64 (by decide +kernel) ?_
  refine b_putI lf_X12_316 lp_12_30 rfl dX12_takeOver_65 ?_
  refine b_aload_n dX12_takeOver_68 rfl rfl ?_
  refine b_aload_n dX12_takeOver_69 rfl rfl ?_
  refine b_getR (b := 87) lf_X12_40 rfl rfl dX12_takeOver_70 ?_
  refine b_iconst (v := 3) dX12_takeOver_73 (by decide +kernel) ?_
  refine b_ildN (j := 3) dX12_takeOver_74 (rfl) (by show _ < 10; omega) ?_
  refine b_topE (y := (g 87 8)) (by rw [up2_a _ _ _ _ (by decide)]; exact eH87 3 (by decide)) ?_
  refine b_putI lf_X12_318 lp_12_31 rfl dX12_takeOver_75 ?_
  refine b_aload_n dX12_takeOver_78 rfl rfl ?_
  refine b_iconst (v := 0) dX12_takeOver_79 (by decide +kernel) ?_
  refine b_putI lf_X12_320 lp_12_32 rfl dX12_takeOver_80 ?_
  refine b_aload_n dX12_takeOver_83 rfl rfl ?_
  refine b_iconst (v := 0) dX12_takeOver_84 (by decide +kernel) ?_
  refine b_putI lf_X12_323 lp_12_33 rfl dX12_takeOver_85 ?_
  refine b_aload_n dX12_takeOver_88 rfl rfl ?_
  refine b_iconst (v := 0) dX12_takeOver_89 (by decide +kernel) ?_
  refine b_putI lf_X12_326 lp_12_34 rfl dX12_takeOver_90 ?_
  refine b_aload_n dX12_takeOver_93 rfl rfl ?_
  refine b_iconst (v := 0) dX12_takeOver_94 (by decide +kernel) ?_
  refine b_putI lf_X12_329 lp_12_35 rfl dX12_takeOver_95 ?_
  refine b_aload_n dX12_takeOver_98 rfl rfl ?_
  refine b_aload_n dX12_takeOver_99 rfl rfl ?_
  refine b_getR (b := 87) lf_X12_40 rfl rfl dX12_takeOver_100 ?_
  refine b_iconst (v := 1) dX12_takeOver_103 (by decide +kernel) ?_
  refine b_ildN (j := 1) dX12_takeOver_104 (rfl) (by show _ < 10; omega) ?_
  refine b_topE (y := (g 87 6)) (by rw [up2_a _ _ _ _ (by decide), up2_a _ _ _ _ (by decide), up2_a _ _ _ _ (by decide), up2_a _ _ _ _ (by decide), up2_a _ _ _ _ (by decide), up2_a _ _ _ _ (by decide)]; exact eH87 1 (by decide)) ?_
  refine b_putI lf_X12_332 lp_12_36 rfl dX12_takeOver_105 ?_
  have y1 : ∀ y, y ≠ 84 → up2 (up2 (up2 (up2 (up2 (up2 (up2 t8 84 30 0) 84 31 (g 87 8)) 84 32 0) 84 33 0) 84 34 0) 84 35 0) 84 36 (g 87 6) y = t8 y := fun y q => by rw [up2_f _ _ _ _ q, up2_f _ _ _ _ q, up2_f _ _ _ _ q, up2_f _ _ _ _ q, up2_f _ _ _ _ q, up2_f _ _ _ _ q, up2_f _ _ _ _ q]
  have y2 : ∀ j, (j < 30 ∨ 37 ≤ j) → up2 (up2 (up2 (up2 (up2 (up2 (up2 t8 84 30 0) 84 31 (g 87 8)) 84 32 0) 84 33 0) 84 34 0) 84 35 0) 84 36 (g 87 6) 84 j = g 84 j := fun j q => by rw [up2_k _ _ _ _ (by omega), up2_k _ _ _ _ (by omega), up2_k _ _ _ _ (by omega), up2_k _ _ _ _ (by omega), up2_k _ _ _ _ (by omega), up2_k _ _ _ _ (by omega), up2_k _ _ _ _ (by omega), eF 84 (by decide)]
  have y3 : ∀ j, (j = 30 ∨ j = 32 ∨ j = 33 ∨ j = 34 ∨ j = 35) → up2 (up2 (up2 (up2 (up2 (up2 (up2 t8 84 30 0) 84 31 (g 87 8)) 84 32 0) 84 33 0) 84 34 0) 84 35 0) 84 36 (g 87 6) 84 j = 0 := fun j q => by rcases q with rfl | rfl | rfl | rfl | rfl <;> simp [up2]
  have y4 : up2 (up2 (up2 (up2 (up2 (up2 (up2 t8 84 30 0) 84 31 (g 87 8)) 84 32 0) 84 33 0) 84 34 0) 84 35 0) 84 36 (g 87 6) 84 31 = g 87 8 := by simp [up2]
  have y5 : up2 (up2 (up2 (up2 (up2 (up2 (up2 t8 84 30 0) 84 31 (g 87 8)) 84 32 0) 84 33 0) 84 34 0) 84 35 0) 84 36 (g 87 6) 84 36 = g 87 6 := up2_s _ _ _ _
  generalize up2 (up2 (up2 (up2 (up2 (up2 (up2 t8 84 30 0) 84 31 (g 87 8)) 84 32 0) 84 33 0) 84 34 0) 84 35 0) 84 36 (g 87 6) = h1 at y1 y2 y3 y4 y5 ⊢
  have h10 : h1 87 0 = nI np := by rw [y1 87 (by decide), eH87 0 (by decide)]; exact hn
  refine b_iconst (v := 0) dX12_takeOver_108 (by decide +kernel) ?_
  refine b_istore_n (lv' := [(0, _), (1, _)]) dX12_takeOver_109 rfl (by decide) rfl rfl ?_
  have K241 : ∀ (h h2 h3 : G2) (i : Nat), J2 h1 np h2 → J3 h2 h3 → (∀ y, y ≠ 97 → h y = h3 y) → (∀ k, h 97 k = ordR (fun p => cntN (fun j => decide (h3 90 j < h3 90 p)) np) (h3 97) np k) → B E md_X12_takeOver (d + 1) Q X 241 [(0, .ref 84), (1, .int (nI i))] [] h 0 := by
    intro h h2 h3 i j1 j2 c1 c2
    refine b_aload_n dX12_takeOver_241 rfl rfl ?_
    refine b_iconst (v := 0) dX12_takeOver_242 (by decide +kernel) ?_
    refine b_putI lf_X12_338 lp_12_37 rfl dX12_takeOver_243 ?_
    refine b_aload_n dX12_takeOver_246 rfl rfl ?_
    refine b_iconst (v := 0) dX12_takeOver_247 (by decide +kernel) ?_
    refine b_putI lf_X12_341 lp_12_38 rfl dX12_takeOver_248 ?_
    refine b_aload_n dX12_takeOver_251 rfl rfl ?_
    refine b_iconst (v := 0) dX12_takeOver_252 (by decide +kernel) ?_
    refine b_putZ (Or.inl rfl) lf_X12_344 lp_12_58 rfl dX12_takeOver_253 ?_
    refine b_vret rfl (by decide) dX12_takeOver_256 ?_
    have z1 : ∀ y, y ≠ 84 → up2 (up2 (up2 h 84 37 0) 84 38 0) 84 58 0 y = h y := fun y q => by rw [up2_f _ _ _ _ q, up2_f _ _ _ _ q, up2_f _ _ _ _ q]
    have z2 : ∀ j, j ≠ 37 → j ≠ 38 → j ≠ 58 → up2 (up2 (up2 h 84 37 0) 84 38 0) 84 58 0 84 j = h1 84 j := fun j a b c => by rw [up2_k _ _ _ _ c, up2_k _ _ _ _ b, up2_k _ _ _ _ a, c1 84 (by decide), j2.1 84 (by decide) (by decide), j1.1 84 (by decide) (by decide)]
    refine hq _ (fun y a b c e => ?_) (fun y a b j hj => ?_) (fun j hj => ?_) (fun j hj => ?_) ?_ ?_ (fun p hp => ?_) (fun k hk => ?_) ⟨h3 97, fun k => ?_⟩
    · rw [z1 y a, c1 y c, j2.1 y (by omega) (by omega), j1.1 y (by omega) (by omega), y1 y a]; exact eF y b
    · rw [z1 y (by omega), c1 y (by omega), j2.1 y (by omega) (by omega), j1.1 y (by omega) (by omega), y1 y (by omega)]; exact eH y a b j hj
    · rw [z2 j (by omega) (by omega) (by omega)]; exact y2 j (by omega)
    · rcases hj with rfl | rfl | rfl | rfl | rfl | rfl | rfl | rfl
      · rw [z2 _ (by decide) (by decide) (by decide)]; exact y3 _ (by decide)
      · rw [z2 _ (by decide) (by decide) (by decide)]; exact y3 _ (by decide)
      · rw [z2 _ (by decide) (by decide) (by decide)]; exact y3 _ (by decide)
      · rw [z2 _ (by decide) (by decide) (by decide)]; exact y3 _ (by decide)
      · rw [z2 _ (by decide) (by decide) (by decide)]; exact y3 _ (by decide)
      · rw [up2_k _ _ _ _ (by decide), up2_k _ _ _ _ (by decide)]; exact up2_s _ _ _ _
      · rw [up2_k _ _ _ _ (by decide)]; exact up2_s _ _ _ _
      · exact up2_s _ _ _ _
    · rw [z2 _ (by decide) (by decide) (by decide)]; exact y4
    · rw [z2 _ (by decide) (by decide) (by decide)]; exact y5
    · rw [z1 99 (by decide), z1 100 (by decide), c1 99 (by decide), c1 100 (by decide), j2.1 99 (by decide) (by decide), j2.1 100 (by decide) (by decide), (j1.2 p hp).1, (j1.2 p hp).2, y1 89 (by decide), y1 91 (by decide)]
      exact ⟨eH89 p (by omega), eH91 p (by omega)⟩
    · rw [z1 101 (by decide), z1 102 (by decide), c1 101 (by decide), c1 102 (by decide), (j2.2 k hk).1, (j2.2 k hk).2, j1.1 92 (by decide) (by decide), j1.1 93 (by decide) (by decide), y1 92 (by decide), y1 93 (by decide)]
      exact ⟨eH92 k hk, eH93 k hk⟩
    · rw [z1 97 (by decide), z1 90 (by decide), c1 90 (by decide)]; exact c2 k
  have K212 : ∀ (h2 h3 : G2) (i : Nat), J2 h1 np h2 → (∀ y, y ≠ 101 → y ≠ 102 → h3 y = h2 y) → (∀ k, k < 6 → h3 101 k = h2 92 k ∧ h3 102 k = h2 93 k) → B E md_X12_takeOver (d + 1) Q X 212 [(0, .ref 84), (1, .int (nI i))] [] h3 0 := by
    intro h2 h3 i j1 d1 d2
    have i2 : J3 h2 h3 := ⟨d1, d2⟩
    have h30 : h3 87 0 = nI np := by rw [d1 87 (by decide) (by decide), j1.1 87 (by decide) (by decide)]; exact h10
    have L3 : ∀ i, i ≤ np → ∀ h : G2, (∀ y, y ≠ 97 → h y = h3 y) → (∀ k, h 97 k = ordR (fun p => cntN (fun j => decide (h3 90 j < h3 90 p)) np) (h3 97) i k) → B E md_X12_takeOver (d + 1) Q X 214 [(0, .ref 84), (1, .int (nI i))] [] h 0 := by
      refine lp_up (fun i hi ih h c1 c2 => ?_)
      refine b_iload_n dX12_takeOver_214 rfl rfl ?_
      refine b_aload_n dX12_takeOver_215 rfl rfl ?_
      refine b_getR (b := 87) lf_X12_40 rfl rfl dX12_takeOver_216 ?_
      refine b_iconst (v := 0) dX12_takeOver_219 (by decide +kernel) ?_
      refine b_ildN (j := 0) dX12_takeOver_220 (rfl) (by show _ < 10; omega) ?_
      refine b_topE (((congrFun (c1 87 (by decide)) 0).trans h30)) ?_
      refine b_icmp_ge (tgt := 241) dX12_takeOver_221 (by decide) (fun h221 => ?_) (fun h221 => ?_)
      · have e221 : np ≤ i := nn_le (a := np) (b := i) (by omega) (by omega) h221
        have z : i = np := by omega
        subst z
        exact K241 h h2 h3 _ j1 i2 c1 c2
      · have e221 : i < np := nn_nle (a := np) (b := i) (by omega) (by omega) h221
        refine b_aload_n dX12_takeOver_224 rfl rfl ?_
        refine b_getR (b := 97) lf_X12_70 rfl rfl dX12_takeOver_225 ?_
        refine b_aload_n dX12_takeOver_228 rfl rfl ?_
        refine b_iload_n dX12_takeOver_229 rfl rfl ?_
        refine b_callV (As := [_]) (st := [_]) dX12_takeOver_230 lk_X12_335 lm_X12_placeOf lv_X12_placeOf rfl (by decide) rfl rfl rfl (Nat.le_of_ble_eq_true rfl) (Nat.le_refl _) (by decide) ?_
        refine c_X12_placeOf (n := np) ((congrFun (c1 87 (by decide)) 0).trans h30) h8 (by omega) ?_
        rw [c1 90 (by decide)]
        have hr : (cntN (fun j => decide (h3 90 j < h3 90 i)) np) < np := cntN_lt (p := i) e221 (decide_eq_false Int32.lt_irrefl)
        refine b_iload_n dX12_takeOver_233 rfl rfl ?_
        refine b_istN (j := (cntN (fun j => decide (h3 90 j < h3 90 i)) np)) dX12_takeOver_234 (rfl) (by show _ < 8; omega) ?_
        refine b_incN (j := i) (lv' := [(0, _), (1, _)]) dX12_takeOver_235 rfl rfl (by decide) rfl rfl ?_
        refine b_goto (tgt := 214) dX12_takeOver_238 (by decide) ?_
        refine ih (i + 1) (by omega) (by omega) _ (fun y q => (up2_f _ _ _ _ q).trans (c1 y q)) (fun k => ?_)
        rw [up2_if]
        show _ = (if k = (cntN (fun j => decide (h3 90 j < h3 90 i)) np) then nI i else ordR (fun p => cntN (fun j => decide (h3 90 j < h3 90 p)) np) (h3 97) i k)
        split
        · rfl
        · exact c2 k
    refine b_iconst (v := 0) dX12_takeOver_212 (by decide +kernel) ?_
    refine b_istore_n (lv' := [(0, _), (1, _)]) dX12_takeOver_213 rfl (by decide) rfl rfl ?_
    exact L3 0 (Nat.zero_le _) h3 (fun _ _ => rfl) (fun _ => rfl)
  have K174 : ∀ (h2 : G2) (i : Nat), (∀ y, y ≠ 99 → y ≠ 100 → h2 y = h1 y) → (∀ p, p < np → h2 99 p = h1 89 p ∧ h2 100 p = h1 91 p) → B E md_X12_takeOver (d + 1) Q X 174 [(0, .ref 84), (1, .int (nI i))] [] h2 0 := by
    intro h2 i d1 d2
    have j1 : J2 h1 np h2 := ⟨d1, d2⟩
    have L2 : ∀ i, i ≤ 6 → ∀ h : G2, (∀ y, y ≠ 101 → y ≠ 102 → h y = h2 y) → (∀ k, k < i → h 101 k = h2 92 k ∧ h 102 k = h2 93 k) → B E md_X12_takeOver (d + 1) Q X 176 [(0, .ref 84), (1, .int (nI i))] [] h 0 := by
      refine lp_up (fun i hi ih h c1 c2 => ?_)
      refine b_iload_n dX12_takeOver_176 rfl rfl ?_
      refine b_bipush (v := 6) dX12_takeOver_177 (by decide +kernel) ?_
      refine b_icmp_ge (tgt := 212) dX12_takeOver_179 (by decide) (fun h179 => ?_) (fun h179 => ?_)
      · have e179 : 6 ≤ i := nn_le (a := 6) (b := i) (by omega) (by omega) h179
        have z : i = 6 := by omega
        subst z
        exact K212 h2 h _ j1 c1 c2
      · have e179 : i < 6 := nn_nle (a := 6) (b := i) (by omega) (by omega) h179
        refine b_aload_n dX12_takeOver_182 rfl rfl ?_
        refine b_getR (b := 101) lf_X12_84 rfl rfl dX12_takeOver_183 ?_
        refine b_iload_n dX12_takeOver_186 rfl rfl ?_
        refine b_aload_n dX12_takeOver_187 rfl rfl ?_
        refine b_getR (b := 92) lf_X12_55 rfl rfl dX12_takeOver_188 ?_
        refine b_iload_n dX12_takeOver_191 rfl rfl ?_
        refine b_ildN (j := i) dX12_takeOver_192 (rfl) (by show _ < 12; omega) ?_
        refine b_topE (y := (h2 92 i)) (congrFun (c1 92 (by decide) (by decide)) i) ?_
        refine b_istN (j := i) dX12_takeOver_193 (rfl) (by show _ < 6; omega) ?_
        refine b_aload_n dX12_takeOver_194 rfl rfl ?_
        refine b_getR (b := 102) lf_X12_87 rfl rfl dX12_takeOver_195 ?_
        refine b_iload_n dX12_takeOver_198 rfl rfl ?_
        refine b_aload_n dX12_takeOver_199 rfl rfl ?_
        refine b_getR (b := 93) lf_X12_58 rfl rfl dX12_takeOver_200 ?_
        refine b_iload_n dX12_takeOver_203 rfl rfl ?_
        refine b_ildN (j := i) dX12_takeOver_204 (rfl) (by show _ < 12; omega) ?_
        refine b_topE (y := (h2 93 i)) ((up2_a _ _ _ _ (by decide) _).trans (congrFun (c1 93 (by decide) (by decide)) i)) ?_
        refine b_istN (j := i) dX12_takeOver_205 (rfl) (by show _ < 6; omega) ?_
        refine b_incN (j := i) (lv' := [(0, _), (1, _)]) dX12_takeOver_206 rfl rfl (by decide) rfl rfl ?_
        refine b_goto (tgt := 176) dX12_takeOver_209 (by decide) ?_
        refine ih (i + 1) (by omega) (by omega) _ (fun y q r => by rw [up2_f _ _ _ _ r, up2_f _ _ _ _ q]; exact c1 y q r) (fun k hk => ?_)
        by_cases q : k = i
        · rw [q]; exact ⟨(up2_a _ _ _ _ (by decide) _).trans (up2_s _ _ _ _), up2_s _ _ _ _⟩
        · rw [up2_a _ _ _ _ (by decide), up2_k _ _ _ _ q, up2_k _ _ _ _ q, up2_a _ _ _ _ (by decide)]; exact c2 k (by omega)
    refine b_iconst (v := 0) dX12_takeOver_174 (by decide +kernel) ?_
    refine b_istore_n (lv' := [(0, _), (1, _)]) dX12_takeOver_175 rfl (by decide) rfl rfl ?_
    exact L2 0 (by decide) h2 (fun _ _ _ => rfl) (fun j hj => absurd hj (Nat.not_lt_zero _))
  have L1 : ∀ i, i ≤ 8 → ∀ h : G2, (∀ y, y ≠ 99 → y ≠ 100 → h y = h1 y) → (∀ p, p < i → p < np → h 99 p = h1 89 p ∧ h 100 p = h1 91 p) → B E md_X12_takeOver (d + 1) Q X 110 [(0, .ref 84), (1, .int (nI i))] [] h 0 := by
    refine lp_up (fun i hi ih h c1 c2 => ?_)
    refine b_iload_n dX12_takeOver_110 rfl rfl ?_
    refine b_bipush (v := 8) dX12_takeOver_111 (by decide +kernel) ?_
    refine b_icmp_ge (tgt := 174) dX12_takeOver_113 (by decide) (fun h113 => ?_) (fun h113 => ?_)
    · have e113 : 8 ≤ i := nn_le (a := 8) (b := i) (by omega) (by omega) h113
      have z : i = 8 := by omega
      subst z
      exact K174 h 8 c1 (fun p hp => c2 p (by omega) hp)
    · have e113 : i < 8 := nn_nle (a := 8) (b := i) (by omega) (by omega) h113
      refine b_aload_n dX12_takeOver_116 rfl rfl ?_
      refine b_getR (b := 99) lf_X12_80 rfl rfl dX12_takeOver_117 ?_
      refine b_iload_n dX12_takeOver_120 rfl rfl ?_
      refine b_iload_n dX12_takeOver_121 rfl rfl ?_
      refine b_aload_n dX12_takeOver_122 rfl rfl ?_
      refine b_getR (b := 87) lf_X12_40 rfl rfl dX12_takeOver_123 ?_
      refine b_iconst (v := 0) dX12_takeOver_126 (by decide +kernel) ?_
      refine b_ildN (j := 0) dX12_takeOver_127 (rfl) (by show _ < 10; omega) ?_
      refine b_topE (((congrFun (c1 87 (by decide) (by decide)) 0).trans h10)) ?_
      refine b_icmp_ge (tgt := 140) dX12_takeOver_128 (by decide) (fun h128 => ?_) (fun h128 => ?_)
      · have e128 : np ≤ i := nn_le (a := np) (b := i) (by omega) (by omega) h128
        refine b_iconst (v := 0) dX12_takeOver_140 (by decide +kernel) ?_
        refine b_istN (j := i) dX12_takeOver_141 (rfl) (by show _ < 8; omega) ?_
        refine b_aload_n dX12_takeOver_142 rfl rfl ?_
        refine b_getR (b := 100) lf_X12_82 rfl rfl dX12_takeOver_143 ?_
        refine b_iload_n dX12_takeOver_146 rfl rfl ?_
        refine b_iload_n dX12_takeOver_147 rfl rfl ?_
        refine b_aload_n dX12_takeOver_148 rfl rfl ?_
        refine b_getR (b := 87) lf_X12_40 rfl rfl dX12_takeOver_149 ?_
        refine b_iconst (v := 0) dX12_takeOver_152 (by decide +kernel) ?_
        refine b_ildN (j := 0) dX12_takeOver_153 (rfl) (by show _ < 10; omega) ?_
        refine b_topE (y := nI np) (by rw [up2_a _ _ _ _ (by decide)]; exact ((congrFun (c1 87 (by decide) (by decide)) 0).trans h10)) ?_
        refine b_icmp_ge (tgt := 166) dX12_takeOver_154 (by decide) (fun h154 => ?_) (fun h154 => ?_)
        · have e154 : np ≤ i := nn_le (a := np) (b := i) (by omega) (by omega) h154
          refine b_iconst (v := 0) dX12_takeOver_166 (by decide +kernel) ?_
          refine b_istN (j := i) dX12_takeOver_167 (rfl) (by show _ < 8; omega) ?_
          refine b_incN (j := i) (lv' := [(0, _), (1, _)]) dX12_takeOver_168 rfl rfl (by decide) rfl rfl ?_
          refine b_goto (tgt := 110) dX12_takeOver_171 (by decide) ?_
          refine ih (i + 1) (by omega) (by omega) _ (fun y q r => by rw [up2_f _ _ _ _ r, up2_f _ _ _ _ q]; exact c1 y q r) (fun k hk hn9 => ?_)
          by_cases q : k = i
          · subst q
            exact absurd hn9 (by omega)
          · rw [up2_a _ _ _ _ (by decide), up2_k _ _ _ _ q, up2_k _ _ _ _ q, up2_a _ _ _ _ (by decide)]; exact c2 k (by omega) hn9
        · have e154 : i < np := nn_nle (a := np) (b := i) (by omega) (by omega) h154
          exact absurd e154 (by omega)
      · have e128 : i < np := nn_nle (a := np) (b := i) (by omega) (by omega) h128
        refine b_aload_n dX12_takeOver_131 rfl rfl ?_
        refine b_getR (b := 89) lf_X12_46 rfl rfl dX12_takeOver_132 ?_
        refine b_iload_n dX12_takeOver_135 rfl rfl ?_
        refine b_ildN (j := i) dX12_takeOver_136 (rfl) (by show _ < 16; omega) ?_
        refine b_topE (y := (h1 89 i)) (congrFun (c1 89 (by decide) (by decide)) i) ?_
        refine b_goto (tgt := 141) dX12_takeOver_137 (by decide) ?_
        refine b_istN (j := i) dX12_takeOver_141 (rfl) (by show _ < 8; omega) ?_
        refine b_aload_n dX12_takeOver_142 rfl rfl ?_
        refine b_getR (b := 100) lf_X12_82 rfl rfl dX12_takeOver_143 ?_
        refine b_iload_n dX12_takeOver_146 rfl rfl ?_
        refine b_iload_n dX12_takeOver_147 rfl rfl ?_
        refine b_aload_n dX12_takeOver_148 rfl rfl ?_
        refine b_getR (b := 87) lf_X12_40 rfl rfl dX12_takeOver_149 ?_
        refine b_iconst (v := 0) dX12_takeOver_152 (by decide +kernel) ?_
        refine b_ildN (j := 0) dX12_takeOver_153 (rfl) (by show _ < 10; omega) ?_
        refine b_topE (y := nI np) (by rw [up2_a _ _ _ _ (by decide)]; exact ((congrFun (c1 87 (by decide) (by decide)) 0).trans h10)) ?_
        refine b_icmp_ge (tgt := 166) dX12_takeOver_154 (by decide) (fun h154 => ?_) (fun h154 => ?_)
        · have e154 : np ≤ i := nn_le (a := np) (b := i) (by omega) (by omega) h154
          exact absurd e154 (by omega)
        · have e154 : i < np := nn_nle (a := np) (b := i) (by omega) (by omega) h154
          refine b_aload_n dX12_takeOver_157 rfl rfl ?_
          refine b_getR (b := 91) lf_X12_52 rfl rfl dX12_takeOver_158 ?_
          refine b_iload_n dX12_takeOver_161 rfl rfl ?_
          refine b_ildN (j := i) dX12_takeOver_162 (rfl) (by show _ < 16; omega) ?_
          refine b_topE (y := (h1 91 i)) ((up2_a _ _ _ _ (by decide) _).trans (congrFun (c1 91 (by decide) (by decide)) i)) ?_
          refine b_goto (tgt := 167) dX12_takeOver_163 (by decide) ?_
          refine b_istN (j := i) dX12_takeOver_167 (rfl) (by show _ < 8; omega) ?_
          refine b_incN (j := i) (lv' := [(0, _), (1, _)]) dX12_takeOver_168 rfl rfl (by decide) rfl rfl ?_
          refine b_goto (tgt := 110) dX12_takeOver_171 (by decide) ?_
          refine ih (i + 1) (by omega) (by omega) _ (fun y q r => by rw [up2_f _ _ _ _ r, up2_f _ _ _ _ q]; exact c1 y q r) (fun k hk hn9 => ?_)
          by_cases q : k = i
          · subst q
            exact ⟨(up2_a _ _ _ _ (by decide) _).trans (up2_s _ _ _ _), up2_s _ _ _ _⟩
          · rw [up2_a _ _ _ _ (by decide), up2_k _ _ _ _ q, up2_k _ _ _ _ q, up2_a _ _ _ _ (by decide)]; exact c2 k (by omega) hn9
  exact L1 0 (by decide) h1 (fun _ _ _ => rfl) (fun p hp => absurd hp (Nat.not_lt_zero _))
