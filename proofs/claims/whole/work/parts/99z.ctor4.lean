def PX0 (E : En) : PT := fun q w => ∃ a1 : Nat, w = [(q, .inr (0, [.ref a1, .int 0])), (a1, .inl (E.2.2.1.1, 160, .inl (fun _ => 0)))]
theorem con_X0 {E : En} : Con E 0 yX0_init cX0_init 1 1 160 (PX0 E) := by
  refine Con.of (own := RX0) (by decide +kernel) rfl rfl (fun h => ?_)
  refine k_obj dX0_init_0 dX0_init_1 oi_0 oi_in oi_co (by decide) ?_
  refine k_ld dX0_init_4 ?_
  refine k_si (160) dX0_init_5 (by decide +kernel) ?_
  refine k_newI 160 dX0_init_8 (by decide +kernel) (by decide +kernel) (by decide) (by decide +kernel) (by decide +kernel) ac_int (fun q1 => ?_)
  refine k_put (k := 0) (ty := (.array .int)) lf_X0_11 rfl (by decide +kernel) rfl rfl (Nat.le_of_ble_eq_true rfl) dX0_init_10 ?_
  refine k_ld dX0_init_13 ?_
  refine k_ic (0) dX0_init_14 (by decide +kernel) ?_
  refine k_put (k := 1) (ty := .int) lf_X0_15 rfl (by decide +kernel) rfl rfl (Nat.le_of_ble_eq_true rfl) dX0_init_15 ?_
  exact k_ret dX0_init_18 (by decide +kernel) (by decide +kernel) ⟨q1, rfl⟩
def PX1 (E : En) : PT := fun q w => ∃ a1 a2 : Nat, w = [(q, .inr (1, [.ref a1, .ref a2, .int 0])), (a1, .inl (E.2.2.1.1, 6, .inl (fun _ => 0))), (a2, .inl (E.2.2.1.1, 6, .inl (fun _ => 0)))]
theorem con_X1 {E : En} : Con E 1 yX1_init cX1_init 1 2 12 (PX1 E) := by
  refine Con.of (own := RX1) (by decide +kernel) rfl rfl (fun h => ?_)
  refine k_obj dX1_init_0 dX1_init_1 oi_1 oi_in oi_co (by decide) ?_
  refine k_ld dX1_init_4 ?_
  refine k_bi (6) dX1_init_5 (by decide +kernel) ?_
  refine k_newI 6 dX1_init_7 (by decide +kernel) (by decide +kernel) (by decide) (by decide +kernel) (by decide +kernel) ac_int (fun q1 => ?_)
  refine k_put (k := 0) (ty := (.array .int)) lf_X1_9 rfl (by decide +kernel) rfl rfl (Nat.le_of_ble_eq_true rfl) dX1_init_9 ?_
  refine k_ld dX1_init_12 ?_
  refine k_bi (6) dX1_init_13 (by decide +kernel) ?_
  refine k_newI 6 dX1_init_15 (by decide +kernel) (by decide +kernel) (by decide) (by decide +kernel) (by decide +kernel) ac_int (fun q2 => ?_)
  refine k_put (k := 1) (ty := (.array .int)) lf_X1_15 rfl (by decide +kernel) rfl rfl (Nat.le_of_ble_eq_true rfl) dX1_init_17 ?_
  refine k_ld dX1_init_20 ?_
  refine k_ic (0) dX1_init_21 (by decide +kernel) ?_
  refine k_put (k := 2) (ty := .int) lf_X1_18 rfl (by decide +kernel) rfl rfl (Nat.le_of_ble_eq_true rfl) dX1_init_22 ?_
  exact k_ret dX1_init_25 (by decide +kernel) (by decide +kernel) ⟨q1, q2, rfl⟩
def PX3 (E : En) : PT := fun q w => ∃ a1 a2 : Nat, w = [(q, .inr (3, [.ref a1, .ref a2, .int 0])), (a1, .inl (E.2.2.1.1, 8, .inl (fun _ => 0))), (a2, .inl (E.2.2.1.1, 8, .inl (fun _ => 0)))]
theorem con_X3 {E : En} : Con E 3 yX3_init cX3_init 1 2 16 (PX3 E) := by
  refine Con.of (own := RX3) (by decide +kernel) rfl rfl (fun h => ?_)
  refine k_obj dX3_init_0 dX3_init_1 oi_3 oi_in oi_co (by decide) ?_
  refine k_ld dX3_init_4 ?_
  refine k_bi (8) dX3_init_5 (by decide +kernel) ?_
  refine k_newI 8 dX3_init_7 (by decide +kernel) (by decide +kernel) (by decide) (by decide +kernel) (by decide +kernel) ac_int (fun q1 => ?_)
  refine k_put (k := 0) (ty := (.array .int)) lf_X3_9 rfl (by decide +kernel) rfl rfl (Nat.le_of_ble_eq_true rfl) dX3_init_9 ?_
  refine k_ld dX3_init_12 ?_
  refine k_bi (8) dX3_init_13 (by decide +kernel) ?_
  refine k_newI 8 dX3_init_15 (by decide +kernel) (by decide +kernel) (by decide) (by decide +kernel) (by decide +kernel) ac_int (fun q2 => ?_)
  refine k_put (k := 1) (ty := (.array .int)) lf_X3_15 rfl (by decide +kernel) rfl rfl (Nat.le_of_ble_eq_true rfl) dX3_init_17 ?_
  refine k_ld dX3_init_20 ?_
  refine k_ic (0) dX3_init_21 (by decide +kernel) ?_
  refine k_put (k := 2) (ty := .int) lf_X3_18 rfl (by decide +kernel) rfl rfl (Nat.le_of_ble_eq_true rfl) dX3_init_22 ?_
  exact k_ret dX3_init_25 (by decide +kernel) (by decide +kernel) ⟨q1, q2, rfl⟩
def PX6 (E : En) : PT := fun q w => ∃ a1 a2 : Nat, w = [(q, .inr (6, [.ref a1, .ref a2])), (a1, .inl (E.2.2.1.1, 25, .inl (fun _ => 0))), (a2, .inl (E.2.2.1.1, 25, .inl (fun _ => 0)))]
theorem con_X6 {E : En} : Con E 6 yX6_init cX6_init 1 2 50 (PX6 E) := by
  refine Con.of (own := RX6) (by decide +kernel) rfl rfl (fun h => ?_)
  refine k_obj dX6_init_0 dX6_init_1 oi_6 oi_in oi_co (by decide) ?_
  refine k_ld dX6_init_4 ?_
  refine k_bi (25) dX6_init_5 (by decide +kernel) ?_
  refine k_newI 25 dX6_init_7 (by decide +kernel) (by decide +kernel) (by decide) (by decide +kernel) (by decide +kernel) ac_int (fun q1 => ?_)
  refine k_put (k := 0) (ty := (.array .int)) lf_X6_9 rfl (by decide +kernel) rfl rfl (Nat.le_of_ble_eq_true rfl) dX6_init_9 ?_
  refine k_ld dX6_init_12 ?_
  refine k_bi (25) dX6_init_13 (by decide +kernel) ?_
  refine k_newI 25 dX6_init_15 (by decide +kernel) (by decide +kernel) (by decide) (by decide +kernel) (by decide +kernel) ac_int (fun q2 => ?_)
  refine k_put (k := 1) (ty := (.array .int)) lf_X6_15 rfl (by decide +kernel) rfl rfl (Nat.le_of_ble_eq_true rfl) dX6_init_17 ?_
  exact k_ret dX6_init_20 (by decide +kernel) (by decide +kernel) ⟨q1, q2, rfl⟩
def PX2 (E : En) : PT := fun q w => ∃ a1 a2 a3 a4 : Nat, w = [(q, .inr (2, [.ref a1, .ref a2, .int 0, .int 0, .ref a3, .ref a4])), (a1, .inl (E.2.2.1.1, 9, .inl (fun _ => 0))), (a2, .inl (E.2.2.1.1, 9, .inl (fun _ => 0))), (a3, .inl (E.2.2.1.1, 81, .inl (fun _ => 0))), (a4, .inl (E.2.2.1.1, 81, .inl (fun _ => 0)))]
theorem con_X2 {E : En} : Con E 2 yX2_init cX2_init 1 4 180 (PX2 E) := by
  refine Con.of (own := RX2) (by decide +kernel) rfl rfl (fun h => ?_)
  refine k_obj dX2_init_0 dX2_init_1 oi_2 oi_in oi_co (by decide) ?_
  refine k_ld dX2_init_4 ?_
  refine k_bi (9) dX2_init_5 (by decide +kernel) ?_
  refine k_newI 9 dX2_init_7 (by decide +kernel) (by decide +kernel) (by decide) (by decide +kernel) (by decide +kernel) ac_int (fun q1 => ?_)
  refine k_put (k := 0) (ty := (.array .int)) lf_X2_11 rfl (by decide +kernel) rfl rfl (Nat.le_of_ble_eq_true rfl) dX2_init_9 ?_
  refine k_ld dX2_init_12 ?_
  refine k_bi (9) dX2_init_13 (by decide +kernel) ?_
  refine k_newI 9 dX2_init_15 (by decide +kernel) (by decide +kernel) (by decide) (by decide +kernel) (by decide +kernel) ac_int (fun q2 => ?_)
  refine k_put (k := 1) (ty := (.array .int)) lf_X2_15 rfl (by decide +kernel) rfl rfl (Nat.le_of_ble_eq_true rfl) dX2_init_17 ?_
  refine k_ld dX2_init_20 ?_
  refine k_ic (0) dX2_init_21 (by decide +kernel) ?_
  refine k_put (k := 2) (ty := .int) lf_X2_18 rfl (by decide +kernel) rfl rfl (Nat.le_of_ble_eq_true rfl) dX2_init_22 ?_
  refine k_ld dX2_init_25 ?_
  refine k_ic (0) dX2_init_26 (by decide +kernel) ?_
  refine k_put (k := 3) (ty := .int) lf_X2_22 rfl (by decide +kernel) rfl rfl (Nat.le_of_ble_eq_true rfl) dX2_init_27 ?_
  refine k_ld dX2_init_30 ?_
  refine k_bi (81) dX2_init_31 (by decide +kernel) ?_
  refine k_newI 81 dX2_init_33 (by decide +kernel) (by decide +kernel) (by decide) (by decide +kernel) (by decide +kernel) ac_int (fun q3 => ?_)
  refine k_put (k := 4) (ty := (.array .int)) lf_X2_25 rfl (by decide +kernel) rfl rfl (Nat.le_of_ble_eq_true rfl) dX2_init_35 ?_
  refine k_ld dX2_init_38 ?_
  refine k_bi (81) dX2_init_39 (by decide +kernel) ?_
  refine k_newI 81 dX2_init_41 (by decide +kernel) (by decide +kernel) (by decide) (by decide +kernel) (by decide +kernel) ac_int (fun q4 => ?_)
  refine k_put (k := 5) (ty := (.array .int)) lf_X2_28 rfl (by decide +kernel) rfl rfl (Nat.le_of_ble_eq_true rfl) dX2_init_43 ?_
  exact k_ret dX2_init_46 (by decide +kernel) (by decide +kernel) ⟨q1, q2, q3, q4, rfl⟩
def PX8 (E : En) : PT := fun q w => ∃ a1 a2 : Nat, w = [(q, .inr (8, [.ref a1, .int 0, .ref a2])), (a1, .inl (E.2.2.1.1, 600, .inl (fun _ => 0))), (a2, .inl (E.2.2.1.1, 64, .inl (fun _ => 0)))]
theorem con_X8 {E : En} : Con E 8 yX8_init cX8_init 1 2 664 (PX8 E) := by
  refine Con.of (own := RX8) (by decide +kernel) rfl rfl (fun h => ?_)
  refine k_obj dX8_init_0 dX8_init_1 oi_8 oi_in oi_co (by decide) ?_
  refine k_ld dX8_init_4 ?_
  refine k_si (600) dX8_init_5 (by decide +kernel) ?_
  refine k_newI 600 dX8_init_8 (by decide +kernel) (by decide +kernel) (by decide) (by decide +kernel) (by decide +kernel) ac_int (fun q1 => ?_)
  refine k_put (k := 0) (ty := (.array .int)) lf_X8_9 rfl (by decide +kernel) rfl rfl (Nat.le_of_ble_eq_true rfl) dX8_init_10 ?_
  refine k_ld dX8_init_13 ?_
  refine k_ic (0) dX8_init_14 (by decide +kernel) ?_
  refine k_put (k := 1) (ty := .int) lf_X8_15 rfl (by decide +kernel) rfl rfl (Nat.le_of_ble_eq_true rfl) dX8_init_15 ?_
  refine k_ld dX8_init_18 ?_
  refine k_bi (64) dX8_init_19 (by decide +kernel) ?_
  refine k_newI 64 dX8_init_21 (by decide +kernel) (by decide +kernel) (by decide) (by decide +kernel) (by decide +kernel) ac_int (fun q2 => ?_)
  refine k_put (k := 2) (ty := (.array .int)) lf_X8_19 rfl (by decide +kernel) rfl rfl (Nat.le_of_ble_eq_true rfl) dX8_init_23 ?_
  exact k_ret dX8_init_26 (by decide +kernel) (by decide +kernel) ⟨q1, q2, rfl⟩
def PX9 (E : En) : PT := fun q w => ∃ a1 : Nat, w = [(q, .inr (9, [.ref a1, .int 0, .int 0, .int 0, .int 0, .int 0, .int 0, .int 0])), (a1, .inl (E.2.2.1.2.1, 600, .inl (fun _ => 0)))]
theorem con_X9 {E : En} : Con E 9 yX9_init cX9_init 1 1 600 (PX9 E) := by
  refine Con.of (own := RX9) (by decide +kernel) rfl rfl (fun h => ?_)
  refine k_obj dX9_init_0 dX9_init_1 oi_9 oi_in oi_co (by decide) ?_
  refine k_ld dX9_init_4 ?_
  refine k_si (600) dX9_init_5 (by decide +kernel) ?_
  refine k_newB 600 dX9_init_8 (by decide +kernel) (by decide +kernel) (by decide) (by decide +kernel) (by decide +kernel) ac_byte (fun q1 => ?_)
  refine k_put (k := 0) (ty := (.array .byte)) lf_X9_9 rfl (by decide +kernel) rfl rfl (Nat.le_of_ble_eq_true rfl) dX9_init_10 ?_
  refine k_ld dX9_init_13 ?_
  refine k_ic (0) dX9_init_14 (by decide +kernel) ?_
  refine k_put (k := 1) (ty := .int) lf_X9_15 rfl (by decide +kernel) rfl rfl (Nat.le_of_ble_eq_true rfl) dX9_init_15 ?_
  refine k_ld dX9_init_18 ?_
  refine k_ic (0) dX9_init_19 (by decide +kernel) ?_
  refine k_put (k := 2) (ty := .int) lf_X9_19 rfl (by decide +kernel) rfl rfl (Nat.le_of_ble_eq_true rfl) dX9_init_20 ?_
  refine k_ld dX9_init_23 ?_
  refine k_ic (0) dX9_init_24 (by decide +kernel) ?_
  refine k_put (k := 3) (ty := .int) lf_X9_22 rfl (by decide +kernel) rfl rfl (Nat.le_of_ble_eq_true rfl) dX9_init_25 ?_
  refine k_ld dX9_init_28 ?_
  refine k_ic (0) dX9_init_29 (by decide +kernel) ?_
  refine k_put (k := 4) (ty := .int) lf_X9_25 rfl (by decide +kernel) rfl rfl (Nat.le_of_ble_eq_true rfl) dX9_init_30 ?_
  refine k_ld dX9_init_33 ?_
  refine k_ic (0) dX9_init_34 (by decide +kernel) ?_
  refine k_put (k := 5) (ty := .int) lf_X9_28 rfl (by decide +kernel) rfl rfl (Nat.le_of_ble_eq_true rfl) dX9_init_35 ?_
  refine k_ld dX9_init_38 ?_
  refine k_ic (0) dX9_init_39 (by decide +kernel) ?_
  refine k_put (k := 6) (ty := .int) lf_X9_31 rfl (by decide +kernel) rfl rfl (Nat.le_of_ble_eq_true rfl) dX9_init_40 ?_
  refine k_ld dX9_init_43 ?_
  refine k_ic (0) dX9_init_44 (by decide +kernel) ?_
  refine k_put (k := 7) (ty := .int) lf_X9_34 rfl (by decide +kernel) rfl rfl (Nat.le_of_ble_eq_true rfl) dX9_init_45 ?_
  exact k_ret dX9_init_48 (by decide +kernel) (by decide +kernel) ⟨q1, rfl⟩
def PX5 (E : En) : PT := fun q w => ∃ a1 a2 a3 a4 a5 a6 a7 a8 a9 : Nat, w = [(q, .inr (5, [.ref a1, .ref a2, .ref a3, .int 0, .int 0, .int 0, .int 0, .int 0, .int 0, .int 0, .int (-1), .ref a4, .ref a5, .ref a6, .ref a7])), (a1, .inl (E.2.2.1.1, 400, .inl (fun _ => 0))), (a2, .inl (E.2.2.1.1, 400, .inl (fun _ => 0))), (a3, .inl (E.2.2.1.1, 400, .inl (fun _ => 0))), (a4, .inl (E.2.2.1.1, 8, .inl (fun _ => 0))), (a5, .inl (E.2.2.1.1, 8, .inl (fun _ => 0))), (a6, .inl (E.2.2.1.1, 8, .inl (fun _ => 0))), (a7, .inr (1, [.ref a8, .ref a9, .int 0])), (a8, .inl (E.2.2.1.1, 6, .inl (fun _ => 0))), (a9, .inl (E.2.2.1.1, 6, .inl (fun _ => 0)))]
theorem con_X5 {E : En} : Con E 5 yX5_init cX5_init 2 9 1239 (PX5 E) := by
  refine Con.of (own := RX5) (by decide +kernel) rfl rfl (fun h => ?_)
  refine k_obj dX5_init_0 dX5_init_1 oi_5 oi_in oi_co (by decide) ?_
  refine k_ld dX5_init_4 ?_
  refine k_si (400) dX5_init_5 (by decide +kernel) ?_
  refine k_newI 400 dX5_init_8 (by decide +kernel) (by decide +kernel) (by decide) (by decide +kernel) (by decide +kernel) ac_int (fun q1 => ?_)
  refine k_put (k := 0) (ty := (.array .int)) lf_X5_9 rfl (by decide +kernel) rfl rfl (Nat.le_of_ble_eq_true rfl) dX5_init_10 ?_
  refine k_ld dX5_init_13 ?_
  refine k_si (400) dX5_init_14 (by decide +kernel) ?_
  refine k_newI 400 dX5_init_17 (by decide +kernel) (by decide +kernel) (by decide) (by decide +kernel) (by decide +kernel) ac_int (fun q2 => ?_)
  refine k_put (k := 1) (ty := (.array .int)) lf_X5_15 rfl (by decide +kernel) rfl rfl (Nat.le_of_ble_eq_true rfl) dX5_init_19 ?_
  refine k_ld dX5_init_22 ?_
  refine k_si (400) dX5_init_23 (by decide +kernel) ?_
  refine k_newI 400 dX5_init_26 (by decide +kernel) (by decide +kernel) (by decide) (by decide +kernel) (by decide +kernel) ac_int (fun q3 => ?_)
  refine k_put (k := 2) (ty := (.array .int)) lf_X5_18 rfl (by decide +kernel) rfl rfl (Nat.le_of_ble_eq_true rfl) dX5_init_28 ?_
  refine k_ld dX5_init_31 ?_
  refine k_ic (0) dX5_init_32 (by decide +kernel) ?_
  refine k_put (k := 3) (ty := .int) lf_X5_21 rfl (by decide +kernel) rfl rfl (Nat.le_of_ble_eq_true rfl) dX5_init_33 ?_
  refine k_ld dX5_init_36 ?_
  refine k_ic (0) dX5_init_37 (by decide +kernel) ?_
  refine k_put (k := 4) (ty := .int) lf_X5_25 rfl (by decide +kernel) rfl rfl (Nat.le_of_ble_eq_true rfl) dX5_init_38 ?_
  refine k_ld dX5_init_41 ?_
  refine k_ic (0) dX5_init_42 (by decide +kernel) ?_
  refine k_put (k := 5) (ty := .int) lf_X5_28 rfl (by decide +kernel) rfl rfl (Nat.le_of_ble_eq_true rfl) dX5_init_43 ?_
  refine k_ld dX5_init_46 ?_
  refine k_ic (0) dX5_init_47 (by decide +kernel) ?_
  refine k_put (k := 6) (ty := .int) lf_X5_31 rfl (by decide +kernel) rfl rfl (Nat.le_of_ble_eq_true rfl) dX5_init_48 ?_
  refine k_ld dX5_init_51 ?_
  refine k_ic (0) dX5_init_52 (by decide +kernel) ?_
  refine k_put (k := 7) (ty := .int) lf_X5_34 rfl (by decide +kernel) rfl rfl (Nat.le_of_ble_eq_true rfl) dX5_init_53 ?_
  refine k_ld dX5_init_56 ?_
  refine k_ic (0) dX5_init_57 (by decide +kernel) ?_
  refine k_put (k := 8) (ty := .int) lf_X5_37 rfl (by decide +kernel) rfl rfl (Nat.le_of_ble_eq_true rfl) dX5_init_58 ?_
  refine k_ld dX5_init_61 ?_
  refine k_ic (0) dX5_init_62 (by decide +kernel) ?_
  refine k_put (k := 9) (ty := .int) lf_X5_40 rfl (by decide +kernel) rfl rfl (Nat.le_of_ble_eq_true rfl) dX5_init_63 ?_
  refine k_ld dX5_init_66 ?_
  refine k_ic (-1) dX5_init_67 (by decide +kernel) ?_
  refine k_put (k := 10) (ty := .int) lf_X5_43 rfl (by decide +kernel) rfl rfl (Nat.le_of_ble_eq_true rfl) dX5_init_68 ?_
  refine k_ld dX5_init_71 ?_
  refine k_bi (8) dX5_init_72 (by decide +kernel) ?_
  refine k_newI 8 dX5_init_74 (by decide +kernel) (by decide +kernel) (by decide) (by decide +kernel) (by decide +kernel) ac_int (fun q4 => ?_)
  refine k_put (k := 11) (ty := (.array .int)) lf_X5_46 rfl (by decide +kernel) rfl rfl (Nat.le_of_ble_eq_true rfl) dX5_init_76 ?_
  refine k_ld dX5_init_79 ?_
  refine k_bi (8) dX5_init_80 (by decide +kernel) ?_
  refine k_newI 8 dX5_init_82 (by decide +kernel) (by decide +kernel) (by decide) (by decide +kernel) (by decide +kernel) ac_int (fun q5 => ?_)
  refine k_put (k := 12) (ty := (.array .int)) lf_X5_49 rfl (by decide +kernel) rfl rfl (Nat.le_of_ble_eq_true rfl) dX5_init_84 ?_
  refine k_ld dX5_init_87 ?_
  refine k_bi (8) dX5_init_88 (by decide +kernel) ?_
  refine k_newI 8 dX5_init_90 (by decide +kernel) (by decide +kernel) (by decide) (by decide +kernel) (by decide +kernel) ac_int (fun q6 => ?_)
  refine k_put (k := 13) (ty := (.array .int)) lf_X5_52 rfl (by decide +kernel) rfl rfl (Nat.le_of_ble_eq_true rfl) dX5_init_92 ?_
  refine k_ld dX5_init_95 ?_
  refine k_new (d' := 1) (nc' := 2) (ns' := 12) (by decide) ln_1 dX5_init_96 dX5_init_99 dX5_init_100 cl_5_55 (by decide +kernel) ii_1 ic_1 ln_1.2 rfl id_1 (by simp [Value.category]) (by decide) (by decide +kernel) (by decide +kernel) con_X1 (fun q7 w7 hw7 => ?_)
  obtain ⟨q7_1, q7_2, rfl⟩ := hw7
  refine k_put (k := 14) (ty := (.object "TownTune$Feuds")) lf_X5_58 rfl (by decide +kernel) rfl rfl (Nat.le_of_ble_eq_true rfl) dX5_init_103 ?_
  exact k_ret dX5_init_106 (by decide +kernel) (by decide +kernel) ⟨q1, q2, q3, q4, q5, q6, q7, q7_1, q7_2, rfl⟩
def PX10 (E : En) : PT := fun q w => ∃ a1 a2 a3 a4 a5 a6 a7 a8 a9 a10 a11 a12 : Nat, w = [(q, .inr (10, [.int 0, .ref a1, .ref a2, .ref a3, .ref a4, .ref a5, .int 0, .ref a6, .ref a9, .int 0, .ref a10])), (a1, .inl (E.2.2.1.1, 8, .inl (fun _ => 0))), (a2, .inl (E.2.2.1.1, 8, .inl (fun _ => 0))), (a3, .inl (E.2.2.1.1, 8, .inl (fun _ => 0))), (a4, .inl (E.2.2.1.1, 8, .inl (fun _ => 0))), (a5, .inl (E.2.2.1.1, 8, .inl (fun _ => 0))), (a6, .inr (1, [.ref a7, .ref a8, .int 0])), (a7, .inl (E.2.2.1.1, 6, .inl (fun _ => 0))), (a8, .inl (E.2.2.1.1, 6, .inl (fun _ => 0))), (a9, .inl (E.2.2.1.1, 24, .inl (fun _ => 0))), (a10, .inr (8, [.ref a11, .int 0, .ref a12])), (a11, .inl (E.2.2.1.1, 600, .inl (fun _ => 0))), (a12, .inl (E.2.2.1.1, 64, .inl (fun _ => 0)))]
theorem con_X10 {E : En} : Con E 10 yX10_init cX10_init 2 12 746 (PX10 E) := by
  refine Con.of (own := RX10) (by decide +kernel) rfl rfl (fun h => ?_)
  refine k_obj dX10_init_0 dX10_init_1 oi_10 oi_in oi_co (by decide) ?_
  refine k_ld dX10_init_4 ?_
  refine k_ic (0) dX10_init_5 (by decide +kernel) ?_
  refine k_put (k := 0) (ty := .int) lf_X10_9 rfl (by decide +kernel) rfl rfl (Nat.le_of_ble_eq_true rfl) dX10_init_6 ?_
  refine k_ld dX10_init_9 ?_
  refine k_bi (8) dX10_init_10 (by decide +kernel) ?_
  refine k_newI 8 dX10_init_12 (by decide +kernel) (by decide +kernel) (by decide) (by decide +kernel) (by decide +kernel) ac_int (fun q1 => ?_)
  refine k_put (k := 1) (ty := (.array .int)) lf_X10_15 rfl (by decide +kernel) rfl rfl (Nat.le_of_ble_eq_true rfl) dX10_init_14 ?_
  refine k_ld dX10_init_17 ?_
  refine k_bi (8) dX10_init_18 (by decide +kernel) ?_
  refine k_newI 8 dX10_init_20 (by decide +kernel) (by decide +kernel) (by decide) (by decide +kernel) (by decide +kernel) ac_int (fun q2 => ?_)
  refine k_put (k := 2) (ty := (.array .int)) lf_X10_19 rfl (by decide +kernel) rfl rfl (Nat.le_of_ble_eq_true rfl) dX10_init_22 ?_
  refine k_ld dX10_init_25 ?_
  refine k_bi (8) dX10_init_26 (by decide +kernel) ?_
  refine k_newI 8 dX10_init_28 (by decide +kernel) (by decide +kernel) (by decide) (by decide +kernel) (by decide +kernel) ac_int (fun q3 => ?_)
  refine k_put (k := 3) (ty := (.array .int)) lf_X10_22 rfl (by decide +kernel) rfl rfl (Nat.le_of_ble_eq_true rfl) dX10_init_30 ?_
  refine k_ld dX10_init_33 ?_
  refine k_bi (8) dX10_init_34 (by decide +kernel) ?_
  refine k_newI 8 dX10_init_36 (by decide +kernel) (by decide +kernel) (by decide) (by decide +kernel) (by decide +kernel) ac_int (fun q4 => ?_)
  refine k_put (k := 4) (ty := (.array .int)) lf_X10_25 rfl (by decide +kernel) rfl rfl (Nat.le_of_ble_eq_true rfl) dX10_init_38 ?_
  refine k_ld dX10_init_41 ?_
  refine k_bi (8) dX10_init_42 (by decide +kernel) ?_
  refine k_newI 8 dX10_init_44 (by decide +kernel) (by decide +kernel) (by decide) (by decide +kernel) (by decide +kernel) ac_int (fun q5 => ?_)
  refine k_put (k := 5) (ty := (.array .int)) lf_X10_28 rfl (by decide +kernel) rfl rfl (Nat.le_of_ble_eq_true rfl) dX10_init_46 ?_
  refine k_ld dX10_init_49 ?_
  refine k_ic (0) dX10_init_50 (by decide +kernel) ?_
  refine k_put (k := 6) (ty := .int) lf_X10_31 rfl (by decide +kernel) rfl rfl (Nat.le_of_ble_eq_true rfl) dX10_init_51 ?_
  refine k_ld dX10_init_54 ?_
  refine k_new (d' := 1) (nc' := 2) (ns' := 12) (by decide) ln_1 dX10_init_55 dX10_init_58 dX10_init_59 cl_10_34 (by decide +kernel) ii_1 ic_1 ln_1.2 rfl id_1 (by simp [Value.category]) (by decide) (by decide +kernel) (by decide +kernel) con_X1 (fun q6 w6 hw6 => ?_)
  obtain ⟨q6_1, q6_2, rfl⟩ := hw6
  refine k_put (k := 7) (ty := (.object "TownTune$Feuds")) lf_X10_37 rfl (by decide +kernel) rfl rfl (Nat.le_of_ble_eq_true rfl) dX10_init_62 ?_
  refine k_ld dX10_init_65 ?_
  refine k_bi (24) dX10_init_66 (by decide +kernel) ?_
  refine k_newI 24 dX10_init_68 (by decide +kernel) (by decide +kernel) (by decide) (by decide +kernel) (by decide +kernel) ac_int (fun q7 => ?_)
  refine k_put (k := 8) (ty := (.array .int)) lf_X10_41 rfl (by decide +kernel) rfl rfl (Nat.le_of_ble_eq_true rfl) dX10_init_70 ?_
  refine k_ld dX10_init_73 ?_
  refine k_ic (0) dX10_init_74 (by decide +kernel) ?_
  refine k_put (k := 9) (ty := .int) lf_X10_44 rfl (by decide +kernel) rfl rfl (Nat.le_of_ble_eq_true rfl) dX10_init_75 ?_
  refine k_ld dX10_init_78 ?_
  refine k_new (d' := 1) (nc' := 2) (ns' := 664) (by decide) ln_8 dX10_init_79 dX10_init_82 dX10_init_83 cl_10_47 (by decide +kernel) ii_8 ic_8 ln_8.2 rfl id_8 (by simp [Value.category]) (by decide) (by decide +kernel) (by decide +kernel) con_X8 (fun q8 w8 hw8 => ?_)
  obtain ⟨q8_1, q8_2, rfl⟩ := hw8
  refine k_put (k := 10) (ty := (.object "TownTune$Rule")) lf_X10_50 rfl (by decide +kernel) rfl rfl (Nat.le_of_ble_eq_true rfl) dX10_init_86 ?_
  exact k_ret dX10_init_89 (by decide +kernel) (by decide +kernel) ⟨q1, q2, q3, q4, q5, q6, q6_1, q6_2, q7, q8, q8_1, q8_2, rfl⟩
def PX7 (E : En) : PT := fun q w => ∃ a1 a2 a3 a4 a5 a6 a7 a8 a9 a10 a11 a12 a13 a14 a15 a16 : Nat, w = [(q, .inr (7, [.ref a1, .ref a14, .int 0, .int (-1), .int 0, .int 0, .int 0, .ref a16, .int 0, .int 0])), (a1, .inr (10, [.int 0, .ref a2, .ref a3, .ref a4, .ref a5, .ref a6, .int 0, .ref a7, .ref a10, .int 0, .ref a11])), (a2, .inl (E.2.2.1.1, 8, .inl (fun _ => 0))), (a3, .inl (E.2.2.1.1, 8, .inl (fun _ => 0))), (a4, .inl (E.2.2.1.1, 8, .inl (fun _ => 0))), (a5, .inl (E.2.2.1.1, 8, .inl (fun _ => 0))), (a6, .inl (E.2.2.1.1, 8, .inl (fun _ => 0))), (a7, .inr (1, [.ref a8, .ref a9, .int 0])), (a8, .inl (E.2.2.1.1, 6, .inl (fun _ => 0))), (a9, .inl (E.2.2.1.1, 6, .inl (fun _ => 0))), (a10, .inl (E.2.2.1.1, 24, .inl (fun _ => 0))), (a11, .inr (8, [.ref a12, .int 0, .ref a13])), (a12, .inl (E.2.2.1.1, 600, .inl (fun _ => 0))), (a13, .inl (E.2.2.1.1, 64, .inl (fun _ => 0))), (a14, .inr (9, [.ref a15, .int 0, .int 0, .int 0, .int 0, .int 0, .int 0, .int 0])), (a15, .inl (E.2.2.1.2.1, 600, .inl (fun _ => 0))), (a16, .inl (E.2.2.1.1, 84, .inl (fun _ => 0)))]
theorem con_X7 {E : En} : Con E 7 yX7_init cX7_init 3 16 1449 (PX7 E) := by
  refine Con.of (own := RX7) (by decide +kernel) rfl rfl (fun h => ?_)
  refine k_obj dX7_init_0 dX7_init_1 oi_7 oi_in oi_co (by decide) ?_
  refine k_ld dX7_init_4 ?_
  refine k_new (d' := 2) (nc' := 12) (ns' := 746) (by decide) ln_10 dX7_init_5 dX7_init_8 dX7_init_9 cl_7_9 (by decide +kernel) ii_10 ic_10 ln_10.2 rfl id_10 (by simp [Value.category]) (by decide) (by decide +kernel) (by decide +kernel) con_X10 (fun q1 w1 hw1 => ?_)
  obtain ⟨q1_1, q1_2, q1_3, q1_4, q1_5, q1_6, q1_7, q1_8, q1_9, q1_10, q1_11, q1_12, rfl⟩ := hw1
  refine k_put (k := 0) (ty := (.object "TownTune$Town")) lf_X7_12 rfl (by decide +kernel) rfl rfl (Nat.le_of_ble_eq_true rfl) dX7_init_12 ?_
  refine k_ld dX7_init_15 ?_
  refine k_new (d' := 1) (nc' := 1) (ns' := 600) (by decide) ln_9 dX7_init_16 dX7_init_19 dX7_init_20 cl_7_18 (by decide +kernel) ii_9 ic_9 ln_9.2 rfl id_9 (by simp [Value.category]) (by decide) (by decide +kernel) (by decide +kernel) con_X9 (fun q2 w2 hw2 => ?_)
  obtain ⟨q2_1, rfl⟩ := hw2
  refine k_put (k := 1) (ty := (.object "TownTune$Tokens")) lf_X7_21 rfl (by decide +kernel) rfl rfl (Nat.le_of_ble_eq_true rfl) dX7_init_23 ?_
  refine k_ld dX7_init_26 ?_
  refine k_ic (0) dX7_init_27 (by decide +kernel) ?_
  refine k_put (k := 2) (ty := .int) lf_X7_25 rfl (by decide +kernel) rfl rfl (Nat.le_of_ble_eq_true rfl) dX7_init_28 ?_
  refine k_ld dX7_init_31 ?_
  refine k_ic (-1) dX7_init_32 (by decide +kernel) ?_
  refine k_put (k := 3) (ty := .int) lf_X7_29 rfl (by decide +kernel) rfl rfl (Nat.le_of_ble_eq_true rfl) dX7_init_33 ?_
  refine k_ld dX7_init_36 ?_
  refine k_ic (0) dX7_init_37 (by decide +kernel) ?_
  refine k_put (k := 4) (ty := .boolean) lf_X7_32 rfl (by decide +kernel) rfl rfl (Nat.le_of_ble_eq_true rfl) dX7_init_38 ?_
  refine k_ld dX7_init_41 ?_
  refine k_ic (0) dX7_init_42 (by decide +kernel) ?_
  refine k_put (k := 5) (ty := .boolean) lf_X7_36 rfl (by decide +kernel) rfl rfl (Nat.le_of_ble_eq_true rfl) dX7_init_43 ?_
  refine k_ld dX7_init_46 ?_
  refine k_ic (0) dX7_init_47 (by decide +kernel) ?_
  refine k_put (k := 6) (ty := .boolean) lf_X7_39 rfl (by decide +kernel) rfl rfl (Nat.le_of_ble_eq_true rfl) dX7_init_48 ?_
  refine k_ld dX7_init_51 ?_
  refine k_bi (84) dX7_init_52 (by decide +kernel) ?_
  refine k_newI 84 dX7_init_54 (by decide +kernel) (by decide +kernel) (by decide) (by decide +kernel) (by decide +kernel) ac_int (fun q3 => ?_)
  refine k_put (k := 7) (ty := (.array .int)) lf_X7_42 rfl (by decide +kernel) rfl rfl (Nat.le_of_ble_eq_true rfl) dX7_init_56 ?_
  refine k_ld dX7_init_59 ?_
  refine k_ic (0) dX7_init_60 (by decide +kernel) ?_
  refine k_put (k := 8) (ty := .int) lf_X7_46 rfl (by decide +kernel) rfl rfl (Nat.le_of_ble_eq_true rfl) dX7_init_61 ?_
  refine k_ld dX7_init_64 ?_
  refine k_ic (0) dX7_init_65 (by decide +kernel) ?_
  refine k_put (k := 9) (ty := .int) lf_X7_49 rfl (by decide +kernel) rfl rfl (Nat.le_of_ble_eq_true rfl) dX7_init_66 ?_
  exact k_ret dX7_init_69 (by decide +kernel) (by decide +kernel) ⟨q1, q1_1, q1_2, q1_3, q1_4, q1_5, q1_6, q1_7, q1_8, q1_9, q1_10, q1_11, q1_12, q2, q2_1, q3, rfl⟩
def PX4 (E : En) : PT := fun q w => ∃ a1 a2 a3 a4 a5 a6 a7 a8 a9 a10 a11 a12 a13 a14 a15 a16 : Nat, w = [(q, .inr (4, [.int 0, .ref a1, .ref a11, .ref a13, .ref a16])), (a1, .inr (5, [.ref a2, .ref a3, .ref a4, .int 0, .int 0, .int 0, .int 0, .int 0, .int 0, .int 0, .int (-1), .ref a5, .ref a6, .ref a7, .ref a8])), (a2, .inl (E.2.2.1.1, 400, .inl (fun _ => 0))), (a3, .inl (E.2.2.1.1, 400, .inl (fun _ => 0))), (a4, .inl (E.2.2.1.1, 400, .inl (fun _ => 0))), (a5, .inl (E.2.2.1.1, 8, .inl (fun _ => 0))), (a6, .inl (E.2.2.1.1, 8, .inl (fun _ => 0))), (a7, .inl (E.2.2.1.1, 8, .inl (fun _ => 0))), (a8, .inr (1, [.ref a9, .ref a10, .int 0])), (a9, .inl (E.2.2.1.1, 6, .inl (fun _ => 0))), (a10, .inl (E.2.2.1.1, 6, .inl (fun _ => 0))), (a11, .inr (0, [.ref a12, .int 0])), (a12, .inl (E.2.2.1.1, 160, .inl (fun _ => 0))), (a13, .inr (3, [.ref a14, .ref a15, .int 0])), (a14, .inl (E.2.2.1.1, 8, .inl (fun _ => 0))), (a15, .inl (E.2.2.1.1, 8, .inl (fun _ => 0))), (a16, .inl (E.2.2.1.1, 3, .inl (fun _ => 0)))]
theorem con_X4 {E : En} : Con E 4 yX4_init cX4_init 3 16 1438 (PX4 E) := by
  refine Con.of (own := RX4) (by decide +kernel) rfl rfl (fun h => ?_)
  refine k_obj dX4_init_0 dX4_init_1 oi_4 oi_in oi_co (by decide) ?_
  refine k_ld dX4_init_4 ?_
  refine k_ic (0) dX4_init_5 (by decide +kernel) ?_
  refine k_put (k := 0) (ty := .boolean) lf_X4_9 rfl (by decide +kernel) rfl rfl (Nat.le_of_ble_eq_true rfl) dX4_init_6 ?_
  refine k_ld dX4_init_9 ?_
  refine k_new (d' := 2) (nc' := 9) (ns' := 1239) (by decide) ln_5 dX4_init_10 dX4_init_13 dX4_init_14 cl_4_15 (by decide +kernel) ii_5 ic_5 ln_5.2 rfl id_5 (by simp [Value.category]) (by decide) (by decide +kernel) (by decide +kernel) con_X5 (fun q1 w1 hw1 => ?_)
  obtain ⟨q1_1, q1_2, q1_3, q1_4, q1_5, q1_6, q1_7, q1_8, q1_9, rfl⟩ := hw1
  refine k_put (k := 1) (ty := (.object "TownTune$Life")) lf_X4_18 rfl (by decide +kernel) rfl rfl (Nat.le_of_ble_eq_true rfl) dX4_init_17 ?_
  refine k_ld dX4_init_20 ?_
  refine k_new (d' := 1) (nc' := 1) (ns' := 160) (by decide) ln_0 dX4_init_21 dX4_init_24 dX4_init_25 cl_4_22 (by decide +kernel) ii_0 ic_0 ln_0.2 rfl id_0 (by simp [Value.category]) (by decide) (by decide +kernel) (by decide +kernel) con_X0 (fun q2 w2 hw2 => ?_)
  obtain ⟨q2_1, rfl⟩ := hw2
  refine k_put (k := 2) (ty := (.object "TownTune$Acts")) lf_X4_25 rfl (by decide +kernel) rfl rfl (Nat.le_of_ble_eq_true rfl) dX4_init_28 ?_
  refine k_ld dX4_init_31 ?_
  refine k_new (d' := 1) (nc' := 2) (ns' := 16) (by decide) ln_3 dX4_init_32 dX4_init_35 dX4_init_36 cl_4_29 (by decide +kernel) ii_3 ic_3 ln_3.2 rfl id_3 (by simp [Value.category]) (by decide) (by decide +kernel) (by decide +kernel) con_X3 (fun q3 w3 hw3 => ?_)
  obtain ⟨q3_1, q3_2, rfl⟩ := hw3
  refine k_put (k := 3) (ty := (.object "TownTune$Heard")) lf_X4_32 rfl (by decide +kernel) rfl rfl (Nat.le_of_ble_eq_true rfl) dX4_init_39 ?_
  refine k_ld dX4_init_42 ?_
  refine k_ic (3) dX4_init_43 (by decide +kernel) ?_
  refine k_newI 3 dX4_init_44 (by decide +kernel) (by decide +kernel) (by decide) (by decide +kernel) (by decide +kernel) ac_int (fun q4 => ?_)
  refine k_put (k := 4) (ty := (.array .int)) lf_X4_36 rfl (by decide +kernel) rfl rfl (Nat.le_of_ble_eq_true rfl) dX4_init_46 ?_
  exact k_ret dX4_init_49 (by decide +kernel) (by decide +kernel) ⟨q1, q1_1, q1_2, q1_3, q1_4, q1_5, q1_6, q1_7, q1_8, q1_9, q2, q2_1, q3, q3_1, q3_2, q4, rfl⟩
