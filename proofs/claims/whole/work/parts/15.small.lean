theorem c_X0_keep {E : En} {d : Nat} {Q : QT} {X : XT} {g : G2} {a n m sf : Nat} {kd o1 o2 o3 : Int32} (ha : is_acts a) (hn : g a 1 = nI n) (hm : (n < 40 ∧ m = n ∧ sf = 0) ∨ (n = 40 ∧ m = 39 ∧ sf = 1)) (hq : ∀ g2, FR [a, a + 1] g g2 → (∀ j, j ≠ 1 → g2 a j = g a j) → g2 a 1 = nI (m + 1) → (∀ i r, i < m → r < 4 → g2 (a + 1) (4 * i + r) = g (a + 1) (4 * (i + sf) + r)) → g2 (a + 1) (4 * m) = kd → g2 (a + 1) (4 * m + 1) = o1 → g2 (a + 1) (4 * m + 2) = o2 → g2 (a + 1) (4 * m + 3) = o3 → Q none g2) : M E md_X0_keep (d + 1) [.ref a, .int kd, .int o1, .int o2, .int o3] g Q X := by
  refine M.of _ rfl rfl (Nat.le_of_ble_eq_true rfl) ?_
  have L : ∀ h : G2, (∀ b, b ≠ a → b ≠ a + 1 → h b = g b) → (∀ j, j ≠ 1 → h a j = g a j) → h a 1 = nI m → (∀ i r, i < m → r < 4 → h (a + 1) (4 * i + r) = g (a + 1) (4 * (i + sf) + r)) → B E md_X0_keep (d + 1) Q X 31 [(0, .ref a), (1, .int kd), (2, .int o1), (3, .int o2), (4, .int o3)] [] h 0 := by
    intro h hb hb2 h1 h2
    have m40 : m < 40 := by omega
    refine b_iconst (v := 4) dX0_keep_31 (by decide +kernel) ?_
    refine b_aload_n dX0_keep_32 rfl rfl ?_
    refine b_getI lf_X0_15 (acts_c ha) dX0_keep_33 ?_
    refine b_imul dX0_keep_36 ?_
    refine b_topE (y := nI (4 * m)) (by rw [h1, show (4 : Int32) = nI 4 from rfl, pk_mul]) ?_
    refine b_istore (lv' := [(0, _), (1, _), (2, _), (3, _), (4, _), (5, _)]) dX0_keep_37 (by decide) rfl rfl ?_
    refine b_aload_n dX0_keep_39 rfl rfl ?_
    refine b_getR (b := (a + 1)) lf_X0_11 (acts_c ha) (acts_r0 ha) dX0_keep_40 ?_
    refine b_iload dX0_keep_43 rfl ?_
    refine b_iload_n dX0_keep_45 rfl rfl ?_
    refine b_istN (j := (4 * m)) dX0_keep_46 (rfl) (by rw [(acts_n1 ha)]; omega) ?_
    refine b_aload_n dX0_keep_47 rfl rfl ?_
    refine b_getR (b := (a + 1)) lf_X0_11 (acts_c ha) (acts_r0 ha) dX0_keep_48 ?_
    refine b_iload dX0_keep_51 rfl ?_
    refine b_iconst (v := 1) dX0_keep_53 (by decide +kernel) ?_
    refine b_iadd dX0_keep_54 ?_
    refine b_iload_n dX0_keep_55 rfl rfl ?_
    refine b_istN (j := (4 * m + 1)) dX0_keep_56 (nI_1 _) (by rw [(acts_n1 ha)]; omega) ?_
    refine b_aload_n dX0_keep_57 rfl rfl ?_
    refine b_getR (b := (a + 1)) lf_X0_11 (acts_c ha) (acts_r0 ha) dX0_keep_58 ?_
    refine b_iload dX0_keep_61 rfl ?_
    refine b_iconst (v := 2) dX0_keep_63 (by decide +kernel) ?_
    refine b_iadd dX0_keep_64 ?_
    refine b_iload_n dX0_keep_65 rfl rfl ?_
    refine b_istN (j := (4 * m + 2)) dX0_keep_66 (nI_add _ 2) (by rw [(acts_n1 ha)]; omega) ?_
    refine b_aload_n dX0_keep_67 rfl rfl ?_
    refine b_getR (b := (a + 1)) lf_X0_11 (acts_c ha) (acts_r0 ha) dX0_keep_68 ?_
    refine b_iload dX0_keep_71 rfl ?_
    refine b_iconst (v := 3) dX0_keep_73 (by decide +kernel) ?_
    refine b_iadd dX0_keep_74 ?_
    refine b_iload dX0_keep_75 rfl ?_
    refine b_istN (j := (4 * m + 3)) dX0_keep_77 (nI_add _ 3) (by rw [(acts_n1 ha)]; omega) ?_
    refine b_aload_n dX0_keep_78 rfl rfl ?_
    refine b_dup dX0_keep_79 rfl ?_
    refine b_getI lf_X0_15 (acts_c ha) dX0_keep_80 ?_
    refine b_iconst (v := 1) dX0_keep_83 (by decide +kernel) ?_
    refine b_iadd dX0_keep_84 ?_
    refine b_putI lf_X0_15 lp_0_1 (acts_c ha) dX0_keep_85 ?_
    refine b_vret rfl (by decide) dX0_keep_88 ?_
    refine hq _ (by grind [up2, FR]) (by grind [up2]) (by rw [up2_s, up2_a _ _ _ _ (by omega), up2_a _ _ _ _ (by omega), up2_a _ _ _ _ (by omega), up2_a _ _ _ _ (by omega), h1]; exact nI_1 m) (by grind [up2]) (by grind [up2]) (by grind [up2]) (by grind [up2]) (by grind [up2])
  refine b_aload_n dX0_keep_0 rfl rfl ?_
  refine b_getI lf_X0_15 (acts_c ha) dX0_keep_1 ?_
  refine b_bipush (v := 40) dX0_keep_4 (by decide +kernel) ?_
  refine b_icmp_lt (tgt := 31) dX0_keep_6 (by decide) (fun h6 => ?_) (fun h6 => ?_)
  · rcases hm with ⟨q1, rfl, rfl⟩ | ⟨q1, rfl, rfl⟩
    · first
      | exact L g (fun b _ _ => rfl) (fun j _ => rfl) hn (fun i r _ _ => rfl)
      | exact absurd (hn ▸ (nI_lt (b := 40) q1 (by decide))) h6
    · first
      | exact absurd (hn ▸ h6) (by subst q1; decide +kernel)
      | exact L _ (fun b hb hb2 => by rw [up2_f _ _ _ _ hb, upA_a _ _ _ hb2]) (fun j hj => by rw [up2_k _ _ _ _ hj, upA_a _ _ _ (by omega)]) (by rw [up2_s]; rfl) (fun i r h1 h2 => by rw [up2_a _ _ _ _ (by omega), upA_s, va_cpy, show (0 : Int32).toNatClampNeg = 0 from rfl, show (4 : Int32).toNatClampNeg = 4 from rfl, show (156 : Int32).toNatClampNeg = 156 from by decide +kernel, if_pos (by omega)]; congr 1; omega)
  · refine b_aload_n dX0_keep_9 rfl rfl ?_
    refine b_getR (b := (a + 1)) lf_X0_11 (acts_c ha) (acts_r0 ha) dX0_keep_10 ?_
    refine b_iconst (v := 4) dX0_keep_13 (by decide +kernel) ?_
    refine b_aload_n dX0_keep_14 rfl rfl ?_
    refine b_getR (b := (a + 1)) lf_X0_11 (acts_c ha) (acts_r0 ha) dX0_keep_15 ?_
    refine b_iconst (v := 0) dX0_keep_18 (by decide +kernel) ?_
    refine b_sipush (v := 156) dX0_keep_19 (by decide +kernel) ?_
    refine b_copyi dX0_keep_22 lc_X0_19 (by omega) (by decide) ?_ ?_ ?_ ?_ ?_ ?_ ?_ (by decide) ?_
    · decide +kernel
    · decide +kernel
    · decide +kernel
    · rw [acts_n1 ha]; decide +kernel
    · rw [acts_n1 ha]; decide +kernel
    · rw [acts_n1 ha]; decide
    · rw [acts_n1 ha]; decide
    refine b_aload_n dX0_keep_25 rfl rfl ?_
    refine b_bipush (v := 39) dX0_keep_26 (by decide +kernel) ?_
    refine b_putI lf_X0_15 lp_0_1 (acts_c ha) dX0_keep_28 ?_
    rcases hm with ⟨q1, rfl, rfl⟩ | ⟨q1, rfl, rfl⟩
    · first
      | exact L g (fun b _ _ => rfl) (fun j _ => rfl) hn (fun i r _ _ => rfl)
      | exact absurd (hn ▸ (nI_lt (b := 40) q1 (by decide))) h6
    · first
      | exact absurd (hn ▸ h6) (by subst q1; decide +kernel)
      | exact L _ (fun b hb hb2 => by rw [up2_f _ _ _ _ hb, upA_a _ _ _ hb2]) (fun j hj => by rw [up2_k _ _ _ _ hj, upA_a _ _ _ (by omega)]) (by rw [up2_s]; rfl) (fun i r h1 h2 => by rw [up2_a _ _ _ _ (by omega), upA_s, va_cpy, show (0 : Int32).toNatClampNeg = 0 from rfl, show (4 : Int32).toNatClampNeg = 4 from rfl, show (156 : Int32).toNatClampNeg = 156 from by decide +kernel, if_pos (by omega)]; congr 1; omega)
theorem c_X0_cell {E : En} {d : Nat} {Q : QT} {X : XT} {g : G2} {a i r : Nat} (ha : is_acts a) (hi : i < 40) (hr : r < 4) (hq : Q (some (.int (g (a + 1) (4 * i + r)))) g) : M E md_X0_cell d [.ref a, .int (nI i), .int (nI r)] g Q X := by
  refine M.of _ rfl rfl (Nat.le_of_ble_eq_true rfl) ?_
  refine b_iload_n dX0_cell_0 rfl rfl ?_
  refine b_if_lt (tgt := 23) dX0_cell_1 (by decide) (fun h1 => ?_) (fun h1 => ?_)
  · exact absurd h1 (nI_pos (by omega))
  · refine b_iload_n dX0_cell_4 rfl rfl ?_
    refine b_bipush (v := 40) dX0_cell_5 (by decide +kernel) ?_
    refine b_icmp_ge (tgt := 23) dX0_cell_7 (by decide) (fun h7 => ?_) (fun h7 => ?_)
    · exact absurd ((nI_leI (a := 40) (by decide) (by omega)).mp h7) (by omega)
    · refine b_aload_n dX0_cell_10 rfl rfl ?_
      refine b_getR (b := (a + 1)) lf_X0_11 (acts_c ha) (acts_r0 ha) dX0_cell_11 ?_
      refine b_iconst (v := 4) dX0_cell_14 (by decide +kernel) ?_
      refine b_iload_n dX0_cell_15 rfl rfl ?_
      refine b_imul dX0_cell_16 ?_
      refine b_iload_n dX0_cell_17 rfl rfl ?_
      refine b_iadd dX0_cell_18 ?_
      refine b_ildN (j := (4 * i + r)) dX0_cell_19 (by rw [show (4 : Int32) = nI 4 from rfl, pk_mul, nI_add]) (by rw [(acts_n1 ha)]; omega) ?_
      refine b_goto (tgt := 24) dX0_cell_20 (by decide) ?_
      refine b_iret rfl (by decide) dX0_cell_24 ?_
      exact hq
theorem c_X0_kind {E : En} {d : Nat} {Q : QT} {X : XT} {g : G2} {a i : Nat} (ha : is_acts a) (hi : i < 40) (hq : Q (some (.int (g (a + 1) (4 * i + 0)))) g) : M E md_X0_kind (d + 1) [.ref a, .int (nI i)] g Q X := by
  refine M.of _ rfl rfl (Nat.le_of_ble_eq_true rfl) ?_
  refine b_aload_n dX0_kind_0 rfl rfl ?_
  refine b_iload_n dX0_kind_1 rfl rfl ?_
  refine b_iconst (v := 0) dX0_kind_2 (by decide +kernel) ?_
  refine b_callV (As := [_, _]) (st := []) dX0_kind_3 lk_X0_25 lm_X0_cell lv_X0_cell (acts_c ha) (by decide) rfl rfl rfl (by decide) (Nat.le_refl _) (by decide) ?_
  refine c_X0_cell (r := 0) ha hi (by decide) ?_
  refine b_iret rfl (by decide) dX0_kind_6 ?_
  exact hq
theorem c_X0_one {E : En} {d : Nat} {Q : QT} {X : XT} {g : G2} {a i : Nat} (ha : is_acts a) (hi : i < 40) (hq : Q (some (.int (g (a + 1) (4 * i + 1)))) g) : M E md_X0_one (d + 1) [.ref a, .int (nI i)] g Q X := by
  refine M.of _ rfl rfl (Nat.le_of_ble_eq_true rfl) ?_
  refine b_aload_n dX0_one_0 rfl rfl ?_
  refine b_iload_n dX0_one_1 rfl rfl ?_
  refine b_iconst (v := 1) dX0_one_2 (by decide +kernel) ?_
  refine b_callV (As := [_, _]) (st := []) dX0_one_3 lk_X0_25 lm_X0_cell lv_X0_cell (acts_c ha) (by decide) rfl rfl rfl (by decide) (Nat.le_refl _) (by decide) ?_
  refine c_X0_cell (r := 1) ha hi (by decide) ?_
  refine b_iret rfl (by decide) dX0_one_6 ?_
  exact hq
theorem c_X0_two {E : En} {d : Nat} {Q : QT} {X : XT} {g : G2} {a i : Nat} (ha : is_acts a) (hi : i < 40) (hq : Q (some (.int (g (a + 1) (4 * i + 2)))) g) : M E md_X0_two (d + 1) [.ref a, .int (nI i)] g Q X := by
  refine M.of _ rfl rfl (Nat.le_of_ble_eq_true rfl) ?_
  refine b_aload_n dX0_two_0 rfl rfl ?_
  refine b_iload_n dX0_two_1 rfl rfl ?_
  refine b_iconst (v := 2) dX0_two_2 (by decide +kernel) ?_
  refine b_callV (As := [_, _]) (st := []) dX0_two_3 lk_X0_25 lm_X0_cell lv_X0_cell (acts_c ha) (by decide) rfl rfl rfl (by decide) (Nat.le_refl _) (by decide) ?_
  refine c_X0_cell (r := 2) ha hi (by decide) ?_
  refine b_iret rfl (by decide) dX0_two_6 ?_
  exact hq
theorem c_X0_three {E : En} {d : Nat} {Q : QT} {X : XT} {g : G2} {a i : Nat} (ha : is_acts a) (hi : i < 40) (hq : Q (some (.int (g (a + 1) (4 * i + 3)))) g) : M E md_X0_three (d + 1) [.ref a, .int (nI i)] g Q X := by
  refine M.of _ rfl rfl (Nat.le_of_ble_eq_true rfl) ?_
  refine b_aload_n dX0_three_0 rfl rfl ?_
  refine b_iload_n dX0_three_1 rfl rfl ?_
  refine b_iconst (v := 3) dX0_three_2 (by decide +kernel) ?_
  refine b_callV (As := [_, _]) (st := []) dX0_three_3 lk_X0_25 lm_X0_cell lv_X0_cell (acts_c ha) (by decide) rfl rfl rfl (by decide) (Nat.le_refl _) (by decide) ?_
  refine c_X0_cell (r := 3) ha hi (by decide) ?_
  refine b_iret rfl (by decide) dX0_three_6 ?_
  exact hq
theorem c_X0_copy {E : En} {d : Nat} {Q : QT} {X : XT} {g : G2} {a b n : Nat} (ha : is_acts a) (hb : is_acts b) (hab : a ≠ b) (hn : g b 1 = nI n) (h6 : n ≤ 40) (hq : ∀ g2, FR [a, a + 1] g g2 → (∀ j, j ≠ 1 → g2 a j = g a j) → g2 a 1 = nI n → (∀ j, j < 4 * n → g2 (a + 1) j = g (b + 1) j) → Q none g2) : M E md_X0_copy (d + 1) [.ref a, .ref b] g Q X := by
  refine M.of _ rfl rfl (Nat.le_of_ble_eq_true rfl) ?_
  refine b_aload_n dX0_copy_0 rfl rfl ?_
  refine b_aload_n dX0_copy_1 rfl rfl ?_
  refine b_getI lf_X0_15 (acts_c hb) dX0_copy_2 ?_
  refine b_putI lf_X0_15 lp_0_1 (acts_c ha) dX0_copy_5 ?_
  refine b_aload_n dX0_copy_8 rfl rfl ?_
  refine b_getR (b := (b + 1)) lf_X0_11 (acts_c hb) (acts_r0 hb) dX0_copy_9 ?_
  refine b_iconst (v := 0) dX0_copy_12 (by decide +kernel) ?_
  refine b_aload_n dX0_copy_13 rfl rfl ?_
  refine b_getR (b := (a + 1)) lf_X0_11 (acts_c ha) (acts_r0 ha) dX0_copy_14 ?_
  refine b_iconst (v := 0) dX0_copy_17 (by decide +kernel) ?_
  refine b_iconst (v := 4) dX0_copy_18 (by decide +kernel) ?_
  refine b_aload_n dX0_copy_19 rfl rfl ?_
  refine b_getI lf_X0_15 (acts_c ha) dX0_copy_20 ?_
  refine b_imul dX0_copy_23 ?_
  refine b_copyi dX0_copy_24 lc_X0_19 (by omega) (by decide) ?_ ?_ ?_ ?_ ?_ ?_ ?_ (by decide) ?_
  · exact nI_pos (n := 0) (by omega)
  · exact nI_pos (n := 0) (by omega)
  · rw [up2_s, hn, show (4 : Int32) = nI 4 from rfl, pk_mul]; exact nI_pos (by omega)
  · rw [up2_s, hn, show (4 : Int32) = nI 4 from rfl, pk_mul, nI_clamp (by omega)]; show (0 : Nat) + 4 * n ≤ _; rw [acts_n1 hb]; omega
  · rw [up2_s, hn, show (4 : Int32) = nI 4 from rfl, pk_mul, nI_clamp (by omega)]; show (0 : Nat) + 4 * n ≤ _; rw [acts_n1 ha]; omega
  · rw [acts_n1 hb]; decide
  · rw [acts_n1 ha]; decide
  refine b_vret rfl (by decide) dX0_copy_27 ?_
  have hb9 : b ≠ a + 1 ∧ b + 1 ≠ a := by unfold is_acts at ha hb; omega
  refine hq _ (fun b hb => by simp only [List.mem_cons, List.not_mem_nil, or_false, not_or] at hb; rw [upA_a _ _ _ hb.2, up2_f _ _ _ _ hb.1]) (fun j hj => by rw [upA_a _ _ _ (by omega), up2_k _ _ _ _ hj]) (by rw [upA_a _ _ _ (by omega), up2_s, hn]) (fun j hj => ?_)
  rw [upA_s, up2_s, hn, show (4 : Int32) = nI 4 from rfl, pk_mul, nI_clamp (by omega), up2_f _ _ _ _ (by omega), show (0 : Int32).toNatClampNeg = 0 from rfl, va_cpy, if_pos (by omega)]; simp
theorem c_X3_add {E : En} {d : Nat} {Q : QT} {X : XT} {g : G2} {a n : Nat} {p s : Int32} (ha : is_heard a) (hn : g a 2 = nI n) (h7 : n < 8) (hq : ∀ g2, FR [a, a + 1, a + 2] g g2 → (∀ j, j ≠ 2 → g2 a j = g a j) → g2 a 2 = nI (n + 1) → (∀ j, j ≠ n → g2 (a + 1) j = g (a + 1) j) → g2 (a + 1) n = p → (∀ j, j ≠ n → g2 (a + 2) j = g (a + 2) j) → g2 (a + 2) n = s → Q none g2) : M E md_X3_add d [.ref a, .int p, .int s] g Q X := by
  refine M.of _ rfl rfl (Nat.le_of_ble_eq_true rfl) ?_
  refine b_aload_n dX3_add_0 rfl rfl ?_
  refine b_getI lf_X3_18 (heard_c ha) dX3_add_1 ?_
  refine b_bipush (v := 8) dX3_add_4 (by decide +kernel) ?_
  refine b_icmp_ge (tgt := 39) dX3_add_6 (by decide) (fun h6 => ?_) (fun h6 => ?_)
  · rw [hn] at h6
    exact absurd ((nI_leI (a := 8) (by decide) (by omega)).mp h6) (by omega)
  · refine b_aload_n dX3_add_9 rfl rfl ?_
    refine b_getR (b := (a + 1)) lf_X3_9 (heard_c ha) (heard_r0 ha) dX3_add_10 ?_
    refine b_aload_n dX3_add_13 rfl rfl ?_
    refine b_getI lf_X3_18 (heard_c ha) dX3_add_14 ?_
    refine b_iload_n dX3_add_17 rfl rfl ?_
    refine b_istN (j := n) dX3_add_18 (hn) (by rw [(heard_n1 ha)]; omega) ?_
    refine b_aload_n dX3_add_19 rfl rfl ?_
    refine b_getR (b := (a + 2)) lf_X3_15 (heard_c ha) (heard_r1 ha) dX3_add_20 ?_
    refine b_aload_n dX3_add_23 rfl rfl ?_
    refine b_getI lf_X3_18 (heard_c ha) dX3_add_24 ?_
    refine b_iload_n dX3_add_27 rfl rfl ?_
    refine b_istN (j := n) dX3_add_28 (by rw [up2_a _ _ _ _ (by omega)]; exact hn) (by rw [(heard_n2 ha)]; omega) ?_
    refine b_aload_n dX3_add_29 rfl rfl ?_
    refine b_dup dX3_add_30 rfl ?_
    refine b_getI lf_X3_18 (heard_c ha) dX3_add_31 ?_
    refine b_iconst (v := 1) dX3_add_34 (by decide +kernel) ?_
    refine b_iadd dX3_add_35 ?_
    refine b_putI lf_X3_18 lp_3_2 (heard_c ha) dX3_add_36 ?_
    refine b_vret rfl (by decide) dX3_add_39 ?_
    refine hq _ (by grind [up2, FR]) (by grind [up2]) ?_ (by grind [up2]) (by grind [up2]) (by grind [up2]) (by grind [up2])
    rw [up2_s, up2_a _ _ _ _ (by omega), up2_a _ _ _ _ (by omega), hn]
    exact nI_1 n
def mxN (f : Nat → Int32) (z : Int32) : Nat → Int32
  | 0 => z
  | n + 1 => if mxN f z n < f n then f n else mxN f z n
theorem c_X3_furthest {E : En} {d : Nat} {Q : QT} {X : XT} {g : G2} {a n : Nat} (ha : is_heard a) (hn : g a 2 = nI n) (h8 : n ≤ 8) (hq : Q (some (.int (mxN (g (a + 1)) (-1) n))) g) : M E md_X3_furthest (d + 1) [.ref a] g Q X := by
  refine M.of _ rfl rfl (Nat.le_of_ble_eq_true rfl) ?_
  have L : ∀ i, i ≤ n → B E md_X3_furthest (d + 1) Q X 4 [(0, .ref a), (1, .int (mxN (g (a + 1)) (-1) i)), (2, .int (nI i))] [] g 0 := by
    refine lp_up (fun i hi ih => ?_)
    refine b_iload_n dX3_furthest_4 rfl rfl ?_
    refine b_aload_n dX3_furthest_5 rfl rfl ?_
    refine b_getI lf_X3_18 (heard_c ha) dX3_furthest_6 ?_
    refine b_icmp_ge (tgt := 29) dX3_furthest_9 (by decide) (fun h9 => ?_) (fun h9 => ?_)
    · have e : i = n := by have := (nI_leI (by omega) (by omega)).mp (hn ▸ h9); omega
      subst e
      refine b_iload_n dX3_furthest_29 rfl rfl ?_
      refine b_iret rfl (by decide) dX3_furthest_30 ?_
      exact hq
    · have e : i < n := by
        rcases Nat.lt_or_ge i n with q | q
        · exact q
        · exact absurd (hn ▸ (nI_leI (by omega) (by omega)).mpr q) h9
      refine b_iload_n dX3_furthest_12 rfl rfl ?_
      refine b_aload_n dX3_furthest_13 rfl rfl ?_
      refine b_getR (b := (a + 1)) lf_X3_9 (heard_c ha) (heard_r0 ha) dX3_furthest_14 ?_
      refine b_iload_n dX3_furthest_17 rfl rfl ?_
      refine b_ildN (j := i) dX3_furthest_18 (rfl) (by rw [(heard_n1 ha)]; omega) ?_
      refine b_max dX3_furthest_19 lc_X3_22 (by omega) (by decide) (by decide) ?_
      refine b_istore_n (lv' := [(0, _), (1, _), (2, _)]) dX3_furthest_22 rfl (by decide) rfl rfl ?_
      refine b_incN (j := i) (lv' := [(0, _), (1, _), (2, _)]) dX3_furthest_23 rfl rfl (by decide) rfl rfl ?_
      refine b_goto (tgt := 4) dX3_furthest_26 (by decide) ?_
      exact ih (i + 1) (by omega) (by omega)
  refine b_iconst (v := (-1)) dX3_furthest_0 (by decide +kernel) ?_
  refine b_istore_n (lv' := [(0, _), (1, _)]) dX3_furthest_1 rfl (by decide) rfl rfl ?_
  refine b_iconst (v := 0) dX3_furthest_2 (by decide +kernel) ?_
  refine b_istore_n (lv' := [(0, _), (1, _), (2, _)]) dX3_furthest_3 rfl (by decide) rfl rfl ?_
  exact L 0 (Nat.zero_le _)
theorem c_X3_allIn {E : En} {d : Nat} {Q : QT} {X : XT} {g : G2} {a b n t : Nat} (ha : is_heard a) (hb : is_life b) (hn : g a 2 = nI n) (h8 : n ≤ 8) (ht : g b 3 = nI t) (h400 : t ≤ 400) (hp : ∀ i, i < n → 0 ≤ (g (a + 1) i).toInt) (hq : Q (some (.int (b2i (!anyN (fun i => !(decide (g (a + 1) i < nI t) && g (b + 1) (g (a + 1) i).toNatClampNeg == g (a + 2) i)) n)))) g) : M E md_X3_allIn d [.ref a, .ref b] g Q X := by
  refine M.of _ rfl rfl (Nat.le_of_ble_eq_true rfl) ?_
  have L : ∀ i, i ≤ n → anyN (fun i => !(decide (g (a + 1) i < nI t) && g (b + 1) (g (a + 1) i).toNatClampNeg == g (a + 2) i)) i = false → B E md_X3_allIn d Q X 2 [(0, .ref a), (1, .ref b), (2, .int (nI i))] [] g 0 := by
    refine lp_up (fun i hi ih hF => ?_)
    refine b_iload_n dX3_allIn_2 rfl rfl ?_
    refine b_aload_n dX3_allIn_3 rfl rfl ?_
    refine b_getI lf_X3_18 (heard_c ha) dX3_allIn_4 ?_
    refine b_icmp_ge (tgt := 51) dX3_allIn_7 (by decide) (fun h7 => ?_) (fun h7 => ?_)
    · have e : i = n := by have := (nI_leI (by omega) (by omega)).mp (hn ▸ h7); omega
      subst e
      refine b_iconst (v := 1) dX3_allIn_51 (by decide +kernel) ?_
      refine b_zret (Or.inr rfl) rfl (by decide) dX3_allIn_52 ?_
      rw [hF] at hq
      exact hq
    · have e : i < n := by
        rcases Nat.lt_or_ge i n with q | q
        · exact q
        · exact absurd (hn ▸ (nI_leI (by omega) (by omega)).mpr q) h7
      refine b_aload_n dX3_allIn_10 rfl rfl ?_
      refine b_getR (b := (a + 1)) lf_X3_9 (heard_c ha) (heard_r0 ha) dX3_allIn_11 ?_
      refine b_iload_n dX3_allIn_14 rfl rfl ?_
      refine b_ildN (j := i) dX3_allIn_15 (rfl) (by rw [(heard_n1 ha)]; omega) ?_
      refine b_aload_n dX3_allIn_16 rfl rfl ?_
      refine b_getI lf_X3_28 (life_c hb) dX3_allIn_17 ?_
      refine b_icmp_ge (tgt := 43) dX3_allIn_20 (by decide) (fun h20 => ?_) (fun h20 => ?_)
      · rw [ht] at h20
        have h20b : ¬ g (a + 1) i < nI t := Int32.not_lt.mpr h20
        refine b_iconst (v := 0) dX3_allIn_43 (by decide +kernel) ?_
        refine b_zret (Or.inl rfl) rfl (by decide) dX3_allIn_44 ?_
        rw [anyN_t (P := (fun i => !(decide (g (a + 1) i < nI t) && g (b + 1) (g (a + 1) i).toNatClampNeg == g (a + 2) i))) e (by grind)] at hq
        exact hq
      · rw [ht] at h20
        have h20b : g (a + 1) i < nI t := Int32.not_le.mp h20
        have hz := hp i (by omega)
        refine b_aload_n dX3_allIn_23 rfl rfl ?_
        refine b_getR (b := (b + 1)) lf_X3_33 (life_c hb) (life_r0 hb) dX3_allIn_24 ?_
        refine b_aload_n dX3_allIn_27 rfl rfl ?_
        refine b_getR (b := (a + 1)) lf_X3_9 (heard_c ha) (heard_r0 ha) dX3_allIn_28 ?_
        refine b_iload_n dX3_allIn_31 rfl rfl ?_
        refine b_ildN (j := i) dX3_allIn_32 (rfl) (by rw [(heard_n1 ha)]; omega) ?_
        refine b_iald dX3_allIn_33 ?_ ?_
        · rw [show iln (b + 1) = _ from (life_n1 hb)]; exact vp_in_iff.mpr ⟨hz, by have := Int32.lt_iff_toInt_lt.mp h20b; rw [nI_toInt (by omega)] at this; omega⟩
        refine b_aload_n dX3_allIn_34 rfl rfl ?_
        refine b_getR (b := (a + 2)) lf_X3_15 (heard_c ha) (heard_r1 ha) dX3_allIn_35 ?_
        refine b_iload_n dX3_allIn_38 rfl rfl ?_
        refine b_ildN (j := i) dX3_allIn_39 (rfl) (by rw [(heard_n2 ha)]; omega) ?_
        refine b_icmp_eq (tgt := 45) dX3_allIn_40 (by decide) (fun h40 => ?_) (fun h40 => ?_)
        · refine b_incN (j := i) (lv' := [(0, _), (1, _), (2, _)]) dX3_allIn_45 rfl rfl (by decide) rfl rfl ?_
          refine b_goto (tgt := 2) dX3_allIn_48 (by decide) ?_
          exact ih (i + 1) (by omega) (by omega) (anyN_f hF (by grind))
        · refine b_iconst (v := 0) dX3_allIn_43 (by decide +kernel) ?_
          refine b_zret (Or.inl rfl) rfl (by decide) dX3_allIn_44 ?_
          rw [anyN_t (P := (fun i => !(decide (g (a + 1) i < nI t) && g (b + 1) (g (a + 1) i).toNatClampNeg == g (a + 2) i))) e (by grind)] at hq
          exact hq
  refine b_iconst (v := 0) dX3_allIn_0 (by decide +kernel) ?_
  refine b_istore_n (lv' := [(0, _), (1, _), (2, _)]) dX3_allIn_1 rfl (by decide) rfl rfl ?_
  exact L 0 (Nat.zero_le _) rfl
theorem c_X3_copy {E : En} {d : Nat} {Q : QT} {X : XT} {g : G2} {a b n : Nat} (ha : is_heard a) (hb : is_heard b) (hab : a ≠ b) (hn : g b 2 = nI n) (h6 : n ≤ 8) (hq : ∀ g2, FR [a, a + 1, a + 2] g g2 → (∀ j, j ≠ 2 → g2 a j = g a j) → g2 a 2 = nI n → (∀ j, j < n → g2 (a + 1) j = g (b + 1) j) → (∀ j, j < n → g2 (a + 2) j = g (b + 2) j) → Q none g2) : M E md_X3_copy (d + 1) [.ref a, .ref b] g Q X := by
  refine M.of _ rfl rfl (Nat.le_of_ble_eq_true rfl) ?_
  refine b_aload_n dX3_copy_0 rfl rfl ?_
  refine b_aload_n dX3_copy_1 rfl rfl ?_
  refine b_getI lf_X3_18 (heard_c hb) dX3_copy_2 ?_
  refine b_putI lf_X3_18 lp_3_2 (heard_c ha) dX3_copy_5 ?_
  refine b_aload_n dX3_copy_8 rfl rfl ?_
  refine b_getR (b := (b + 1)) lf_X3_9 (heard_c hb) (heard_r0 hb) dX3_copy_9 ?_
  refine b_iconst (v := 0) dX3_copy_12 (by decide +kernel) ?_
  refine b_aload_n dX3_copy_13 rfl rfl ?_
  refine b_getR (b := (a + 1)) lf_X3_9 (heard_c ha) (heard_r0 ha) dX3_copy_14 ?_
  refine b_iconst (v := 0) dX3_copy_17 (by decide +kernel) ?_
  refine b_aload_n dX3_copy_18 rfl rfl ?_
  refine b_getI lf_X3_18 (heard_c ha) dX3_copy_19 ?_
  refine b_copyi dX3_copy_22 lc_X3_34 (by omega) (by decide) ?_ ?_ ?_ ?_ ?_ ?_ ?_ (by decide) ?_
  · exact nI_pos (n := 0) (by omega)
  · exact nI_pos (n := 0) (by omega)
  · rw [up2_s, hn]; exact nI_pos (by omega)
  · rw [up2_s, hn, nI_clamp (by omega)]; show (0 : Nat) + n ≤ _; rw [heard_n1 hb]; omega
  · rw [up2_s, hn, nI_clamp (by omega)]; show (0 : Nat) + n ≤ _; rw [heard_n1 ha]; omega
  · rw [heard_n1 hb]; decide
  · rw [heard_n1 ha]; decide
  refine b_aload_n dX3_copy_25 rfl rfl ?_
  refine b_getR (b := (b + 2)) lf_X3_15 (heard_c hb) (heard_r1 hb) dX3_copy_26 ?_
  refine b_iconst (v := 0) dX3_copy_29 (by decide +kernel) ?_
  refine b_aload_n dX3_copy_30 rfl rfl ?_
  refine b_getR (b := (a + 2)) lf_X3_15 (heard_c ha) (heard_r1 ha) dX3_copy_31 ?_
  refine b_iconst (v := 0) dX3_copy_34 (by decide +kernel) ?_
  refine b_aload_n dX3_copy_35 rfl rfl ?_
  refine b_getI lf_X3_18 (heard_c ha) dX3_copy_36 ?_
  refine b_copyi dX3_copy_39 lc_X3_34 (by omega) (by decide) ?_ ?_ ?_ ?_ ?_ ?_ ?_ (by decide) ?_
  · exact nI_pos (n := 0) (by omega)
  · exact nI_pos (n := 0) (by omega)
  · rw [upA_a _ _ _ (by omega), up2_s, hn]; exact nI_pos (by omega)
  · rw [upA_a _ _ _ (by omega), up2_s, hn, nI_clamp (by omega)]; show (0 : Nat) + n ≤ _; rw [heard_n2 hb]; omega
  · rw [upA_a _ _ _ (by omega), up2_s, hn, nI_clamp (by omega)]; show (0 : Nat) + n ≤ _; rw [heard_n2 ha]; omega
  · rw [heard_n2 hb]; decide
  · rw [heard_n2 ha]; decide
  refine b_vret rfl (by decide) dX3_copy_42 ?_
  have hb9 : b ≠ a + 1 ∧ b ≠ a + 2 ∧ b + 1 ≠ a ∧ b + 1 ≠ a + 1 ∧ b + 2 ≠ a ∧ b + 2 ≠ a + 1 ∧ b + 2 ≠ a + 2 ∧ b + 1 ≠ a + 2 := by unfold is_heard at ha hb; omega
  have e0 : (upA (up2 g a 2 (g b 2)) (a + 1) (va_cpy (up2 g a 2 (g b 2) (b + 1)) (up2 g a 2 (g b 2) (a + 1)) (0 : Int32).toNatClampNeg (0 : Int32).toNatClampNeg (up2 g a 2 (g b 2) a 2).toNatClampNeg)) a 2 = nI n := by rw [upA_a _ _ _ (by omega), up2_s, hn]
  refine hq _ (fun b hb => by simp only [List.mem_cons, List.not_mem_nil, or_false, not_or] at hb; rw [upA_a _ _ _ hb.2.2, upA_a _ _ _ hb.2.1, up2_f _ _ _ _ hb.1]) (fun j hj => by rw [upA_a _ _ _ (by omega), upA_a _ _ _ (by omega), up2_k _ _ _ _ hj]) (by rw [upA_a _ _ _ (by omega)]; exact e0) (fun j hj => ?_) (fun j hj => ?_)
  · rw [upA_a _ _ _ (by omega), upA_s, up2_s, hn, nI_clamp (by omega), up2_f _ _ _ _ (by omega), show (0 : Int32).toNatClampNeg = 0 from rfl, va_cpy, if_pos (by omega)]; simp
  · rw [upA_s, e0, nI_clamp (by omega), upA_a _ _ _ (by omega), up2_f _ _ _ _ (by omega), show (0 : Int32).toNatClampNeg = 0 from rfl, va_cpy, if_pos (by omega)]; simp
theorem c_X10_hasBirthday {E : En} {d : Nat} {Q : QT} {X : XT} {g : G2} {a n : Nat} {p : Int32} (ha : is_town a) (hn : g a 0 = nI n) (h8 : n ≤ 8) (hq : Q (some (.int (b2i (anyN (fun i => g (a + 3) i == p) n)))) g) : M E md_X10_hasBirthday d [.ref a, .int p] g Q X := by
  refine M.of _ rfl rfl (Nat.le_of_ble_eq_true rfl) ?_
  have L : ∀ i, i ≤ n → anyN (fun i => g (a + 3) i == p) i = false → B E md_X10_hasBirthday d Q X 2 [(0, .ref a), (1, .int p), (2, .int (nI i))] [] g 0 := by
    refine lp_up (fun i hi ih hF => ?_)
    refine b_iload_n dX10_hasBirthday_2 rfl rfl ?_
    refine b_aload_n dX10_hasBirthday_3 rfl rfl ?_
    refine b_getI lf_X10_9 (town_c ha) dX10_hasBirthday_4 ?_
    refine b_icmp_ge (tgt := 28) dX10_hasBirthday_7 (by decide) (fun h7 => ?_) (fun h7 => ?_)
    · have e : i = n := by have := (nI_leI (by omega) (by omega)).mp (hn ▸ h7); omega
      subst e
      refine b_iconst (v := 0) dX10_hasBirthday_28 (by decide +kernel) ?_
      refine b_zret (Or.inl rfl) rfl (by decide) dX10_hasBirthday_29 ?_
      rw [hF] at hq
      exact hq
    · have e : i < n := by
        rcases Nat.lt_or_ge i n with q | q
        · exact q
        · exact absurd (hn ▸ (nI_leI (by omega) (by omega)).mpr q) h7
      refine b_aload_n dX10_hasBirthday_10 rfl rfl ?_
      refine b_getR (b := (a + 3)) lf_X10_22 (town_c ha) (town_r3 ha) dX10_hasBirthday_11 ?_
      refine b_iload_n dX10_hasBirthday_14 rfl rfl ?_
      refine b_ildN (j := i) dX10_hasBirthday_15 (rfl) (by rw [(town_n3 ha)]; omega) ?_
      refine b_iload_n dX10_hasBirthday_16 rfl rfl ?_
      refine b_icmp_ne (tgt := 22) dX10_hasBirthday_17 (by decide) (fun h17 => ?_) (fun h17 => ?_)
      · refine b_incN (j := i) (lv' := [(0, _), (1, _), (2, _)]) dX10_hasBirthday_22 rfl rfl (by decide) rfl rfl ?_
        refine b_goto (tgt := 2) dX10_hasBirthday_25 (by decide) ?_
        exact ih (i + 1) (by omega) (by omega) (anyN_f hF (by grind))
      · refine b_iconst (v := 1) dX10_hasBirthday_20 (by decide +kernel) ?_
        refine b_zret (Or.inr rfl) rfl (by decide) dX10_hasBirthday_21 ?_
        rw [anyN_t (P := fun i => g (a + 3) i == p) e (by grind)] at hq
        exact hq
  refine b_iconst (v := 0) dX10_hasBirthday_0 (by decide +kernel) ?_
  refine b_istore_n (lv' := [(0, _), (1, _), (2, _)]) dX10_hasBirthday_1 rfl (by decide) rfl rfl ?_
  exact L 0 (Nat.zero_le _) rfl
theorem c_X10_rank {E : En} {d : Nat} {Q : QT} {X : XT} {g : G2} {a n p : Nat} (ha : is_town a) (hn : g a 0 = nI n) (h8 : n ≤ 8) (hp : p < 8) (hq : Q (some (.int (nI (cntN (fun i => decide (g (a + 3) i < g (a + 3) p)) n)))) g) : M E md_X10_rank d [.ref a, .int (nI p)] g Q X := by
  refine M.of _ rfl rfl (Nat.le_of_ble_eq_true rfl) ?_
  have L : ∀ i, i ≤ n → B E md_X10_rank d Q X 4 [(0, .ref a), (1, .int (nI p)), (2, .int (nI (cntN (fun i => decide (g (a + 3) i < g (a + 3) p)) i))), (3, .int (nI i))] [] g 0 := by
    refine lp_up (fun i hi ih => ?_)
    refine b_iload_n dX10_rank_4 rfl rfl ?_
    refine b_aload_n dX10_rank_5 rfl rfl ?_
    refine b_getI lf_X10_9 (town_c ha) dX10_rank_6 ?_
    refine b_icmp_ge (tgt := 36) dX10_rank_9 (by decide) (fun h9 => ?_) (fun h9 => ?_)
    · have e : i = n := by have := (nI_leI (by omega) (by omega)).mp (hn ▸ h9); omega
      subst e
      refine b_iload_n dX10_rank_36 rfl rfl ?_
      refine b_iret rfl (by decide) dX10_rank_37 ?_
      exact hq
    · have e : i < n := by
        rcases Nat.lt_or_ge i n with q | q
        · exact q
        · exact absurd (hn ▸ (nI_leI (by omega) (by omega)).mpr q) h9
      refine b_aload_n dX10_rank_12 rfl rfl ?_
      refine b_getR (b := (a + 3)) lf_X10_22 (town_c ha) (town_r3 ha) dX10_rank_13 ?_
      refine b_iload_n dX10_rank_16 rfl rfl ?_
      refine b_ildN (j := i) dX10_rank_17 (rfl) (by rw [(town_n3 ha)]; omega) ?_
      refine b_aload_n dX10_rank_18 rfl rfl ?_
      refine b_getR (b := (a + 3)) lf_X10_22 (town_c ha) (town_r3 ha) dX10_rank_19 ?_
      refine b_iload_n dX10_rank_22 rfl rfl ?_
      refine b_ildN (j := p) dX10_rank_23 (rfl) (by rw [(town_n3 ha)]; omega) ?_
      refine b_icmp_ge (tgt := 30) dX10_rank_24 (by decide) (fun h24 => ?_) (fun h24 => ?_)
      · have h24b := Int32.not_lt.mpr h24
        refine b_incN (j := i) (lv' := [(0, _), (1, _), (2, _), (3, _)]) dX10_rank_30 rfl rfl (by decide) rfl rfl ?_
        refine b_goto (tgt := 4) dX10_rank_33 (by decide) ?_
        have ih2 := ih (i + 1) (by omega) (by omega)
        rw [cntN] at ih2
        first
          | (rw [if_pos (by grind)] at ih2; exact ih2)
          | (rw [if_neg (by grind), Nat.add_zero] at ih2; exact ih2)
      · have h24b := Int32.not_le.mp h24
        refine b_incN (j := cntN (fun i => decide (g (a + 3) i < g (a + 3) p)) i) (lv' := [(0, _), (1, _), (2, _), (3, _)]) dX10_rank_27 rfl rfl (by decide) rfl rfl ?_
        refine b_incN (j := i) (lv' := [(0, _), (1, _), (2, _), (3, _)]) dX10_rank_30 rfl rfl (by decide) rfl rfl ?_
        refine b_goto (tgt := 4) dX10_rank_33 (by decide) ?_
        have ih2 := ih (i + 1) (by omega) (by omega)
        rw [cntN] at ih2
        first
          | (rw [if_pos (by grind)] at ih2; exact ih2)
          | (rw [if_neg (by grind), Nat.add_zero] at ih2; exact ih2)
  refine b_iconst (v := 0) dX10_rank_0 (by decide +kernel) ?_
  refine b_istore_n (lv' := [(0, _), (1, _), (2, _)]) dX10_rank_1 rfl (by decide) rfl rfl ?_
  refine b_iconst (v := 0) dX10_rank_2 (by decide +kernel) ?_
  refine b_istore_n (lv' := [(0, _), (1, _), (2, _), (3, _)]) dX10_rank_3 rfl (by decide) rfl rfl ?_
  exact L 0 (Nat.zero_le _)
theorem c_X10_clear {E : En} {d : Nat} {Q : QT} {X : XT} {g : G2} {a : Nat} (ha : is_town a) (hq : ∀ g2, FR [a, a + 6, a + 10] g g2 → g2 a 0 = 0 → g2 a 6 = 0 → g2 a 9 = 0 → (∀ j, j ≠ 0 → j ≠ 6 → j ≠ 9 → g2 a j = g a j) → g2 (a + 6) 2 = 0 → (∀ j, j ≠ 2 → g2 (a + 6) j = g (a + 6) j) → g2 (a + 10) 1 = 0 → (∀ j, j ≠ 1 → g2 (a + 10) j = g (a + 10) j) → Q none g2) : M E md_X10_clear d [.ref a] g Q X := by
  refine M.of _ rfl rfl (Nat.le_of_ble_eq_true rfl) ?_
  refine b_aload_n dX10_clear_0 rfl rfl ?_
  refine b_iconst (v := 0) dX10_clear_1 (by decide +kernel) ?_
  refine b_putI lf_X10_9 lp_10_0 (town_c ha) dX10_clear_2 ?_
  refine b_aload_n dX10_clear_5 rfl rfl ?_
  refine b_iconst (v := 0) dX10_clear_6 (by decide +kernel) ?_
  refine b_putI lf_X10_31 lp_10_6 (town_c ha) dX10_clear_7 ?_
  refine b_aload_n dX10_clear_10 rfl rfl ?_
  refine b_getR (b := (a + 6)) lf_X10_37 (town_c ha) (town_r7 ha) dX10_clear_11 ?_
  refine b_iconst (v := 0) dX10_clear_14 (by decide +kernel) ?_
  refine b_putI lf_X10_54 lp_1_2 (feuds_c (town_feuds ha)) dX10_clear_15 ?_
  refine b_aload_n dX10_clear_18 rfl rfl ?_
  refine b_iconst (v := 0) dX10_clear_19 (by decide +kernel) ?_
  refine b_putI lf_X10_44 lp_10_9 (town_c ha) dX10_clear_20 ?_
  refine b_aload_n dX10_clear_23 rfl rfl ?_
  refine b_getR (b := (a + 10)) lf_X10_50 (town_c ha) (town_r10 ha) dX10_clear_24 ?_
  refine b_iconst (v := 0) dX10_clear_27 (by decide +kernel) ?_
  refine b_putI lf_X10_57 lp_8_1 (rule_c (town_rule ha)) dX10_clear_28 ?_
  refine b_vret rfl (by decide) dX10_clear_31 ?_
  have ht : a + 6 ≠ a ∧ a + 10 ≠ a := by omega
  exact hq _ (by grind [up2, FR]) (by grind [up2]) (by grind [up2]) (by grind [up2]) (by grind [up2]) (by grind [up2]) (by grind [up2]) (by grind [up2]) (by grind [up2])
theorem c_X10_add {E : En} {d : Nat} {Q : QT} {X : XT} {g : G2} {a n : Nat} {k h b s : Int32} (ha : is_town a) (hn : g a 0 = nI n) (h7 : n < 8) (hq : ∀ g2, FR [a, a + 1, a + 2, a + 3, a + 4] g g2 → (∀ j, j ≠ 0 → g2 a j = g a j) → g2 a 0 = nI (n + 1) → (∀ j, j ≠ n → g2 (a + 1) j = g (a + 1) j) → g2 (a + 1) n = k → (∀ j, j ≠ n → g2 (a + 2) j = g (a + 2) j) → g2 (a + 2) n = h → (∀ j, j ≠ n → g2 (a + 3) j = g (a + 3) j) → g2 (a + 3) n = b → (∀ j, j ≠ n → g2 (a + 4) j = g (a + 4) j) → g2 (a + 4) n = s → Q none g2) : M E md_X10_add d [.ref a, .int k, .int h, .int b, .int s] g Q X := by
  refine M.of _ rfl rfl (Nat.le_of_ble_eq_true rfl) ?_
  refine b_aload_n dX10_add_0 rfl rfl ?_
  refine b_getI lf_X10_9 (town_c ha) dX10_add_1 ?_
  refine b_bipush (v := 8) dX10_add_4 (by decide +kernel) ?_
  refine b_icmp_ge (tgt := 60) dX10_add_6 (by decide) (fun h6 => ?_) (fun h6 => ?_)
  · rw [hn] at h6
    exact absurd ((nI_leI (a := 8) (by decide) (by omega)).mp h6) (by omega)
  · refine b_aload_n dX10_add_9 rfl rfl ?_
    refine b_getR (b := (a + 1)) lf_X10_15 (town_c ha) (town_r1 ha) dX10_add_10 ?_
    refine b_aload_n dX10_add_13 rfl rfl ?_
    refine b_getI lf_X10_9 (town_c ha) dX10_add_14 ?_
    refine b_iload_n dX10_add_17 rfl rfl ?_
    refine b_istN (j := n) dX10_add_18 (by exact hn) (by rw [(town_n1 ha)]; omega) ?_
    refine b_aload_n dX10_add_19 rfl rfl ?_
    refine b_getR (b := (a + 2)) lf_X10_19 (town_c ha) (town_r2 ha) dX10_add_20 ?_
    refine b_aload_n dX10_add_23 rfl rfl ?_
    refine b_getI lf_X10_9 (town_c ha) dX10_add_24 ?_
    refine b_iload_n dX10_add_27 rfl rfl ?_
    refine b_istN (j := n) dX10_add_28 (by rw [up2_a _ _ _ _ (by omega)]; exact hn) (by rw [(town_n2 ha)]; omega) ?_
    refine b_aload_n dX10_add_29 rfl rfl ?_
    refine b_getR (b := (a + 3)) lf_X10_22 (town_c ha) (town_r3 ha) dX10_add_30 ?_
    refine b_aload_n dX10_add_33 rfl rfl ?_
    refine b_getI lf_X10_9 (town_c ha) dX10_add_34 ?_
    refine b_iload_n dX10_add_37 rfl rfl ?_
    refine b_istN (j := n) dX10_add_38 (by rw [up2_a _ _ _ _ (by omega)]; rw [up2_a _ _ _ _ (by omega)]; exact hn) (by rw [(town_n3 ha)]; omega) ?_
    refine b_aload_n dX10_add_39 rfl rfl ?_
    refine b_getR (b := (a + 4)) lf_X10_25 (town_c ha) (town_r4 ha) dX10_add_40 ?_
    refine b_aload_n dX10_add_43 rfl rfl ?_
    refine b_getI lf_X10_9 (town_c ha) dX10_add_44 ?_
    refine b_iload dX10_add_47 rfl ?_
    refine b_istN (j := n) dX10_add_49 (by rw [up2_a _ _ _ _ (by omega)]; rw [up2_a _ _ _ _ (by omega)]; rw [up2_a _ _ _ _ (by omega)]; exact hn) (by rw [(town_n4 ha)]; omega) ?_
    refine b_aload_n dX10_add_50 rfl rfl ?_
    refine b_dup dX10_add_51 rfl ?_
    refine b_getI lf_X10_9 (town_c ha) dX10_add_52 ?_
    refine b_iconst (v := 1) dX10_add_55 (by decide +kernel) ?_
    refine b_iadd dX10_add_56 ?_
    refine b_putI lf_X10_9 lp_10_0 (town_c ha) dX10_add_57 ?_
    refine b_vret rfl (by decide) dX10_add_60 ?_
    refine hq _ (by grind [up2, FR]) (by grind [up2]) ?_ (by grind [up2]) (by grind [up2]) (by grind [up2]) (by grind [up2]) (by grind [up2]) (by grind [up2]) (by grind [up2]) (by grind [up2])
    rw [up2_s, up2_a _ _ _ _ (by omega), up2_a _ _ _ _ (by omega), up2_a _ _ _ _ (by omega), up2_a _ _ _ _ (by omega), hn]
    exact nI_1 n
