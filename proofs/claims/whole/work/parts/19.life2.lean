theorem b2i_0 {b : Bool} (h : b2i b = 0) : b = false := by cases b with | false => rfl | true => exact absurd h (by decide)
theorem b2i_1 {b : Bool} (h : ¬ b2i b = 0) : b = true := by cases b with | false => exact absurd rfl h | true => rfl
/-- the set with the one bit -/
def sbI (p : Int32) : Int32 := 1 <<< (p &&& 31)
theorem c_X5_wed {E : En} {d : Nat} {Q : QT} {X : XT} {g : G2} {a p o : Nat} (ha : is_life a) (hp : p < 8) (ho : o < 8) (hq : ∀ g2, FR [a, a + 4] g g2 → (∀ j, j ≠ 5 → j ≠ 8 → g2 a j = g a j) → g2 a 5 = rmI (g a 5 + 7) 12 → g2 a 8 = g a 8 ||| (sbI (nI p) ||| sbI (nI o)) → (∀ j, j ≠ o → g2 (a + 4) j = g (a + 4) j) → g2 (a + 4) o = g (a + 4) p → Q none g2) : M E md_X5_wed d [.ref a, .int (nI p), .int (nI o)] g Q X := by
  refine M.of _ rfl rfl (Nat.le_of_ble_eq_true rfl) ?_
  refine b_aload_n dX5_wed_0 rfl rfl ?_
  refine b_aload_n dX5_wed_1 rfl rfl ?_
  refine b_getI lf_X5_28 (life_c ha) dX5_wed_2 ?_
  refine b_bipush (v := 7) dX5_wed_5 (by decide +kernel) ?_
  refine b_iadd dX5_wed_7 ?_
  refine b_bipush (v := 12) dX5_wed_8 (by decide +kernel) ?_
  refine b_irem dX5_wed_10 (by decide +kernel) ?_
  refine b_putI lf_X5_28 lp_5_5 (life_c ha) dX5_wed_11 ?_
  refine b_aload_n dX5_wed_14 rfl rfl ?_
  refine b_getR (b := (a + 4)) lf_X5_46 (life_c ha) (life_r11 ha) dX5_wed_15 ?_
  refine b_iload_n dX5_wed_18 rfl rfl ?_
  refine b_aload_n dX5_wed_19 rfl rfl ?_
  refine b_getR (b := (a + 4)) lf_X5_46 (life_c ha) (life_r11 ha) dX5_wed_20 ?_
  refine b_iload_n dX5_wed_23 rfl rfl ?_
  refine b_ildN (j := p) dX5_wed_24 (rfl) (by rw [(life_n4 ha)]; omega) ?_
  refine b_istN (j := o) dX5_wed_25 (rfl) (by rw [(life_n4 ha)]; omega) ?_
  refine b_aload_n dX5_wed_26 rfl rfl ?_
  refine b_dup dX5_wed_27 rfl ?_
  refine b_getI lf_X5_37 (life_c ha) dX5_wed_28 ?_
  refine b_iconst (v := 1) dX5_wed_31 (by decide +kernel) ?_
  refine b_iload_n dX5_wed_32 rfl rfl ?_
  refine b_ishl dX5_wed_33 ?_
  refine b_iconst (v := 1) dX5_wed_34 (by decide +kernel) ?_
  refine b_iload_n dX5_wed_35 rfl rfl ?_
  refine b_ishl dX5_wed_36 ?_
  refine b_ior dX5_wed_37 ?_
  refine b_ior dX5_wed_38 ?_
  refine b_putI lf_X5_37 lp_5_8 (life_c ha) dX5_wed_39 ?_
  refine b_vret rfl (by decide) dX5_wed_42 ?_
  refine hq _ (by grind [up2, FR]) (by grind [up2]) ?_ ?_ (by grind [up2]) (by grind [up2])
  · rw [up2_k _ _ _ _ (by decide), up2_a _ _ _ _ (by omega), up2_s]; rfl
  · rw [up2_s, up2_a _ _ _ _ (by omega), up2_k _ _ _ _ (by decide)]; rfl
theorem c_X5_part {E : En} {d : Nat} {Q : QT} {X : XT} {g : G2} {a p o : Nat} {x : Int32} (ha : is_life a) (hp : p < 8) (ho : o < 8) (hq : ∀ g2, FR [a, a + 4] g g2 → (∀ j, j ≠ 5 → j ≠ 8 → g2 a j = g a j) → g2 a 5 = rmI (g a 5 + 12 - 7) 12 → g2 a 8 = g a 8 &&& ((sbI (nI p) ||| sbI (nI o)) ^^^ (-1)) → (∀ j, j ≠ o → g2 (a + 4) j = g (a + 4) j) → g2 (a + 4) o = x → Q none g2) : M E md_X5_part d [.ref a, .int (nI p), .int (nI o), .int x] g Q X := by
  refine M.of _ rfl rfl (Nat.le_of_ble_eq_true rfl) ?_
  refine b_aload_n dX5_part_0 rfl rfl ?_
  refine b_aload_n dX5_part_1 rfl rfl ?_
  refine b_getI lf_X5_28 (life_c ha) dX5_part_2 ?_
  refine b_bipush (v := 12) dX5_part_5 (by decide +kernel) ?_
  refine b_iadd dX5_part_7 ?_
  refine b_bipush (v := 7) dX5_part_8 (by decide +kernel) ?_
  refine b_isub dX5_part_10 ?_
  refine b_bipush (v := 12) dX5_part_11 (by decide +kernel) ?_
  refine b_irem dX5_part_13 (by decide +kernel) ?_
  refine b_putI lf_X5_28 lp_5_5 (life_c ha) dX5_part_14 ?_
  refine b_aload_n dX5_part_17 rfl rfl ?_
  refine b_getR (b := (a + 4)) lf_X5_46 (life_c ha) (life_r11 ha) dX5_part_18 ?_
  refine b_iload_n dX5_part_21 rfl rfl ?_
  refine b_iload_n dX5_part_22 rfl rfl ?_
  refine b_istN (j := o) dX5_part_23 (rfl) (by rw [(life_n4 ha)]; omega) ?_
  refine b_aload_n dX5_part_24 rfl rfl ?_
  refine b_dup dX5_part_25 rfl ?_
  refine b_getI lf_X5_37 (life_c ha) dX5_part_26 ?_
  refine b_iconst (v := 1) dX5_part_29 (by decide +kernel) ?_
  refine b_iload_n dX5_part_30 rfl rfl ?_
  refine b_ishl dX5_part_31 ?_
  refine b_iconst (v := 1) dX5_part_32 (by decide +kernel) ?_
  refine b_iload_n dX5_part_33 rfl rfl ?_
  refine b_ishl dX5_part_34 ?_
  refine b_ior dX5_part_35 ?_
  refine b_iconst (v := (-1)) dX5_part_36 (by decide +kernel) ?_
  refine b_ixor dX5_part_37 ?_
  refine b_iand dX5_part_38 ?_
  refine b_putI lf_X5_37 lp_5_8 (life_c ha) dX5_part_39 ?_
  refine b_vret rfl (by decide) dX5_part_42 ?_
  refine hq _ (by grind [up2, FR]) (by grind [up2]) ?_ ?_ (by grind [up2]) (by grind [up2])
  · rw [up2_k _ _ _ _ (by decide), up2_a _ _ _ _ (by omega), up2_s]; rfl
  · rw [up2_s, up2_a _ _ _ _ (by omega), up2_k _ _ _ _ (by decide)]; rfl
def mmB (m : Int32) (ho : Nat → Int32) (p o : Nat) : Bool := btI m (nI p) == 0 && btI m (nI o) == 0 && !(ho p == ho o)
theorem c_X5_mayMarry {E : En} {d : Nat} {Q : QT} {X : XT} {g : G2} {a p o : Nat} (ha : is_life a) (hp : p < 8) (ho : o < 8) (hq : Q (some (.int (b2i (mmB (g a 6 ||| g a 7 ||| g a 8) (g (a + 4)) p o)))) g) : M E md_X5_mayMarry (d + 1) [.ref a, .int (nI p), .int (nI o)] g Q X := by
  refine M.of _ rfl rfl (Nat.le_of_ble_eq_true rfl) ?_
  refine b_aload_n dX5_mayMarry_0 rfl rfl ?_
  refine b_getI lf_X5_31 (life_c ha) dX5_mayMarry_1 ?_
  refine b_aload_n dX5_mayMarry_4 rfl rfl ?_
  refine b_getI lf_X5_34 (life_c ha) dX5_mayMarry_5 ?_
  refine b_ior dX5_mayMarry_8 ?_
  refine b_aload_n dX5_mayMarry_9 rfl rfl ?_
  refine b_getI lf_X5_37 (life_c ha) dX5_mayMarry_10 ?_
  refine b_ior dX5_mayMarry_13 ?_
  refine b_istore_n (lv' := [(0, _), (1, _), (2, _), (3, _)]) dX5_mayMarry_14 rfl (by decide) rfl rfl ?_
  refine b_iload_n dX5_mayMarry_15 rfl rfl ?_
  refine b_iload_n dX5_mayMarry_16 rfl rfl ?_
  refine b_callSN (As := [_, _]) (st := []) dX5_mayMarry_17 (by decide +kernel) rfl lm_X11_isIn ls_X11_isIn rfl rfl (Nat.le_of_ble_eq_true rfl) (Nat.le_refl _) (by decide) ?_
  refine c_X11_isIn ?_
  refine b_if_ne (tgt := 50) dX5_mayMarry_20 (by decide) (fun h20 => ?_) (fun h20 => ?_)
  · have e1 := b2i_1 h20
    refine b_iconst (v := 0) dX5_mayMarry_50 (by decide +kernel) ?_
    refine b_zret (by first | exact Or.inl rfl | exact Or.inr rfl) rfl (by decide) dX5_mayMarry_51 ?_
    have e9 : mmB (g a 6 ||| g a 7 ||| g a 8) (g (a + 4)) p o = false := by unfold mmB; grind
    rw [e9] at hq
    exact hq
  · have e1 := b2i_0 h20
    refine b_iload_n dX5_mayMarry_23 rfl rfl ?_
    refine b_iload_n dX5_mayMarry_24 rfl rfl ?_
    refine b_callSN (As := [_, _]) (st := []) dX5_mayMarry_25 (by decide +kernel) rfl lm_X11_isIn ls_X11_isIn rfl rfl (Nat.le_of_ble_eq_true rfl) (Nat.le_refl _) (by decide) ?_
    refine c_X11_isIn ?_
    refine b_if_ne (tgt := 50) dX5_mayMarry_28 (by decide) (fun h28 => ?_) (fun h28 => ?_)
    · have e2 := b2i_1 h28
      refine b_iconst (v := 0) dX5_mayMarry_50 (by decide +kernel) ?_
      refine b_zret (by first | exact Or.inl rfl | exact Or.inr rfl) rfl (by decide) dX5_mayMarry_51 ?_
      have e9 : mmB (g a 6 ||| g a 7 ||| g a 8) (g (a + 4)) p o = false := by unfold mmB; grind
      rw [e9] at hq
      exact hq
    · have e2 := b2i_0 h28
      refine b_aload_n dX5_mayMarry_31 rfl rfl ?_
      refine b_getR (b := (a + 4)) lf_X5_46 (life_c ha) (life_r11 ha) dX5_mayMarry_32 ?_
      refine b_iload_n dX5_mayMarry_35 rfl rfl ?_
      refine b_ildN (j := p) dX5_mayMarry_36 (rfl) (by rw [(life_n4 ha)]; omega) ?_
      refine b_aload_n dX5_mayMarry_37 rfl rfl ?_
      refine b_getR (b := (a + 4)) lf_X5_46 (life_c ha) (life_r11 ha) dX5_mayMarry_38 ?_
      refine b_iload_n dX5_mayMarry_41 rfl rfl ?_
      refine b_ildN (j := o) dX5_mayMarry_42 (rfl) (by rw [(life_n4 ha)]; omega) ?_
      refine b_icmp_eq (tgt := 50) dX5_mayMarry_43 (by decide) (fun h43 => ?_) (fun h43 => ?_)
      · refine b_iconst (v := 0) dX5_mayMarry_50 (by decide +kernel) ?_
        refine b_zret (by first | exact Or.inl rfl | exact Or.inr rfl) rfl (by decide) dX5_mayMarry_51 ?_
        have e9 : mmB (g a 6 ||| g a 7 ||| g a 8) (g (a + 4)) p o = false := by unfold mmB; grind
        rw [e9] at hq
        exact hq
      · refine b_iconst (v := 1) dX5_mayMarry_46 (by decide +kernel) ?_
        refine b_goto (tgt := 51) dX5_mayMarry_47 (by decide) ?_
        refine b_zret (by first | exact Or.inl rfl | exact Or.inr rfl) rfl (by decide) dX5_mayMarry_51 ?_
        have e9 : mmB (g a 6 ||| g a 7 ||| g a 8) (g (a + 4)) p o = true := by unfold mmB; grind
        rw [e9] at hq
        exact hq
theorem c_X5_add {E : En} {d : Nat} {Q : QT} {X : XT} {g : G2} {a n p : Nat} {x : Int32} (ha : is_life a) (hn : g a 3 = nI n) (h4 : n < 400) (hp : p < 8) (hq : ∀ g2, FR [a, a + 1, a + 2, a + 3, a + 6] g g2 → (∀ j, j ≠ 3 → j ≠ 10 → g2 a j = g a j) → g2 a 3 = nI (n + 1) → g2 a 10 = (if x = 12 then g a 10 else x) → (∀ j, j ≠ n → g2 (a + 1) j = g (a + 1) j) → g2 (a + 1) n = x → (∀ j, j ≠ n → g2 (a + 2) j = g (a + 2) j) → g2 (a + 2) n = nI p → (∀ j, j ≠ n → g2 (a + 3) j = g (a + 3) j) → g2 (a + 3) n = g a 4 → (∀ j, j ≠ p → g2 (a + 6) j = g (a + 6) j) → g2 (a + 6) p = g (a + 6) p + 1 → Q none g2) : M E md_X5_add d [.ref a, .int (nI p), .int x] g Q X := by
  refine M.of _ rfl rfl (Nat.le_of_ble_eq_true rfl) ?_
  refine b_aload_n dX5_add_0 rfl rfl ?_
  refine b_getI lf_X5_21 (life_c ha) dX5_add_1 ?_
  refine b_sipush (v := 400) dX5_add_4 (by decide +kernel) ?_
  refine b_icmp_ge (tgt := 81) dX5_add_7 (by decide) (fun h7 => ?_) (fun h7 => ?_)
  · rw [hn] at h7
    exact absurd ((nI_leI (a := 400) (by decide) (by omega)).mp h7) (by omega)
  · refine b_aload_n dX5_add_10 rfl rfl ?_
    refine b_getR (b := (a + 1)) lf_X5_9 (life_c ha) (life_r0 ha) dX5_add_11 ?_
    refine b_aload_n dX5_add_14 rfl rfl ?_
    refine b_getI lf_X5_21 (life_c ha) dX5_add_15 ?_
    refine b_iload_n dX5_add_18 rfl rfl ?_
    refine b_istN (j := n) dX5_add_19 (hn) (by rw [(life_n1 ha)]; omega) ?_
    refine b_aload_n dX5_add_20 rfl rfl ?_
    refine b_getR (b := (a + 2)) lf_X5_15 (life_c ha) (life_r1 ha) dX5_add_21 ?_
    refine b_aload_n dX5_add_24 rfl rfl ?_
    refine b_getI lf_X5_21 (life_c ha) dX5_add_25 ?_
    refine b_iload_n dX5_add_28 rfl rfl ?_
    refine b_istN (j := n) dX5_add_29 (by rw [up2_a _ _ _ _ (by omega)]; exact hn) (by rw [(life_n2 ha)]; omega) ?_
    refine b_aload_n dX5_add_30 rfl rfl ?_
    refine b_getR (b := (a + 3)) lf_X5_18 (life_c ha) (life_r2 ha) dX5_add_31 ?_
    refine b_aload_n dX5_add_34 rfl rfl ?_
    refine b_getI lf_X5_21 (life_c ha) dX5_add_35 ?_
    refine b_aload_n dX5_add_38 rfl rfl ?_
    refine b_getI lf_X5_25 (life_c ha) dX5_add_39 ?_
    refine b_istN (j := n) dX5_add_42 (by rw [up2_a _ _ _ _ (by omega), up2_a _ _ _ _ (by omega)]; exact hn) (by rw [(life_n3 ha)]; omega) ?_
    refine b_aload_n dX5_add_43 rfl rfl ?_
    refine b_dup dX5_add_44 rfl ?_
    refine b_getI lf_X5_21 (life_c ha) dX5_add_45 ?_
    refine b_iconst (v := 1) dX5_add_48 (by decide +kernel) ?_
    refine b_iadd dX5_add_49 ?_
    refine b_putI lf_X5_21 lp_5_3 (life_c ha) dX5_add_50 ?_
    refine b_aload_n dX5_add_53 rfl rfl ?_
    refine b_getR (b := (a + 6)) lf_X5_52 (life_c ha) (life_r13 ha) dX5_add_54 ?_
    refine b_iload_n dX5_add_57 rfl rfl ?_
    refine b_dup2 dX5_add_58 rfl rfl ?_
    refine b_ildN (j := p) dX5_add_59 (rfl) (by rw [(life_n6 ha)]; omega) ?_
    refine b_iconst (v := 1) dX5_add_60 (by decide +kernel) ?_
    refine b_iadd dX5_add_61 ?_
    refine b_istN (j := p) dX5_add_62 (rfl) (by rw [(life_n6 ha)]; omega) ?_
    refine b_aload_n dX5_add_63 rfl rfl ?_
    refine b_iload_n dX5_add_64 rfl rfl ?_
    refine b_bipush (v := 12) dX5_add_65 (by decide +kernel) ?_
    refine b_icmp_ne (tgt := 77) dX5_add_67 (by decide) (fun h67 => ?_) (fun h67 => ?_)
    · refine b_iload_n dX5_add_77 rfl rfl ?_
      refine b_putI lf_X5_43 lp_5_10 (life_c ha) dX5_add_78 ?_
      refine b_vret rfl (by decide) dX5_add_81 ?_
      refine hq _ (by grind [up2, FR]) (by grind [up2]) ?_ ?_ (by grind [up2]) (by grind [up2]) (by grind [up2]) (by grind [up2]) (by grind [up2]) (by grind [up2]) (by grind [up2]) (by grind [up2])
      · rw [up2_k _ _ _ _ (by decide), up2_a _ _ _ _ (by omega), up2_s, up2_a _ _ _ _ (by omega), up2_a _ _ _ _ (by omega), up2_a _ _ _ _ (by omega), hn]; exact nI_1 n
      · rw [up2_s]; grind [up2]
    · refine b_aload_n dX5_add_70 rfl rfl ?_
      refine b_getI lf_X5_43 (life_c ha) dX5_add_71 ?_
      refine b_goto (tgt := 78) dX5_add_74 (by decide) ?_
      refine b_putI lf_X5_43 lp_5_10 (life_c ha) dX5_add_78 ?_
      refine b_vret rfl (by decide) dX5_add_81 ?_
      refine hq _ (by grind [up2, FR]) (by grind [up2]) ?_ ?_ (by grind [up2]) (by grind [up2]) (by grind [up2]) (by grind [up2]) (by grind [up2]) (by grind [up2]) (by grind [up2]) (by grind [up2])
      · rw [up2_k _ _ _ _ (by decide), up2_a _ _ _ _ (by omega), up2_s, up2_a _ _ _ _ (by omega), up2_a _ _ _ _ (by omega), up2_a _ _ _ _ (by omega), hn]; exact nI_1 n
      · rw [up2_s]; grind [up2]
