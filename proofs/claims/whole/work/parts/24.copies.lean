theorem c_X5_passYearsTo {E : En} {d : Nat} {Q : QT} {X : XT} {g : G2} {pl : Nat} {a t : Nat} {T : TD} {sp : Int32} {S : LfS} (ha : is_life a) (ht : is_town t) (hR : RLf g a T sp S) (hT : RTn g t T) (hw : wfT T) (hpl : pl < 400) (hq : ∀ g2 k, FR [a, a + 1, a + 2, a + 3, a + 6, t + 12] g g2 → RLf g2 a T sp (yrsM T sp S k) → k ≤ 20 → (k = 20 ∨ pl < l_n (yrsM T sp S k)) → (∀ j, j < k → l_n (yrsM T sp S j) ≤ pl) → Q none g2) : M E md_X5_passYearsTo (d + 4) [.ref a, .ref t, .int (nI pl)] g Q X := by
  refine M.of _ rfl rfl (Nat.le_of_ble_eq_true rfl) ?_
  have LP : ∀ i, i ≤ 20 → ∀ h : G2, FR [a, a + 1, a + 2, a + 3, a + 6, t + 12] g h → RLf h a T sp (yrsM T sp S i) → (∀ j, j < i → l_n (yrsM T sp S j) ≤ pl) → B E md_X5_passYearsTo (d + 4) Q X 2 [(0, .ref a), (1, .ref t), (2, .int (nI pl)), (3, .int (nI i))] [] h 0 := by
    refine lp_up (fun i hi ih h hF hR hlow => ?_)
    have h400 := hR.2.1
    have hT : RTn h t T := hT.cg (fun k hk => hF _ (by simp only [List.mem_cons, List.not_mem_nil, or_false, not_or]; unfold is_life is_town at *; omega))
    refine b_iload_n dX5_passYearsTo_2 rfl rfl ?_
    refine b_bipush (v := 20) dX5_passYearsTo_3 (by decide +kernel) ?_
    refine b_icmp_ge (tgt := 27) dX5_passYearsTo_5 (by decide) (fun h5 => ?_) (fun h5 => ?_)
    · have e5 : i = 20 := by have := (nI_leI (a := 20) (by decide) (by omega)).mp h5; omega
      refine b_vret rfl (by decide) dX5_passYearsTo_27 ?_
      exact hq h i hF hR (by omega) (Or.inl e5) hlow
    · have e5 : i < 20 := by
        rcases Nat.lt_or_ge i 20 with q | q
        · exact q
        · exact absurd ((nI_leI (a := 20) (by decide) (by omega)).mpr q) h5
      refine b_aload_n dX5_passYearsTo_8 rfl rfl ?_
      refine b_getI lf_X5_21 (life_c ha) dX5_passYearsTo_9 ?_
      refine b_iload_n dX5_passYearsTo_12 rfl rfl ?_
      refine b_icmp_gt (tgt := 27) dX5_passYearsTo_13 (by decide) (fun h13 => ?_) (fun h13 => ?_)
      · rw [hR.1] at h13
        have e13 := (nI_ltI (by omega) (by omega)).mp h13
        refine b_vret rfl (by decide) dX5_passYearsTo_27 ?_
        exact hq h i hF hR (by omega) (Or.inr e13) hlow
      · have e13 : l_n (yrsM T sp S i) ≤ pl := by
          rcases Nat.lt_or_ge pl (l_n (yrsM T sp S i)) with q | q
          · rw [hR.1] at h13; exact absurd (nI_lt q (by omega)) h13
          · exact q
        refine b_aload_n dX5_passYearsTo_16 rfl rfl ?_
        refine b_aload_n dX5_passYearsTo_17 rfl rfl ?_
        refine b_callV (As := [_]) (st := []) dX5_passYearsTo_18 lk_X5_99 lm_X5_passYear lv_X5_passYear (life_c ha) (by decide) rfl rfl rfl (Nat.le_of_ble_eq_true rfl) (Nat.le_refl _) (by decide) ?_
        refine c_X5_passYear ha ht hR hT hw (fun g2 F2 hR2 => ?_)
        refine b_incN (j := i) (lv' := [(0, _), (1, _), (2, _), (3, _)]) dX5_passYearsTo_21 rfl rfl (by decide) rfl rfl ?_
        refine b_goto (tgt := 2) dX5_passYearsTo_24 (by decide) ?_
        exact ih (i + 1) (by omega) (by omega) g2 (fun b hb => by rw [F2 b hb]; exact hF b hb) hR2 (fun j hj => by
          by_cases e5 : j = i
          · rw [e5]; exact e13
          · exact hlow j (by omega))
  refine b_iconst (v := 0) dX5_passYearsTo_0 (by decide +kernel) ?_
  refine b_istore_n (lv' := [(0, _), (1, _), (2, _), (3, _)]) dX5_passYearsTo_1 rfl (by decide) rfl rfl ?_
  exact LP 0 (Nat.zero_le _) g (fun _ _ => rfl) hR (fun j hj => absurd hj (by omega))
theorem c_X5_copyTune {E : En} {d : Nat} {Q : QT} {X : XT} {g : G2} {a b n : Nat} (ha : is_life a) (hb : is_life b) (hab : a ≠ b) (hn : g b 3 = nI n) (h4 : n ≤ 400) (hq : ∀ g2, FR [a + 1, a + 2, a + 3] g g2 → (∀ j, j < n → g2 (a + 1) j = g (b + 1) j) → (∀ j, j < n → g2 (a + 2) j = g (b + 2) j) → (∀ j, j < n → g2 (a + 3) j = g (b + 3) j) → Q none g2) : M E md_X5_copyTune (d + 1) [.ref a, .ref b] g Q X := by
  refine M.of _ rfl rfl (Nat.le_of_ble_eq_true rfl) ?_
  have hab2 : b ≠ a + 1 ∧ b ≠ a + 2 ∧ b + 2 ≠ a + 1 ∧ b + 3 ≠ a + 2 ∧ b + 3 ≠ a + 1 := by unfold is_life at *; omega
  refine b_aload_n dX5_copyTune_0 rfl rfl ?_
  refine b_getR (b := (b + 1)) lf_X5_9 (life_c hb) (life_r0 hb) dX5_copyTune_1 ?_
  refine b_iconst (v := 0) dX5_copyTune_4 (by decide +kernel) ?_
  refine b_aload_n dX5_copyTune_5 rfl rfl ?_
  refine b_getR (b := (a + 1)) lf_X5_9 (life_c ha) (life_r0 ha) dX5_copyTune_6 ?_
  refine b_iconst (v := 0) dX5_copyTune_9 (by decide +kernel) ?_
  refine b_aload_n dX5_copyTune_10 rfl rfl ?_
  refine b_getI lf_X5_21 (life_c hb) dX5_copyTune_11 ?_
  refine b_copyi dX5_copyTune_14 lc_X5_78 (by omega) (Nat.le_of_ble_eq_true rfl) ?_ ?_ ?_ ?_ ?_ ?_ ?_ (by decide) ?_
  · exact nI_pos (n := 0) (by omega)
  · exact nI_pos (n := 0) (by omega)
  · rw [hn]; exact nI_pos (by omega)
  · rw [hn, nI_clamp (by omega)]; show (0 : Nat) + n ≤ _; rw [life_n1 hb]; omega
  · rw [hn, nI_clamp (by omega)]; show (0 : Nat) + n ≤ _; rw [life_n1 ha]; omega
  · rw [life_n1 hb]; decide
  · rw [life_n1 ha]; decide
  refine b_aload_n dX5_copyTune_17 rfl rfl ?_
  refine b_getR (b := (b + 2)) lf_X5_15 (life_c hb) (life_r1 hb) dX5_copyTune_18 ?_
  refine b_iconst (v := 0) dX5_copyTune_21 (by decide +kernel) ?_
  refine b_aload_n dX5_copyTune_22 rfl rfl ?_
  refine b_getR (b := (a + 2)) lf_X5_15 (life_c ha) (life_r1 ha) dX5_copyTune_23 ?_
  refine b_iconst (v := 0) dX5_copyTune_26 (by decide +kernel) ?_
  refine b_aload_n dX5_copyTune_27 rfl rfl ?_
  refine b_getI lf_X5_21 (life_c hb) dX5_copyTune_28 ?_
  refine b_copyi dX5_copyTune_31 lc_X5_78 (by omega) (Nat.le_of_ble_eq_true rfl) ?_ ?_ ?_ ?_ ?_ ?_ ?_ (by decide) ?_
  · exact nI_pos (n := 0) (by omega)
  · exact nI_pos (n := 0) (by omega)
  · rw [upA_a _ _ _ hab2.1, hn]; exact nI_pos (by omega)
  · rw [upA_a _ _ _ hab2.1, hn, nI_clamp (by omega)]; show (0 : Nat) + n ≤ _; rw [life_n2 hb]; omega
  · rw [upA_a _ _ _ hab2.1, hn, nI_clamp (by omega)]; show (0 : Nat) + n ≤ _; rw [life_n2 ha]; omega
  · rw [life_n2 hb]; decide
  · rw [life_n2 ha]; decide
  refine b_aload_n dX5_copyTune_34 rfl rfl ?_
  refine b_getR (b := (b + 3)) lf_X5_18 (life_c hb) (life_r2 hb) dX5_copyTune_35 ?_
  refine b_iconst (v := 0) dX5_copyTune_38 (by decide +kernel) ?_
  refine b_aload_n dX5_copyTune_39 rfl rfl ?_
  refine b_getR (b := (a + 3)) lf_X5_18 (life_c ha) (life_r2 ha) dX5_copyTune_40 ?_
  refine b_iconst (v := 0) dX5_copyTune_43 (by decide +kernel) ?_
  refine b_aload_n dX5_copyTune_44 rfl rfl ?_
  refine b_getI lf_X5_21 (life_c hb) dX5_copyTune_45 ?_
  refine b_copyi dX5_copyTune_48 lc_X5_78 (by omega) (Nat.le_of_ble_eq_true rfl) ?_ ?_ ?_ ?_ ?_ ?_ ?_ (by decide) ?_
  · exact nI_pos (n := 0) (by omega)
  · exact nI_pos (n := 0) (by omega)
  · rw [upA_a _ _ _ hab2.2.1, upA_a _ _ _ hab2.1, hn]; exact nI_pos (by omega)
  · rw [upA_a _ _ _ hab2.2.1, upA_a _ _ _ hab2.1, hn, nI_clamp (by omega)]; show (0 : Nat) + n ≤ _; rw [life_n3 hb]; omega
  · rw [upA_a _ _ _ hab2.2.1, upA_a _ _ _ hab2.1, hn, nI_clamp (by omega)]; show (0 : Nat) + n ≤ _; rw [life_n3 ha]; omega
  · rw [life_n3 hb]; decide
  · rw [life_n3 ha]; decide
  refine b_vret rfl (by decide) dX5_copyTune_51 ?_
  rw [upA_a _ _ _ hab2.2.1, upA_a _ _ _ hab2.1, hn, nI_clamp (by omega), show (0 : Int32).toNatClampNeg = 0 from rfl]
  refine hq _ (fun z hz => ?_) (fun j hj => ?_) (fun j hj => ?_) (fun j hj => ?_)
  · simp only [List.mem_cons, List.not_mem_nil, or_false, not_or] at hz
    rw [upA_a _ _ _ hz.2.2, upA_a _ _ _ hz.2.1, upA_a _ _ _ hz.1]
  · rw [upA_a _ _ _ (by omega), upA_a _ _ _ (by omega), upA_s, va_cpy, if_pos (by omega)]; simp
  · rw [upA_a _ _ _ (by omega), upA_s, va_cpy, if_pos (by omega), upA_a _ _ _ hab2.2.2.1]; simp
  · rw [upA_s, va_cpy, if_pos (by omega), upA_a _ _ _ hab2.2.2.2.1, upA_a _ _ _ hab2.2.2.2.2]; simp
theorem c_X5_copyRest {E : En} {d : Nat} {Q : QT} {X : XT} {g : G2} {a b : Nat} {T : TD} {sp : Int32} {S : LfS} (ha : is_life a) (hb : is_life b) (hab : a ≠ b) (hT8 : t_n T ≤ 8) (hR : RLf g b T sp S) (t1 : ∀ i, i < l_n S → g (a + 1) i = l_g S 0 i) (t2 : ∀ i, i < l_n S → g (a + 2) i = l_g S 1 i) (t3 : ∀ i, i < l_n S → g (a + 3) i = l_g S 2 i) (hq : ∀ g2, FR [a, a + 4, a + 5, a + 6, a + 7, a + 8, a + 9] g g2 → RLf g2 a T sp S → Q none g2) : M E md_X5_copyRest (d + 2) [.ref a, .ref b] g Q X := by
  refine M.of _ rfl rfl (Nat.le_of_ble_eq_true rfl) ?_
  obtain ⟨r1, r2, r3, r4, r5, r6, r7, r8, r9, r10, r11, r12, r13, r14, r15⟩ := hR
  have hab2 : b + 7 ≠ a ∧ b + 8 ≠ a ∧ b + 9 ≠ a ∧ b + 4 ≠ a ∧ b + 5 ≠ a ∧ b + 6 ≠ a ∧ b + 5 ≠ a + 4 ∧ b + 6 ≠ a + 4 ∧ b + 6 ≠ a + 5 := by unfold is_life at *; omega
  have hab3 : b + 7 ≠ a + 4 ∧ b + 7 ≠ a + 5 ∧ b + 7 ≠ a + 6 ∧ b + 8 ≠ a + 4 ∧ b + 8 ≠ a + 5 ∧ b + 8 ≠ a + 6 ∧ b + 9 ≠ a + 4 ∧ b + 9 ≠ a + 5 ∧ b + 9 ≠ a + 6 := by unfold is_life at *; omega
  have K64 : ∀ h : G2, (∀ z, z ≠ a → h z = g z) → (∀ j, 3 ≤ j → j ≤ 10 → h a j = g b j) → B E md_X5_copyRest (d + 2) Q X 64 [(0, .ref a), (1, .ref b)] [] h 0 := by
    intro h hb1 hb2
    refine b_aload_n dX5_copyRest_64 rfl rfl ?_
    refine b_getR (b := (b + 4)) lf_X5_46 (life_c hb) (life_r11 hb) dX5_copyRest_65 ?_
    refine b_iconst (v := 0) dX5_copyRest_68 (by decide +kernel) ?_
    refine b_aload_n dX5_copyRest_69 rfl rfl ?_
    refine b_getR (b := (a + 4)) lf_X5_46 (life_c ha) (life_r11 ha) dX5_copyRest_70 ?_
    refine b_iconst (v := 0) dX5_copyRest_73 (by decide +kernel) ?_
    refine b_bipush (v := 8) dX5_copyRest_74 (by decide +kernel) ?_
    refine b_copyi dX5_copyRest_76 lc_X5_78 (by omega) (Nat.le_of_ble_eq_true rfl) ?_ ?_ ?_ ?_ ?_ ?_ ?_ (by decide) ?_
    · decide +kernel
    · decide +kernel
    · decide +kernel
    · rw [life_n4 hb]; decide +kernel
    · rw [life_n4 ha]; decide +kernel
    · rw [life_n4 hb]; decide
    · rw [life_n4 ha]; decide
    refine b_aload_n dX5_copyRest_79 rfl rfl ?_
    refine b_getR (b := (b + 5)) lf_X5_49 (life_c hb) (life_r12 hb) dX5_copyRest_80 ?_
    refine b_iconst (v := 0) dX5_copyRest_83 (by decide +kernel) ?_
    refine b_aload_n dX5_copyRest_84 rfl rfl ?_
    refine b_getR (b := (a + 5)) lf_X5_49 (life_c ha) (life_r12 ha) dX5_copyRest_85 ?_
    refine b_iconst (v := 0) dX5_copyRest_88 (by decide +kernel) ?_
    refine b_bipush (v := 8) dX5_copyRest_89 (by decide +kernel) ?_
    refine b_copyi dX5_copyRest_91 lc_X5_78 (by omega) (Nat.le_of_ble_eq_true rfl) ?_ ?_ ?_ ?_ ?_ ?_ ?_ (by decide) ?_
    · decide +kernel
    · decide +kernel
    · decide +kernel
    · rw [life_n5 hb]; decide +kernel
    · rw [life_n5 ha]; decide +kernel
    · rw [life_n5 hb]; decide
    · rw [life_n5 ha]; decide
    refine b_aload_n dX5_copyRest_94 rfl rfl ?_
    refine b_getR (b := (b + 6)) lf_X5_52 (life_c hb) (life_r13 hb) dX5_copyRest_95 ?_
    refine b_iconst (v := 0) dX5_copyRest_98 (by decide +kernel) ?_
    refine b_aload_n dX5_copyRest_99 rfl rfl ?_
    refine b_getR (b := (a + 6)) lf_X5_52 (life_c ha) (life_r13 ha) dX5_copyRest_100 ?_
    refine b_iconst (v := 0) dX5_copyRest_103 (by decide +kernel) ?_
    refine b_bipush (v := 8) dX5_copyRest_104 (by decide +kernel) ?_
    refine b_copyi dX5_copyRest_106 lc_X5_78 (by omega) (Nat.le_of_ble_eq_true rfl) ?_ ?_ ?_ ?_ ?_ ?_ ?_ (by decide) ?_
    · decide +kernel
    · decide +kernel
    · decide +kernel
    · rw [life_n6 hb]; decide +kernel
    · rw [life_n6 ha]; decide +kernel
    · rw [life_n6 hb]; decide
    · rw [life_n6 ha]; decide
    refine b_aload_n dX5_copyRest_109 rfl rfl ?_
    refine b_getR (b := (a + 7)) lf_X5_58 (life_c ha) (life_r14 ha) dX5_copyRest_110 ?_
    refine b_aload_n dX5_copyRest_113 rfl rfl ?_
    refine b_getR (b := (b + 7)) lf_X5_58 (life_c hb) (life_r14 hb) dX5_copyRest_114 ?_
    refine b_callV (As := [_]) (st := []) dX5_copyRest_117 lk_X5_74 lm_X1_copy lv_X1_copy (feuds_c (life_feuds ha)) (by decide) rfl rfl rfl (Nat.le_of_ble_eq_true rfl) (Nat.le_refl _) (by decide) ?_
    rw [show (0 : Int32).toNatClampNeg = 0 from rfl, show (8 : Int32).toNatClampNeg = 8 from by decide +kernel]
    have hz4 : ∀ z, z ≠ a + 4 → z ≠ a + 5 → z ≠ a + 6 → (upA (upA (upA h (a + 4) (va_cpy (h (b + 4)) (h (a + 4)) 0 0 8)) (a + 5) (va_cpy (upA h (a + 4) (va_cpy (h (b + 4)) (h (a + 4)) 0 0 8) (b + 5)) (upA h (a + 4) (va_cpy (h (b + 4)) (h (a + 4)) 0 0 8) (a + 5)) 0 0 8)) (a + 6) (va_cpy (upA (upA h (a + 4) (va_cpy (h (b + 4)) (h (a + 4)) 0 0 8)) (a + 5) (va_cpy (upA h (a + 4) (va_cpy (h (b + 4)) (h (a + 4)) 0 0 8) (b + 5)) (upA h (a + 4) (va_cpy (h (b + 4)) (h (a + 4)) 0 0 8) (a + 5)) 0 0 8) (b + 6)) (upA (upA h (a + 4) (va_cpy (h (b + 4)) (h (a + 4)) 0 0 8)) (a + 5) (va_cpy (upA h (a + 4) (va_cpy (h (b + 4)) (h (a + 4)) 0 0 8) (b + 5)) (upA h (a + 4) (va_cpy (h (b + 4)) (h (a + 4)) 0 0 8) (a + 5)) 0 0 8) (a + 6)) 0 0 8)) z = h z := fun z q1 q2 q3 => by rw [upA_a _ _ _ q3, upA_a _ _ _ q2, upA_a _ _ _ q1]
    have e4 : ∀ j, j < 8 → va_cpy (h (b + 4)) (h (a + 4)) 0 0 8 j = g (b + 4) j := fun j hj => by rw [va_cpy, if_pos (by omega), hb1 _ hab2.2.2.2.1]; simp
    have e5 : ∀ j, j < 8 → va_cpy (upA h (a + 4) (va_cpy (h (b + 4)) (h (a + 4)) 0 0 8) (b + 5)) (upA h (a + 4) (va_cpy (h (b + 4)) (h (a + 4)) 0 0 8) (a + 5)) 0 0 8 j = g (b + 5) j := fun j hj => by rw [va_cpy, if_pos (by omega), upA_a _ _ _ hab2.2.2.2.2.2.2.1, hb1 _ hab2.2.2.2.2.1]; simp
    have e6 : ∀ j, j < 8 → va_cpy (upA (upA h (a + 4) (va_cpy (h (b + 4)) (h (a + 4)) 0 0 8)) (a + 5) (va_cpy (upA h (a + 4) (va_cpy (h (b + 4)) (h (a + 4)) 0 0 8) (b + 5)) (upA h (a + 4) (va_cpy (h (b + 4)) (h (a + 4)) 0 0 8) (a + 5)) 0 0 8) (b + 6)) (upA (upA h (a + 4) (va_cpy (h (b + 4)) (h (a + 4)) 0 0 8)) (a + 5) (va_cpy (upA h (a + 4) (va_cpy (h (b + 4)) (h (a + 4)) 0 0 8) (b + 5)) (upA h (a + 4) (va_cpy (h (b + 4)) (h (a + 4)) 0 0 8) (a + 5)) 0 0 8) (a + 6)) 0 0 8 j = g (b + 6) j := fun j hj => by rw [va_cpy, if_pos (by omega), upA_a _ _ _ hab2.2.2.2.2.2.2.2.2, upA_a _ _ _ hab2.2.2.2.2.2.2.2.1, hb1 _ hab2.2.2.2.2.2.1]; simp
    generalize va_cpy (h (b + 4)) (h (a + 4)) 0 0 8 = v4 at *
    generalize va_cpy (upA h (a + 4) v4 (b + 5)) (upA h (a + 4) v4 (a + 5)) 0 0 8 = v5 at *
    generalize va_cpy (upA (upA h (a + 4) v4) (a + 5) v5 (b + 6)) (upA (upA h (a + 4) v4) (a + 5) v5 (a + 6)) 0 0 8 = v6 at *
    have hfb : upA (upA (upA h (a + 4) v4) (a + 5) v5) (a + 6) v6 (b + 7) = g (b + 7) := by rw [hz4 _ (by omega) (by omega) (by omega)]; exact hb1 _ hab2.1
    have hfb8 : upA (upA (upA h (a + 4) v4) (a + 5) v5) (a + 6) v6 (b + 8) = g (b + 8) := by rw [hz4 _ (by omega) (by omega) (by omega)]; exact hb1 _ hab2.2.1
    have hfb9 : upA (upA (upA h (a + 4) v4) (a + 5) v5) (a + 6) v6 (b + 9) = g (b + 9) := by rw [hz4 _ (by omega) (by omega) (by omega)]; exact hb1 _ hab2.2.2.1
    refine c_X1_copy (life_feuds ha) (life_feuds hb) (by omega) (n := l_fn S) (by rw [hfb]; exact r9) r10 (fun g2 F2 u1 u2 u3 u4 => ?_)
    refine b_vret rfl (by decide) dX5_copyRest_120 ?_
    have z2 : ∀ z, z ≠ a + 4 → z ≠ a + 5 → z ≠ a + 6 → z ≠ a + 7 → z ≠ a + 8 → z ≠ a + 9 → g2 z = h z := fun z q1 q2 q3 q4 q5 q6 => by rw [F2 z (by simp only [List.mem_cons, List.not_mem_nil, or_false, not_or]; omega)]; exact hz4 z q1 q2 q3
    have w4 : g2 (a + 4) = v4 := by rw [F2 _ (by simp only [List.mem_cons, List.not_mem_nil, or_false, not_or]; omega), upA_a _ _ _ (by omega), upA_a _ _ _ (by omega), upA_s]
    have w5 : g2 (a + 5) = v5 := by rw [F2 _ (by simp only [List.mem_cons, List.not_mem_nil, or_false, not_or]; omega), upA_a _ _ _ (by omega), upA_s]
    have w6 : g2 (a + 6) = v6 := by rw [F2 _ (by simp only [List.mem_cons, List.not_mem_nil, or_false, not_or]; omega), upA_s]
    have za : g2 a = h a := z2 a (by omega) (by omega) (by omega) (by omega) (by omega) (by omega)
    have zk : ∀ k, 0 < k → k < 4 → g2 (a + k) = g (a + k) := fun k k0 k1 => by rw [z2 _ (by omega) (by omega) (by omega) (by omega) (by omega) (by omega)]; exact hb1 _ (by omega)
    rw [hfb8] at u3
    rw [hfb9] at u4
    refine hq g2 (fun z hz => ?_) ⟨by rw [za, hb2 3 (by decide) (by decide)]; exact r1, r2, fun i hi => by rw [zk 1 (by decide) (by decide)]; exact t1 i hi, fun i hi => by rw [zk 2 (by decide) (by decide)]; exact t2 i hi, fun i hi => by rw [zk 3 (by decide) (by decide)]; exact t3 i hi, fun j hj => by rw [za, hb2 (4 + j) (by omega) (by omega)]; exact r6 j hj, fun p hp => by rw [w4, e4 p (by omega)]; exact r7 p hp, fun p hp => by rw [w5, e5 p (by omega)]; exact r8 p hp, u2, r10, fun i hi => by rw [u3 i hi]; exact r11 i hi, fun i hi => by rw [u4 i hi]; exact r12 i hi, by rw [za, hb2 10 (by decide) (by decide)]; exact r13, fun p hp => by rw [w6, e6 p (by omega)]; exact r14 p hp, fun p hp => by rw [za, hb2 9 (by decide) (by decide)]; exact r15 p hp⟩
    simp only [List.mem_cons, List.not_mem_nil, or_false, not_or] at hz
    rw [z2 z (by omega) (by omega) (by omega) (by omega) (by omega) (by omega)]
    exact hb1 z (by omega)
  refine b_aload_n dX5_copyRest_0 rfl rfl ?_
  refine b_aload_n dX5_copyRest_1 rfl rfl ?_
  refine b_getI lf_X5_21 (life_c hb) dX5_copyRest_2 ?_
  refine b_putI lf_X5_21 lp_5_3 (life_c ha) dX5_copyRest_5 ?_
  refine b_aload_n dX5_copyRest_8 rfl rfl ?_
  refine b_aload_n dX5_copyRest_9 rfl rfl ?_
  refine b_getI lf_X5_25 (life_c hb) dX5_copyRest_10 ?_
  refine b_putI lf_X5_25 lp_5_4 (life_c ha) dX5_copyRest_13 ?_
  refine b_aload_n dX5_copyRest_16 rfl rfl ?_
  refine b_aload_n dX5_copyRest_17 rfl rfl ?_
  refine b_getI lf_X5_28 (life_c hb) dX5_copyRest_18 ?_
  refine b_putI lf_X5_28 lp_5_5 (life_c ha) dX5_copyRest_21 ?_
  refine b_aload_n dX5_copyRest_24 rfl rfl ?_
  refine b_aload_n dX5_copyRest_25 rfl rfl ?_
  refine b_getI lf_X5_31 (life_c hb) dX5_copyRest_26 ?_
  refine b_putI lf_X5_31 lp_5_6 (life_c ha) dX5_copyRest_29 ?_
  refine b_aload_n dX5_copyRest_32 rfl rfl ?_
  refine b_aload_n dX5_copyRest_33 rfl rfl ?_
  refine b_getI lf_X5_34 (life_c hb) dX5_copyRest_34 ?_
  refine b_putI lf_X5_34 lp_5_7 (life_c ha) dX5_copyRest_37 ?_
  refine b_aload_n dX5_copyRest_40 rfl rfl ?_
  refine b_aload_n dX5_copyRest_41 rfl rfl ?_
  refine b_getI lf_X5_37 (life_c hb) dX5_copyRest_42 ?_
  refine b_putI lf_X5_37 lp_5_8 (life_c ha) dX5_copyRest_45 ?_
  refine b_aload_n dX5_copyRest_48 rfl rfl ?_
  refine b_aload_n dX5_copyRest_49 rfl rfl ?_
  refine b_getI lf_X5_40 (life_c hb) dX5_copyRest_50 ?_
  refine b_putI lf_X5_40 lp_5_9 (life_c ha) dX5_copyRest_53 ?_
  refine b_aload_n dX5_copyRest_56 rfl rfl ?_
  refine b_aload_n dX5_copyRest_57 rfl rfl ?_
  refine b_getI lf_X5_43 (life_c hb) dX5_copyRest_58 ?_
  refine b_putI lf_X5_43 lp_5_10 (life_c ha) dX5_copyRest_61 ?_
  exact K64 _ (by grind [up2_f]) (by
    intro j h3 h10
    have hba : ¬ b = a := fun q => hab q.symm
    rcases (show j = 3 ∨ j = 4 ∨ j = 5 ∨ j = 6 ∨ j = 7 ∨ j = 8 ∨ j = 9 ∨ j = 10 by omega) with rfl | rfl | rfl | rfl | rfl | rfl | rfl | rfl <;> simp [up2, hba])
