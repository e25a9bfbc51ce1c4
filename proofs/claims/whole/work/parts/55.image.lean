theorem RCa.copy {g h : G2} {a b : Nat} {T : TD} {F : FS} (hA : RCa g b T F) (k1 : h a 1 = nI (f_na F)) (kc : ∀ j, j < 4 * f_na F → h (a + 1) j = g (b + 1) j) : RCa h a T F := ⟨k1, fun i hi => actR_cg (hA.2 i hi) (fun j hj => kc _ (by omega))⟩
theorem RCh.copy {g h : G2} {a b : Nat} {F : FS} (hA : RCh g b F) (k1 : h a 2 = nI (f_nh F)) (ka : ∀ j, j < f_nh F → h (a + 1) j = g (b + 1) j) (kb : ∀ j, j < f_nh F → h (a + 2) j = g (b + 2) j) : RCh h a F := ⟨k1, fun i hi => (ka i hi).trans (hA.2.1 i hi), fun i hi => (kb i hi).trans (hA.2.2 i hi)⟩
/-- what the image is kept in -/
def imC (y : Nat) : Prop := (51 ≤ y ∧ y ≤ 60) ∨ y = 63 ∨ y = 64 ∨ (68 ≤ y ∧ y ≤ 70) ∨ y = 72 ∨ y = 73
theorem c_X11_image {E : En} {d : Nat} {Q : QT} {X : XT} {g : G2} {T : TD} {F : FS} (h8 : t_n T ≤ 8) (oF : okF T F) (hC : RCf g 31 61 65 71 T F) (hq : ∀ h, RCf h 51 63 68 73 T F → h 72 0 = 1 → (∀ y, ¬ imC y → h y = g y) → Q none h) : M E md_X11_image (d + 3) [.ref 0] g Q X := by
  refine M.of _ rfl rfl (Nat.le_of_ble_eq_true rfl) ?_
  refine b_aload_n dX11_image_0 rfl rfl ?_
  refine b_getR (b := 72) lf_X11_58 rfl rfl dX11_image_1 ?_
  refine b_iconst (v := 1) dX11_image_4 (by decide +kernel) ?_
  refine b_putZ (Or.inr rfl) lf_X11_117 lp_4_0 rfl dX11_image_5 ?_
  refine b_aload_n dX11_image_8 rfl rfl ?_
  refine b_getR (b := 72) lf_X11_58 rfl rfl dX11_image_9 ?_
  refine b_getR (b := 51) lf_X11_384 rfl rfl dX11_image_12 ?_
  refine b_aload_n dX11_image_15 rfl rfl ?_
  refine b_getR (b := 31) lf_X11_33 rfl rfl dX11_image_16 ?_
  refine b_callV (As := [_]) (st := []) dX11_image_19 lk_X11_305 lm_X5_copyTune lv_X5_copyTune (life_c is_life51) (by decide) rfl rfl rfl (Nat.le_of_ble_eq_true rfl) (Nat.le_refl _) (by decide) ?_
  refine c_X5_copyTune is_life51 is_life31 (by decide) (by rw [up2_a _ _ _ _ (by decide)]; exact hC.1.n) hC.1.le (fun h1 F1 t1 t2 t3 => ?_)
  have F1 : ∀ y, y ≠ 52 → y ≠ 53 → y ≠ 54 → h1 y = up2 g 72 0 1 y := fun y y1 y2 y3 => F1 y (by simp; omega)
  refine b_aload_n dX11_image_22 rfl rfl ?_
  refine b_getR (b := 72) lf_X11_58 rfl rfl dX11_image_23 ?_
  refine b_getR (b := 51) lf_X11_384 rfl rfl dX11_image_26 ?_
  refine b_aload_n dX11_image_29 rfl rfl ?_
  refine b_getR (b := 31) lf_X11_33 rfl rfl dX11_image_30 ?_
  refine b_callV (As := [_]) (st := []) dX11_image_33 lk_X11_309 lm_X5_copyRest lv_X5_copyRest (life_c is_life51) (by decide) rfl rfl rfl (Nat.le_of_ble_eq_true rfl) (Nat.le_refl _) (by decide) ?_
  refine c_X5_copyRest (T := T) (sp := -1) (S := f_S F) is_life51 is_life31 (by decide) h8 (hC.1.cg (fun k hk => by rw [F1 _ (by omega) (by omega) (by omega)]; exact up2_f _ _ _ _ (by omega))) (fun i hi => (t1 i hi).trans (by rw [up2_a _ _ _ _ (by decide)]; exact hC.1.sg i hi)) (fun i hi => (t2 i hi).trans (by rw [up2_a _ _ _ _ (by decide)]; exact hC.1.wh i hi)) (fun i hi => (t3 i hi).trans (by rw [up2_a _ _ _ _ (by decide)]; exact hC.1.yi i hi)) (fun h2 F2 hR2 => ?_)
  have F2 : ∀ y, y ≠ 51 → y ≠ 55 → y ≠ 56 → y ≠ 57 → y ≠ 58 → y ≠ 59 → y ≠ 60 → h2 y = h1 y := fun y y1 y2 y3 y4 y5 y6 y7 => F2 y (by simp; omega)
  have F2 : ∀ y, ¬ (51 ≤ y ∧ y ≤ 60) → h2 y = up2 g 72 0 1 y := fun y hy => by rw [F2 y (by omega) (by omega) (by omega) (by omega) (by omega) (by omega) (by omega), F1 y (by omega) (by omega) (by omega)]
  refine b_aload_n dX11_image_36 rfl rfl ?_
  refine b_getR (b := 72) lf_X11_58 rfl rfl dX11_image_37 ?_
  refine b_getR (b := 63) lf_X11_387 rfl rfl dX11_image_40 ?_
  refine b_aload_n dX11_image_43 rfl rfl ?_
  refine b_getR (b := 61) lf_X11_40 rfl rfl dX11_image_44 ?_
  refine b_callV (As := [_]) (st := []) dX11_image_47 lk_X11_388 lm_X0_copy lv_X0_copy (acts_c is_acts63) (by decide) rfl rfl rfl (Nat.le_of_ble_eq_true rfl) (Nat.le_refl _) (by decide) ?_
  refine c_X0_copy is_acts63 is_acts61 (by decide) (by rw [F2 61 (by decide)]; exact (by rw [up2_a _ _ _ _ (by decide)]; exact hC.2.1.1)) oF.1 (fun h3 F3 _ a1 a2 => ?_)
  have F3 : ∀ y, y ≠ 63 → y ≠ 64 → h3 y = h2 y := fun y y1 y2 => F3 y (by simp; omega)
  refine b_aload_n dX11_image_50 rfl rfl ?_
  refine b_getR (b := 72) lf_X11_58 rfl rfl dX11_image_51 ?_
  refine b_getR (b := 68) lf_X11_392 rfl rfl dX11_image_54 ?_
  refine b_aload_n dX11_image_57 rfl rfl ?_
  refine b_getR (b := 65) lf_X11_47 rfl rfl dX11_image_58 ?_
  refine b_callV (As := [_]) (st := []) dX11_image_61 lk_X11_393 lm_X3_copy lv_X3_copy (heard_c is_heard68) (by decide) rfl rfl rfl (Nat.le_of_ble_eq_true rfl) (Nat.le_refl _) (by decide) ?_
  refine c_X3_copy is_heard68 is_heard65 (by decide) (by rw [F3 65 (by decide) (by decide), F2 65 (by decide)]; exact (by rw [up2_a _ _ _ _ (by decide)]; exact hC.2.2.1.1)) oF.2.1 (fun h4 F4 _ b1 b2 b3 => ?_)
  have F4 : ∀ y, y ≠ 68 → y ≠ 69 → y ≠ 70 → h4 y = h3 y := fun y y1 y2 y3 => F4 y (by simp; omega)
  refine b_aload_n dX11_image_64 rfl rfl ?_
  refine b_getR (b := 71) lf_X11_51 rfl rfl dX11_image_65 ?_
  refine b_iconst (v := 0) dX11_image_68 (by decide +kernel) ?_
  refine b_aload_n dX11_image_69 rfl rfl ?_
  refine b_getR (b := 72) lf_X11_58 rfl rfl dX11_image_70 ?_
  refine b_getR (b := 73) lf_X11_396 rfl rfl dX11_image_73 ?_
  refine b_iconst (v := 0) dX11_image_76 (by decide +kernel) ?_
  refine b_iconst (v := 3) dX11_image_77 (by decide +kernel) ?_
  refine b_copyi dX11_image_78 lc_X11_397 (by omega) (Nat.le_of_ble_eq_true rfl) ?_ ?_ ?_ ?_ ?_ ?_ ?_ (by decide) ?_
  · decide +kernel
  · decide +kernel
  · decide +kernel
  · decide +kernel
  · decide +kernel
  · decide +kernel
  · decide +kernel
  refine b_vret rfl (by decide) dX11_image_81 ?_
  rw [show (0 : Int32).toNatClampNeg = 0 from rfl, show (3 : Int32).toNatClampNeg = 3 from by decide +kernel]
  have F5 : ∀ y, y ≠ 73 → upA h4 73 (va_cpy (h4 71) (h4 73) 0 0 3) y = h4 y := fun y hy => upA_a _ _ _ hy
  have e61 : h2 62 = g 62 := by rw [F2 62 (by decide)]; exact up2_f _ _ _ _ (by decide)
  have e66 : h3 66 = g 66 := by rw [F3 66 (by decide) (by decide), F2 66 (by decide)]; exact up2_f _ _ _ _ (by decide)
  have e67 : h3 67 = g 67 := by rw [F3 67 (by decide) (by decide), F2 67 (by decide)]; exact up2_f _ _ _ _ (by decide)
  have e71 : h4 71 = g 71 := by rw [F4 71 (by decide) (by decide) (by decide), F3 71 (by decide) (by decide), F2 71 (by decide)]; exact up2_f _ _ _ _ (by decide)
  refine hq _ ⟨hR2.cg (fun k hk => by rw [F5 _ (by omega), F4 _ (by omega) (by omega) (by omega), F3 _ (by omega) (by omega)]), hC.2.1.copy (by rw [F5 _ (by decide), F4 _ (by decide) (by decide) (by decide)]; exact a1) (fun j hj => by rw [F5 _ (by decide), F4 _ (by decide) (by decide) (by decide), a2 j hj, e61]), hC.2.2.1.copy (by rw [F5 _ (by decide)]; exact b1) (fun j hj => by rw [F5 _ (by decide), b2 j hj, e66]) (fun j hj => by rw [F5 _ (by decide), b3 j hj, e67]), fun i hi => ?_⟩ (by rw [F5 72 (by decide), F4 72 (by decide) (by decide) (by decide), F3 72 (by decide) (by decide), F2 72 (by decide)]; exact up2_s _ _ _ _) (fun y hy => ?_)
  · rw [upA_s, va_cpy, if_pos (by omega), show 0 + (i - 0) = i by omega, e71]; exact hC.2.2.2 i hi
  · unfold imC at hy
    rw [F5 y (by omega), F4 y (by omega) (by omega) (by omega), F3 y (by omega) (by omega), F2 y (by omega)]; exact up2_f _ _ _ _ (by omega)
theorem c_X11_restore1 {E : En} {d : Nat} {Q : QT} {X : XT} {g : G2} {T : TD} {F : FS} (h8 : t_n T ≤ 8) (oF : okF T F) (h72 : g 72 0 = 1) (hC : RCf g 51 63 68 73 T F) (hq : ∀ h, RCf h 31 61 65 71 T F → FL g h → Q (some (.int 1)) h) : M E md_X11_restore (d + 3) [.ref 0] g Q X := by
  refine M.of _ rfl rfl (Nat.le_of_ble_eq_true rfl) ?_
  refine b_aload_n dX11_restore_0 rfl rfl ?_
  refine b_getR (b := 72) lf_X11_58 rfl rfl dX11_restore_1 ?_
  refine b_getZ lf_X11_117 rfl dX11_restore_4 ?_
  refine b_if_ne (tgt := 12) dX11_restore_7 (by decide) (fun h7 => ?_) (fun h7 => ?_)
  · refine b_aload_n dX11_restore_12 rfl rfl ?_
    refine b_getR (b := 31) lf_X11_33 rfl rfl dX11_restore_13 ?_
    refine b_aload_n dX11_restore_16 rfl rfl ?_
    refine b_getR (b := 72) lf_X11_58 rfl rfl dX11_restore_17 ?_
    refine b_getR (b := 51) lf_X11_384 rfl rfl dX11_restore_20 ?_
    refine b_callV (As := [_]) (st := []) dX11_restore_23 lk_X11_305 lm_X5_copyTune lv_X5_copyTune (life_c is_life31) (by decide) rfl rfl rfl (Nat.le_of_ble_eq_true rfl) (Nat.le_refl _) (by decide) ?_
    refine c_X5_copyTune is_life31 is_life51 (by decide) hC.1.n hC.1.le (fun h1 F1 t1 t2 t3 => ?_)
    have F1 : ∀ y, y ≠ 32 → y ≠ 33 → y ≠ 34 → h1 y = g y := fun y y1 y2 y3 => F1 y (by simp; omega)
    refine b_aload_n dX11_restore_26 rfl rfl ?_
    refine b_getR (b := 31) lf_X11_33 rfl rfl dX11_restore_27 ?_
    refine b_aload_n dX11_restore_30 rfl rfl ?_
    refine b_getR (b := 72) lf_X11_58 rfl rfl dX11_restore_31 ?_
    refine b_getR (b := 51) lf_X11_384 rfl rfl dX11_restore_34 ?_
    refine b_callV (As := [_]) (st := []) dX11_restore_37 lk_X11_309 lm_X5_copyRest lv_X5_copyRest (life_c is_life31) (by decide) rfl rfl rfl (Nat.le_of_ble_eq_true rfl) (Nat.le_refl _) (by decide) ?_
    refine c_X5_copyRest (T := T) (sp := -1) (S := f_S F) is_life31 is_life51 (by decide) h8 (hC.1.cg (fun k hk => F1 _ (by omega) (by omega) (by omega))) (fun i hi => (t1 i hi).trans (hC.1.sg i hi)) (fun i hi => (t2 i hi).trans (hC.1.wh i hi)) (fun i hi => (t3 i hi).trans (hC.1.yi i hi)) (fun h2 F2 hR2 => ?_)
    have F2 : ∀ y, y ≠ 31 → y ≠ 35 → y ≠ 36 → y ≠ 37 → y ≠ 38 → y ≠ 39 → y ≠ 40 → h2 y = h1 y := fun y y1 y2 y3 y4 y5 y6 y7 => F2 y (by simp; omega)
    have F2 : ∀ y, ¬ (31 ≤ y ∧ y ≤ 40) → h2 y = g y := fun y hy => by rw [F2 y (by omega) (by omega) (by omega) (by omega) (by omega) (by omega) (by omega), F1 y (by omega) (by omega) (by omega)]
    refine b_aload_n dX11_restore_40 rfl rfl ?_
    refine b_getR (b := 61) lf_X11_40 rfl rfl dX11_restore_41 ?_
    refine b_aload_n dX11_restore_44 rfl rfl ?_
    refine b_getR (b := 72) lf_X11_58 rfl rfl dX11_restore_45 ?_
    refine b_getR (b := 63) lf_X11_387 rfl rfl dX11_restore_48 ?_
    refine b_callV (As := [_]) (st := []) dX11_restore_51 lk_X11_388 lm_X0_copy lv_X0_copy (acts_c is_acts61) (by decide) rfl rfl rfl (Nat.le_of_ble_eq_true rfl) (Nat.le_refl _) (by decide) ?_
    refine c_X0_copy is_acts61 is_acts63 (by decide) (by rw [F2 63 (by decide)]; exact hC.2.1.1) oF.1 (fun h3 F3 _ a1 a2 => ?_)
    have F3 : ∀ y, y ≠ 61 → y ≠ 62 → h3 y = h2 y := fun y y1 y2 => F3 y (by simp; omega)
    refine b_aload_n dX11_restore_54 rfl rfl ?_
    refine b_getR (b := 65) lf_X11_47 rfl rfl dX11_restore_55 ?_
    refine b_aload_n dX11_restore_58 rfl rfl ?_
    refine b_getR (b := 72) lf_X11_58 rfl rfl dX11_restore_59 ?_
    refine b_getR (b := 68) lf_X11_392 rfl rfl dX11_restore_62 ?_
    refine b_callV (As := [_]) (st := []) dX11_restore_65 lk_X11_393 lm_X3_copy lv_X3_copy (heard_c is_heard65) (by decide) rfl rfl rfl (Nat.le_of_ble_eq_true rfl) (Nat.le_refl _) (by decide) ?_
    refine c_X3_copy is_heard65 is_heard68 (by decide) (by rw [F3 68 (by decide) (by decide), F2 68 (by decide)]; exact hC.2.2.1.1) oF.2.1 (fun h4 F4 _ b1 b2 b3 => ?_)
    have F4 : ∀ y, y ≠ 65 → y ≠ 66 → y ≠ 67 → h4 y = h3 y := fun y y1 y2 y3 => F4 y (by simp; omega)
    refine b_aload_n dX11_restore_68 rfl rfl ?_
    refine b_getR (b := 72) lf_X11_58 rfl rfl dX11_restore_69 ?_
    refine b_getR (b := 73) lf_X11_396 rfl rfl dX11_restore_72 ?_
    refine b_iconst (v := 0) dX11_restore_75 (by decide +kernel) ?_
    refine b_aload_n dX11_restore_76 rfl rfl ?_
    refine b_getR (b := 71) lf_X11_51 rfl rfl dX11_restore_77 ?_
    refine b_iconst (v := 0) dX11_restore_80 (by decide +kernel) ?_
    refine b_iconst (v := 3) dX11_restore_81 (by decide +kernel) ?_
    refine b_copyi dX11_restore_82 lc_X11_397 (by omega) (Nat.le_of_ble_eq_true rfl) ?_ ?_ ?_ ?_ ?_ ?_ ?_ (by decide) ?_
    · decide +kernel
    · decide +kernel
    · decide +kernel
    · decide +kernel
    · decide +kernel
    · decide +kernel
    · decide +kernel
    refine b_iconst (v := 1) dX11_restore_85 (by decide +kernel) ?_
    refine b_zret (Or.inr rfl) rfl (by decide) dX11_restore_86 ?_
    rw [show (0 : Int32).toNatClampNeg = 0 from rfl, show (3 : Int32).toNatClampNeg = 3 from by decide +kernel]
    have F5 : ∀ y, y ≠ 71 → upA h4 71 (va_cpy (h4 73) (h4 71) 0 0 3) y = h4 y := fun y hy => upA_a _ _ _ hy
    have e61 : h2 64 = g 64 := by rw [F2 64 (by decide)]
    have e66 : h3 69 = g 69 := by rw [F3 69 (by decide) (by decide), F2 69 (by decide)]
    have e67 : h3 70 = g 70 := by rw [F3 70 (by decide) (by decide), F2 70 (by decide)]
    have e71 : h4 73 = g 73 := by rw [F4 73 (by decide) (by decide) (by decide), F3 73 (by decide) (by decide), F2 73 (by decide)]
    refine hq _ ⟨hR2.cg (fun k hk => by rw [F5 _ (by omega), F4 _ (by omega) (by omega) (by omega), F3 _ (by omega) (by omega)]), hC.2.1.copy (by rw [F5 _ (by decide), F4 _ (by decide) (by decide) (by decide)]; exact a1) (fun j hj => by rw [F5 _ (by decide), F4 _ (by decide) (by decide) (by decide), a2 j hj, e61]), hC.2.2.1.copy (by rw [F5 _ (by decide)]; exact b1) (fun j hj => by rw [F5 _ (by decide), b2 j hj, e66]) (fun j hj => by rw [F5 _ (by decide), b3 j hj, e67]), fun i hi => ?_⟩ (fun y _ hy => ?_)
    · rw [upA_s, va_cpy, if_pos (by omega), show 0 + (i - 0) = i by omega, e71]; exact hC.2.2.2 i hi
    · unfold lvC at hy
      rw [F5 y (by omega), F4 y (by omega) (by omega) (by omega), F3 y (by omega) (by omega), F2 y (by omega)]
  · rw [h72] at h7
    exact absurd h7 (by decide)
theorem c_X11_restore0 {E : En} {d : Nat} {Q : QT} {X : XT} {g : G2} (h72 : g 72 0 = 0) (hq : Q (some (.int 0)) g) : M E md_X11_restore (d + 3) [.ref 0] g Q X := by
  refine M.of _ rfl rfl (Nat.le_of_ble_eq_true rfl) ?_
  refine b_aload_n dX11_restore_0 rfl rfl ?_
  refine b_getR (b := 72) lf_X11_58 rfl rfl dX11_restore_1 ?_
  refine b_getZ lf_X11_117 rfl dX11_restore_4 ?_
  refine b_if_ne (tgt := 12) dX11_restore_7 (by decide) (fun h7 => ?_) (fun h7 => ?_)
  · exact absurd h72 h7
  · refine b_iconst (v := 0) dX11_restore_10 (by decide +kernel) ?_
    refine b_zret (Or.inl rfl) rfl (by decide) dX11_restore_11 ?_
    exact hq
def RMi (g : G2) (T : TD) (F : FS) : Prop := g 84 59 = nI (f_na F) ∧ RMa g 120 T F ∧ g 84 60 = nI (f_nh F) ∧ RMh g 124 125 F ∧ RCu g 126 F ∧ RPk (g 119) 0 T (f_S F) ∧ (∀ i, i < l_n (f_S F) → g 121 i = l_g (f_S F) 0 i) ∧ (∀ i, i < l_n (f_S F) → g 122 i = l_g (f_S F) 1 i) ∧ (∀ i, i < l_n (f_S F) → g 123 i = l_g (f_S F) 2 i)
theorem RMa.copy {g h : G2} {z w : Nat} {T : TD} {F : FS} (h8 : t_n T ≤ 8) (oF : okF T F) (hA : RMa g z T F) (e : ∀ j, j < 1400 → h w j = g z j) : RMa h w T F := fun i hi => by
  have h40 := oF.1
  exact RPk.cg h8 (oF.A hi).2.2.2.2 (hA i hi) (fun j hj => e _ (by omega))
theorem c_X12_image {E : En} {d : Nat} {Q : QT} {X : XT} {g : G2} {T : TD} {F : FS} (h8 : t_n T ≤ 8) (oF : okF T F) (hM : RMf g T F) (hq : ∀ h, RMi h T F → h 84 58 = 1 → h 84 2 = 0 → (∀ y, y ≠ 84 → y < 119 → h y = g y) → (∀ j, j ≠ 2 ∧ ¬ (58 ≤ j ∧ j ≤ 60) → h 84 j = g 84 j) → Q none h) : M E md_X12_image (d + 2) [.ref 84] g Q X := by
  refine M.of _ rfl rfl (Nat.le_of_ble_eq_true rfl) ?_
  refine b_aload_n dX12_image_0 rfl rfl ?_
  refine b_iconst (v := 0) dX12_image_1 (by decide +kernel) ?_
  refine b_putI lf_X12_165 lp_12_2 rfl dX12_image_2 ?_
  refine b_aload_n dX12_image_5 rfl rfl ?_
  refine b_iconst (v := 1) dX12_image_6 (by decide +kernel) ?_
  refine b_putZ (Or.inr rfl) lf_X12_344 lp_12_58 rfl dX12_image_7 ?_
  refine b_aload_n dX12_image_10 rfl rfl ?_
  refine b_aload_n dX12_image_11 rfl rfl ?_
  refine b_getI lf_X12_338 rfl dX12_image_12 ?_
  refine b_topE (y := nI (f_na F)) (by rw [up2_k _ _ _ _ (by decide), up2_k _ _ _ _ (by decide)]; exact hM.2.1) ?_
  refine b_putI lf_X12_511 lp_12_59 rfl dX12_image_15 ?_
  refine b_aload_n dX12_image_18 rfl rfl ?_
  refine b_aload_n dX12_image_19 rfl rfl ?_
  refine b_getI lf_X12_341 rfl dX12_image_20 ?_
  refine b_topE (y := nI (f_nh F)) (by rw [up2_k _ _ _ _ (by decide), up2_k _ _ _ _ (by decide), up2_k _ _ _ _ (by decide)]; exact hM.2.2.2.1) ?_
  refine b_putI lf_X12_514 lp_12_60 rfl dX12_image_23 ?_
  refine b_aload_n dX12_image_26 rfl rfl ?_
  refine b_aload_n dX12_image_27 rfl rfl ?_
  refine b_getR (b := 119) lf_X12_141 rfl rfl dX12_image_28 ?_
  refine b_iconst (v := 0) dX12_image_31 (by decide +kernel) ?_
  refine b_callV (As := [_, _]) (st := []) dX12_image_32 lk_X12_387 lm_X12_pack lv_X12_pack rfl (by decide) rfl rfl rfl (Nat.le_of_ble_eq_true rfl) (Nat.le_refl _) (by decide) ?_
  refine c_X12_pack (z := 119) (n := 35) (f := 0) rfl (by decide) (by decide) (by decide) (fun h0 F0 _ pk => ?_)
  refine b_aload_n dX12_image_35 rfl rfl ?_
  refine b_getR (b := 120) lf_X12_144 rfl rfl dX12_image_36 ?_
  refine b_aload_n dX12_image_39 rfl rfl ?_
  refine b_getR (b := 103) lf_X12_90 rfl rfl dX12_image_40 ?_
  refine b_callS (As := [_, _]) (st := []) dX12_image_43 lk_X12_517 lm_X12_be ls_X12_be rfl rfl (Nat.le_of_ble_eq_true rfl) (Nat.le_refl _) (by decide) ?_
  refine c_X12_be (a := 120) (b := 103) (n := 1400) rfl rfl (by decide) (by decide) (by decide) (fun h1 F1 e1 => ?_)
  refine b_aload_n dX12_image_46 rfl rfl ?_
  refine b_getR (b := 121) lf_X12_147 rfl rfl dX12_image_47 ?_
  refine b_aload_n dX12_image_50 rfl rfl ?_
  refine b_getR (b := 104) lf_X12_93 rfl rfl dX12_image_51 ?_
  refine b_callS (As := [_, _]) (st := []) dX12_image_54 lk_X12_517 lm_X12_be ls_X12_be rfl rfl (Nat.le_of_ble_eq_true rfl) (Nat.le_refl _) (by decide) ?_
  refine c_X12_be (a := 121) (b := 104) (n := 400) rfl rfl (by decide) (by decide) (by decide) (fun h2 F2 e2 => ?_)
  refine b_aload_n dX12_image_57 rfl rfl ?_
  refine b_getR (b := 122) lf_X12_150 rfl rfl dX12_image_58 ?_
  refine b_aload_n dX12_image_61 rfl rfl ?_
  refine b_getR (b := 105) lf_X12_96 rfl rfl dX12_image_62 ?_
  refine b_callS (As := [_, _]) (st := []) dX12_image_65 lk_X12_517 lm_X12_be ls_X12_be rfl rfl (Nat.le_of_ble_eq_true rfl) (Nat.le_refl _) (by decide) ?_
  refine c_X12_be (a := 122) (b := 105) (n := 400) rfl rfl (by decide) (by decide) (by decide) (fun h3 F3 e3 => ?_)
  refine b_aload_n dX12_image_68 rfl rfl ?_
  refine b_getR (b := 123) lf_X12_153 rfl rfl dX12_image_69 ?_
  refine b_aload_n dX12_image_72 rfl rfl ?_
  refine b_getR (b := 106) lf_X12_99 rfl rfl dX12_image_73 ?_
  refine b_callS (As := [_, _]) (st := []) dX12_image_76 lk_X12_517 lm_X12_be ls_X12_be rfl rfl (Nat.le_of_ble_eq_true rfl) (Nat.le_refl _) (by decide) ?_
  refine c_X12_be (a := 123) (b := 106) (n := 400) rfl rfl (by decide) (by decide) (by decide) (fun h4 F4 e4 => ?_)
  refine b_aload_n dX12_image_79 rfl rfl ?_
  refine b_getR (b := 124) lf_X12_156 rfl rfl dX12_image_80 ?_
  refine b_aload_n dX12_image_83 rfl rfl ?_
  refine b_getR (b := 113) lf_X12_123 rfl rfl dX12_image_84 ?_
  refine b_callS (As := [_, _]) (st := []) dX12_image_87 lk_X12_517 lm_X12_be ls_X12_be rfl rfl (Nat.le_of_ble_eq_true rfl) (Nat.le_refl _) (by decide) ?_
  refine c_X12_be (a := 124) (b := 113) (n := 8) rfl rfl (by decide) (by decide) (by decide) (fun h5 F5 e5 => ?_)
  refine b_aload_n dX12_image_90 rfl rfl ?_
  refine b_getR (b := 125) lf_X12_159 rfl rfl dX12_image_91 ?_
  refine b_aload_n dX12_image_94 rfl rfl ?_
  refine b_getR (b := 114) lf_X12_126 rfl rfl dX12_image_95 ?_
  refine b_callS (As := [_, _]) (st := []) dX12_image_98 lk_X12_517 lm_X12_be ls_X12_be rfl rfl (Nat.le_of_ble_eq_true rfl) (Nat.le_refl _) (by decide) ?_
  refine c_X12_be (a := 125) (b := 114) (n := 8) rfl rfl (by decide) (by decide) (by decide) (fun h6 F6 e6 => ?_)
  refine b_aload_n dX12_image_101 rfl rfl ?_
  refine b_getR (b := 126) lf_X12_162 rfl rfl dX12_image_102 ?_
  refine b_aload_n dX12_image_105 rfl rfl ?_
  refine b_getR (b := 96) lf_X12_67 rfl rfl dX12_image_106 ?_
  refine b_callS (As := [_, _]) (st := []) dX12_image_109 lk_X12_517 lm_X12_be ls_X12_be rfl rfl (Nat.le_of_ble_eq_true rfl) (Nat.le_refl _) (by decide) ?_
  refine c_X12_be (a := 126) (b := 96) (n := 3) rfl rfl (by decide) (by decide) (by decide) (fun h7 F7 e7 => ?_)
  refine b_vret rfl (by decide) dX12_image_112 ?_
  have e84 : h7 84 = (up2 (up2 (up2 (up2 g 84 2 0) 84 58 1) 84 59 (nI (f_na F))) 84 60 (nI (f_nh F))) 84 := by rw [F7 84 (by decide), F6 84 (by decide), F5 84 (by decide), F4 84 (by decide), F3 84 (by decide), F2 84 (by decide), F1 84 (by decide), F0 84 (by decide)]
  refine hq h7 ⟨by rw [e84, up2_k _ _ _ _ (by decide)]; exact up2_s _ _ _ _, RMa.copy h8 oF hM.2.2.1 (fun j hj => ?_), by rw [e84]; exact up2_s _ _ _ _, ⟨fun i hi => ?_, fun i hi => ?_⟩, fun i hi => ?_, ?_, fun i hi => ?_, fun i hi => ?_, fun i hi => ?_⟩ (by rw [e84, up2_k _ _ _ _ (by decide), up2_k _ _ _ _ (by decide)]; exact up2_s _ _ _ _) (by rw [e84, up2_k _ _ _ _ (by decide), up2_k _ _ _ _ (by decide), up2_k _ _ _ _ (by decide)]; exact up2_s _ _ _ _) (fun y hy hy2 => ?_) (fun j hj => ?_)
  · rw [F7 120 (by decide), F6 120 (by decide), F5 120 (by decide), F4 120 (by decide), F3 120 (by decide), F2 120 (by decide), e1 j hj, F0 103 (by decide), up2_f _ _ _ _ (by decide), up2_f _ _ _ _ (by decide), up2_f _ _ _ _ (by decide), up2_f _ _ _ _ (by decide)]
  · rw [F7 124 (by decide), F6 124 (by decide), e5 i (by have := oF.2.1; omega), F4 113 (by decide), F3 113 (by decide), F2 113 (by decide), F1 113 (by decide), F0 113 (by decide), up2_f _ _ _ _ (by decide), up2_f _ _ _ _ (by decide), up2_f _ _ _ _ (by decide), up2_f _ _ _ _ (by decide)]; exact hM.2.2.2.2.1.1 i hi
  · rw [F7 125 (by decide), e6 i (by have := oF.2.1; omega), F5 114 (by decide), F4 114 (by decide), F3 114 (by decide), F2 114 (by decide), F1 114 (by decide), F0 114 (by decide), up2_f _ _ _ _ (by decide), up2_f _ _ _ _ (by decide), up2_f _ _ _ _ (by decide), up2_f _ _ _ _ (by decide)]; exact hM.2.2.2.2.1.2 i hi
  · rw [e7 i (by omega), F6 96 (by decide), F5 96 (by decide), F4 96 (by decide), F3 96 (by decide), F2 96 (by decide), F1 96 (by decide), F0 96 (by decide), up2_f _ _ _ _ (by decide), up2_f _ _ _ _ (by decide), up2_f _ _ _ _ (by decide), up2_f _ _ _ _ (by decide)]; exact hM.2.2.2.2.2 i hi
  · rw [F7 119 (by decide), F6 119 (by decide), F5 119 (by decide), F4 119 (by decide), F3 119 (by decide), F2 119 (by decide), F1 119 (by decide)]
    exact RPk.of h8 (hM.1.cg (fun j j1 j2 => by rw [up2_k _ _ _ _ (by omega), up2_k _ _ _ _ (by omega), up2_k _ _ _ _ (by omega), up2_k _ _ _ _ (by omega)]) (fun z z1 z2 z3 => by rw [up2_f _ _ _ _ (by omega), up2_f _ _ _ _ (by omega), up2_f _ _ _ _ (by omega), up2_f _ _ _ _ (by omega)])) pk
  · rw [F7 121 (by decide), F6 121 (by decide), F5 121 (by decide), F4 121 (by decide), F3 121 (by decide), e2 i (by have := hM.1.le; omega), F1 104 (by decide), F0 104 (by decide), up2_f _ _ _ _ (by decide), up2_f _ _ _ _ (by decide), up2_f _ _ _ _ (by decide), up2_f _ _ _ _ (by decide)]; exact hM.1.sg i hi
  · rw [F7 122 (by decide), F6 122 (by decide), F5 122 (by decide), F4 122 (by decide), e3 i (by have := hM.1.le; omega), F2 105 (by decide), F1 105 (by decide), F0 105 (by decide), up2_f _ _ _ _ (by decide), up2_f _ _ _ _ (by decide), up2_f _ _ _ _ (by decide), up2_f _ _ _ _ (by decide)]; exact hM.1.wh i hi
  · rw [F7 123 (by decide), F6 123 (by decide), F5 123 (by decide), e4 i (by have := hM.1.le; omega), F3 106 (by decide), F2 106 (by decide), F1 106 (by decide), F0 106 (by decide), up2_f _ _ _ _ (by decide), up2_f _ _ _ _ (by decide), up2_f _ _ _ _ (by decide), up2_f _ _ _ _ (by decide)]; exact hM.1.yi i hi
  · rw [F7 y (by omega), F6 y (by omega), F5 y (by omega), F4 y (by omega), F3 y (by omega), F2 y (by omega), F1 y (by omega), F0 y (by omega), up2_f _ _ _ _ (by omega), up2_f _ _ _ _ (by omega), up2_f _ _ _ _ (by omega), up2_f _ _ _ _ (by omega)]
  · rw [e84, up2_k _ _ _ _ (by omega), up2_k _ _ _ _ (by omega), up2_k _ _ _ _ (by omega), up2_k _ _ _ _ (by omega)]
theorem c_X12_restore1 {E : En} {d : Nat} {Q : QT} {X : XT} {g : G2} {T : TD} {F : FS} (h8 : t_n T ≤ 8) (oF : okF T F) (h58 : g 84 58 = 1) (hM : RMi g T F) (hq : ∀ h, RMf h T F → FN g h → h 84 2 = 0 → Q (some (.int 1)) h) : M E md_X12_restore (d + 2) [.ref 84] g Q X := by
  refine M.of _ rfl rfl (Nat.le_of_ble_eq_true rfl) ?_
  refine b_aload_n dX12_restore_0 rfl rfl ?_
  refine b_iconst (v := 0) dX12_restore_1 (by decide +kernel) ?_
  refine b_putI lf_X12_165 lp_12_2 rfl dX12_restore_2 ?_
  refine b_aload_n dX12_restore_5 rfl rfl ?_
  refine b_getZ lf_X12_344 rfl dX12_restore_6 ?_
  refine b_if_ne (tgt := 14) dX12_restore_9 (by decide) (fun h9 => ?_) (fun h9 => ?_)
  · refine b_aload_n dX12_restore_14 rfl rfl ?_
    refine b_aload_n dX12_restore_15 rfl rfl ?_
    refine b_getI lf_X12_511 rfl dX12_restore_16 ?_
    refine b_topE (y := nI (f_na F)) (by rw [up2_k _ _ _ _ (by decide)]; exact hM.1) ?_
    refine b_putI lf_X12_338 lp_12_37 rfl dX12_restore_19 ?_
    refine b_aload_n dX12_restore_22 rfl rfl ?_
    refine b_aload_n dX12_restore_23 rfl rfl ?_
    refine b_getI lf_X12_514 rfl dX12_restore_24 ?_
    refine b_topE (y := nI (f_nh F)) (by rw [up2_k _ _ _ _ (by decide), up2_k _ _ _ _ (by decide)]; exact hM.2.2.1) ?_
    refine b_putI lf_X12_341 lp_12_38 rfl dX12_restore_27 ?_
    refine b_aload_n dX12_restore_30 rfl rfl ?_
    refine b_aload_n dX12_restore_31 rfl rfl ?_
    refine b_getR (b := 119) lf_X12_141 rfl rfl dX12_restore_32 ?_
    refine b_iconst (v := 0) dX12_restore_35 (by decide +kernel) ?_
    refine b_callV (As := [_, _]) (st := []) dX12_restore_36 lk_X12_416 lm_X12_unpack lv_X12_unpack rfl (by decide) rfl rfl rfl (Nat.le_of_ble_eq_true rfl) (Nat.le_refl _) (by decide) ?_
    refine c_X12_unpack (z := 119) (n := 35) (f := 0) rfl (by decide) (by decide) (by decide) (fun h0 F0 u84 uk => ?_)
    rw [up2_f _ _ _ _ (by decide), up2_f _ _ _ _ (by decide), up2_f _ _ _ _ (by decide)] at uk
    refine b_aload_n dX12_restore_39 rfl rfl ?_
    refine b_getR (b := 103) lf_X12_90 rfl rfl dX12_restore_40 ?_
    refine b_aload_n dX12_restore_43 rfl rfl ?_
    refine b_getR (b := 120) lf_X12_144 rfl rfl dX12_restore_44 ?_
    refine b_callS (As := [_, _]) (st := []) dX12_restore_47 lk_X12_517 lm_X12_be ls_X12_be rfl rfl (Nat.le_of_ble_eq_true rfl) (Nat.le_refl _) (by decide) ?_
    refine c_X12_be (a := 103) (b := 120) (n := 1400) rfl rfl (by decide) (by decide) (by decide) (fun h1 F1 e1 => ?_)
    refine b_aload_n dX12_restore_50 rfl rfl ?_
    refine b_getR (b := 104) lf_X12_93 rfl rfl dX12_restore_51 ?_
    refine b_aload_n dX12_restore_54 rfl rfl ?_
    refine b_getR (b := 121) lf_X12_147 rfl rfl dX12_restore_55 ?_
    refine b_callS (As := [_, _]) (st := []) dX12_restore_58 lk_X12_517 lm_X12_be ls_X12_be rfl rfl (Nat.le_of_ble_eq_true rfl) (Nat.le_refl _) (by decide) ?_
    refine c_X12_be (a := 104) (b := 121) (n := 400) rfl rfl (by decide) (by decide) (by decide) (fun h2 F2 e2 => ?_)
    refine b_aload_n dX12_restore_61 rfl rfl ?_
    refine b_getR (b := 105) lf_X12_96 rfl rfl dX12_restore_62 ?_
    refine b_aload_n dX12_restore_65 rfl rfl ?_
    refine b_getR (b := 122) lf_X12_150 rfl rfl dX12_restore_66 ?_
    refine b_callS (As := [_, _]) (st := []) dX12_restore_69 lk_X12_517 lm_X12_be ls_X12_be rfl rfl (Nat.le_of_ble_eq_true rfl) (Nat.le_refl _) (by decide) ?_
    refine c_X12_be (a := 105) (b := 122) (n := 400) rfl rfl (by decide) (by decide) (by decide) (fun h3 F3 e3 => ?_)
    refine b_aload_n dX12_restore_72 rfl rfl ?_
    refine b_getR (b := 106) lf_X12_99 rfl rfl dX12_restore_73 ?_
    refine b_aload_n dX12_restore_76 rfl rfl ?_
    refine b_getR (b := 123) lf_X12_153 rfl rfl dX12_restore_77 ?_
    refine b_callS (As := [_, _]) (st := []) dX12_restore_80 lk_X12_517 lm_X12_be ls_X12_be rfl rfl (Nat.le_of_ble_eq_true rfl) (Nat.le_refl _) (by decide) ?_
    refine c_X12_be (a := 106) (b := 123) (n := 400) rfl rfl (by decide) (by decide) (by decide) (fun h4 F4 e4 => ?_)
    refine b_aload_n dX12_restore_83 rfl rfl ?_
    refine b_getR (b := 113) lf_X12_123 rfl rfl dX12_restore_84 ?_
    refine b_aload_n dX12_restore_87 rfl rfl ?_
    refine b_getR (b := 124) lf_X12_156 rfl rfl dX12_restore_88 ?_
    refine b_callS (As := [_, _]) (st := []) dX12_restore_91 lk_X12_517 lm_X12_be ls_X12_be rfl rfl (Nat.le_of_ble_eq_true rfl) (Nat.le_refl _) (by decide) ?_
    refine c_X12_be (a := 113) (b := 124) (n := 8) rfl rfl (by decide) (by decide) (by decide) (fun h5 F5 e5 => ?_)
    refine b_aload_n dX12_restore_94 rfl rfl ?_
    refine b_getR (b := 114) lf_X12_126 rfl rfl dX12_restore_95 ?_
    refine b_aload_n dX12_restore_98 rfl rfl ?_
    refine b_getR (b := 125) lf_X12_159 rfl rfl dX12_restore_99 ?_
    refine b_callS (As := [_, _]) (st := []) dX12_restore_102 lk_X12_517 lm_X12_be ls_X12_be rfl rfl (Nat.le_of_ble_eq_true rfl) (Nat.le_refl _) (by decide) ?_
    refine c_X12_be (a := 114) (b := 125) (n := 8) rfl rfl (by decide) (by decide) (by decide) (fun h6 F6 e6 => ?_)
    refine b_aload_n dX12_restore_105 rfl rfl ?_
    refine b_getR (b := 96) lf_X12_67 rfl rfl dX12_restore_106 ?_
    refine b_aload_n dX12_restore_109 rfl rfl ?_
    refine b_getR (b := 126) lf_X12_162 rfl rfl dX12_restore_110 ?_
    refine b_callS (As := [_, _]) (st := []) dX12_restore_113 lk_X12_517 lm_X12_be ls_X12_be rfl rfl (Nat.le_of_ble_eq_true rfl) (Nat.le_refl _) (by decide) ?_
    refine c_X12_be (a := 96) (b := 126) (n := 3) rfl rfl (by decide) (by decide) (by decide) (fun h7 F7 e7 => ?_)
    refine b_iconst (v := 1) dX12_restore_116 (by decide +kernel) ?_
    refine b_zret (Or.inr rfl) rfl (by decide) dX12_restore_117 ?_
    have hz : ∀ y, (y = 84 ∨ (99 ≤ y ∧ y ≤ 102)) → h7 y = h0 y := fun y hy => by rw [F7 y (by omega), F6 y (by omega), F5 y (by omega), F4 y (by omega), F3 y (by omega), F2 y (by omega), F1 y (by omega)]
    have s0 : ∀ i, i < l_n (f_S F) → h7 104 i = l_g (f_S F) 0 i := fun i hi => by rw [F7 104 (by decide), F6 104 (by decide), F5 104 (by decide), F4 104 (by decide), F3 104 (by decide), e2 i (by have := oF.S.1.1; omega), F1 121 (by decide), F0 121 (by decide) (by decide) (by decide) (by decide) (by decide), up2_f _ _ _ _ (by decide), up2_f _ _ _ _ (by decide), up2_f _ _ _ _ (by decide)]; exact hM.2.2.2.2.2.2.1 i hi
    have s1 : ∀ i, i < l_n (f_S F) → h7 105 i = l_g (f_S F) 1 i := fun i hi => by rw [F7 105 (by decide), F6 105 (by decide), F5 105 (by decide), F4 105 (by decide), e3 i (by have := oF.S.1.1; omega), F2 122 (by decide), F1 122 (by decide), F0 122 (by decide) (by decide) (by decide) (by decide) (by decide), up2_f _ _ _ _ (by decide), up2_f _ _ _ _ (by decide), up2_f _ _ _ _ (by decide)]; exact hM.2.2.2.2.2.2.2.1 i hi
    have s2 : ∀ i, i < l_n (f_S F) → h7 106 i = l_g (f_S F) 2 i := fun i hi => by rw [F7 106 (by decide), F6 106 (by decide), F5 106 (by decide), e4 i (by have := oF.S.1.1; omega), F3 123 (by decide), F2 123 (by decide), F1 123 (by decide), F0 123 (by decide) (by decide) (by decide) (by decide) (by decide), up2_f _ _ _ _ (by decide), up2_f _ _ _ _ (by decide), up2_f _ _ _ _ (by decide)]; exact hM.2.2.2.2.2.2.2.2 i hi
    have pk : PKD h7 (g 119) 0 := by unfold PKD at *; rw [hz 84 (by decide), hz 99 (by decide), hz 100 (by decide), hz 101 (by decide), hz 102 (by decide)]; exact uk
    have oS := oF.S
    refine hq h7 ⟨RMl.unp h8 oS.1.1 oS.2.2.2.2 pk hM.2.2.2.2.2.1 s0 s1 s2, by rw [hz 84 (by decide), u84 37 (by decide), up2_k _ _ _ _ (by decide)]; exact up2_s _ _ _ _, RMa.copy h8 oF hM.2.1 (fun j hj => ?_), by rw [hz 84 (by decide), u84 38 (by decide)]; exact up2_s _ _ _ _, ⟨fun i hi => ?_, fun i hi => ?_⟩, fun i hi => ?_⟩ ⟨fun y hy => ?_, fun j hj => ?_⟩ (by rw [hz 84 (by decide), u84 2 (by decide), up2_k _ _ _ _ (by decide), up2_k _ _ _ _ (by decide)]; exact up2_s _ _ _ _)
    · rw [F7 103 (by decide), F6 103 (by decide), F5 103 (by decide), F4 103 (by decide), F3 103 (by decide), F2 103 (by decide), e1 j hj, F0 120 (by decide) (by decide) (by decide) (by decide) (by decide), up2_f _ _ _ _ (by decide), up2_f _ _ _ _ (by decide), up2_f _ _ _ _ (by decide)]
    · rw [F7 113 (by decide), F6 113 (by decide), e5 i (by have := oF.2.1; omega), F4 124 (by decide), F3 124 (by decide), F2 124 (by decide), F1 124 (by decide), F0 124 (by decide) (by decide) (by decide) (by decide) (by decide), up2_f _ _ _ _ (by decide), up2_f _ _ _ _ (by decide), up2_f _ _ _ _ (by decide)]; exact hM.2.2.2.1.1 i hi
    · rw [F7 114 (by decide), e6 i (by have := oF.2.1; omega), F5 125 (by decide), F4 125 (by decide), F3 125 (by decide), F2 125 (by decide), F1 125 (by decide), F0 125 (by decide) (by decide) (by decide) (by decide) (by decide), up2_f _ _ _ _ (by decide), up2_f _ _ _ _ (by decide), up2_f _ _ _ _ (by decide)]; exact hM.2.2.2.1.2 i hi
    · rw [e7 i (by omega), F6 126 (by decide), F5 126 (by decide), F4 126 (by decide), F3 126 (by decide), F2 126 (by decide), F1 126 (by decide), F0 126 (by decide) (by decide) (by decide) (by decide) (by decide), up2_f _ _ _ _ (by decide), up2_f _ _ _ _ (by decide), up2_f _ _ _ _ (by decide)]; exact hM.2.2.2.2.1 i hi
    · rw [F7 y (by omega), F6 y (by omega), F5 y (by omega), F4 y (by omega), F3 y (by omega), F2 y (by omega), F1 y (by omega), F0 y (by omega) (by omega) (by omega) (by omega) (by omega), up2_f _ _ _ _ (by omega), up2_f _ _ _ _ (by omega), up2_f _ _ _ _ (by omega)]
    · rw [hz 84 (by decide), u84 j (by omega), up2_k _ _ _ _ (by omega), up2_k _ _ _ _ (by omega), up2_k _ _ _ _ (by omega)]
  · rw [up2_k _ _ _ _ (by decide), h58] at h9
    exact absurd h9 (by decide)
theorem c_X12_restore0 {E : En} {d : Nat} {Q : QT} {X : XT} {g : G2} (h58 : g 84 58 = 0) (hq : Q (some (.int 0)) (up2 g 84 2 0)) : M E md_X12_restore (d + 2) [.ref 84] g Q X := by
  refine M.of _ rfl rfl (Nat.le_of_ble_eq_true rfl) ?_
  refine b_aload_n dX12_restore_0 rfl rfl ?_
  refine b_iconst (v := 0) dX12_restore_1 (by decide +kernel) ?_
  refine b_putI lf_X12_165 lp_12_2 rfl dX12_restore_2 ?_
  refine b_aload_n dX12_restore_5 rfl rfl ?_
  refine b_getZ lf_X12_344 rfl dX12_restore_6 ?_
  refine b_if_ne (tgt := 14) dX12_restore_9 (by decide) (fun h9 => ?_) (fun h9 => ?_)
  · rw [up2_k _ _ _ _ (by decide)] at h9
    exact absurd h58 h9
  · refine b_iconst (v := 0) dX12_restore_12 (by decide +kernel) ?_
    refine b_zret (Or.inl rfl) rfl (by decide) dX12_restore_13 ?_
    exact hq
