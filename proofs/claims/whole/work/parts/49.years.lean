theorem RCf.push {g h : G2} {T : TD} {F : FS} {R : LfS} (hC : RCf g 31 61 65 71 T F) (h40 : f_na F ≤ 40) (hR : RLf h 31 T (-1) R) (k1 : h 61 1 = nI (f_na F - shF F + 1)) (kc : ∀ i r, i < f_na F - shF F → r < 4 → h 62 (4 * i + r) = g 62 (4 * (i + shF F) + r)) (hn : actR T (fun j => h 62 (4 * (f_na F - shF F) + j)) (f_S F) R) (e1 : h 65 = g 65) (e2 : h 66 = g 66) (e3 : h 67 = g 67) (e4 : h 71 = g 71) : RCf h 31 61 65 71 T (pushF F R) := by
  have hs := shF_ok h40
  exact ⟨hR, hC.2.1.push h40 (by rw [k1]; exact congrArg nI (by omega)) kc hn, hC.2.2.1.cg e1 e2 e3, hC.2.2.2.cg e4⟩
theorem keep_hm {F : FS} (h40 : f_na F ≤ 40) : (f_na F < 40 ∧ f_na F - shF F = f_na F ∧ shF F = 0) ∨ (f_na F = 40 ∧ f_na F - shF F = 39 ∧ shF F = 1) := by
  unfold shF
  by_cases h : f_na F < 40
  · rw [if_pos h]; exact Or.inl ⟨h, by omega, rfl⟩
  · rw [if_neg h]; exact Or.inr ⟨by omega, by omega, rfl⟩
theorem RTn.fa {g h : G2} {t : Nat} {T : TD} (ht : is_town t) (hT : RTn g t T) (F : ∀ y, 5 ≤ y → y ≤ 30 → y ≠ t + 12 → h y = g y) : RTn h t T := hT.cg (fun k hk => F (t + k) (by unfold is_town at ht; omega) (by unfold is_town at ht; omega) (by omega))
theorem c_X11_refuseAct {E : En} {d : Nat} {Q : QT} {X : XT} {g : G2} (hq : Q none (up2 g 71 1 (g 71 1 + 1))) : M E md_X11_refuseAct d [.ref 0] g Q X := by
  refine M.of _ rfl rfl (Nat.le_of_ble_eq_true rfl) ?_
  refine b_aload_n dX11_refuseAct_0 rfl rfl ?_
  refine b_getR (b := 71) lf_X11_51 rfl rfl dX11_refuseAct_1 ?_
  refine b_iconst (v := 1) dX11_refuseAct_4 (by decide +kernel) ?_
  refine b_dup2 dX11_refuseAct_5 rfl rfl ?_
  refine b_ildN (j := 1) dX11_refuseAct_6 (rfl) (by show _ < 3; omega) ?_
  refine b_iconst (v := 1) dX11_refuseAct_7 (by decide +kernel) ?_
  refine b_iadd dX11_refuseAct_8 ?_
  refine b_istN (j := 1) dX11_refuseAct_9 (rfl) (by show _ < 3; omega) ?_
  refine b_vret rfl (by decide) dX11_refuseAct_10 ?_
  exact hq
def yeaM (T : TD) (F : FS) (n : Int32) : Nat × Int32 × FS :=
  if inB n.toInt 1 20 = true ∧ l_g (f_S F) 3 0 + n ≤ 999 then (0, l_g (yrsM T (-1) (f_S F) n.toNatClampNeg) 3 0, pushF F (yrsM T (-1) (f_S F) n.toNatClampNeg)) else (0, -1, refF F 1)
theorem yeaM_n {T : TD} {F : FS} {n : Int32} (h : ¬ (inB n.toInt 1 20 = true ∧ l_g (f_S F) 3 0 + n ≤ 999)) : yeaM T F n = (0, -1, refF F 1) := if_neg h
theorem yeaM_y {T : TD} {F : FS} {n : Nat} (h1 : 1 ≤ n) (h2 : n ≤ 20) (h3 : l_g (f_S F) 3 0 + nI n ≤ 999) : yeaM T F (nI n) = (0, l_g (yrsM T (-1) (f_S F) n) 3 0, pushF F (yrsM T (-1) (f_S F) n)) := by unfold yeaM; rw [if_pos ⟨inB_nI (by omega) (by omega) (by omega), h3⟩, nI_cl (by omega)]
theorem wfT_of {T : TD} (h : okT T) : wfT T := fun ask k hk => evM_len (h.2.1 ask) k hk
theorem c_X11_years {E : En} {d : Nat} {Q : QT} {X : XT} {g : G2} {t : Nat} (ht : is_town t) (h0 : g 0 2 = nI t) {T : TD} {F : FS} (hT : RTn g t T) (hC : RCf g 31 61 65 71 T F) (oF : okF T F) (oT : okT T) {n0 : Int32} (hq : ∀ h, RCf h 31 61 65 71 T (yeaM T F n0).2.2 → FA g h → Q (some (.int (yeaM T F n0).2.1)) h) : M E md_X11_years (d + 4) [.ref 0, .int n0] g Q X := by
  refine M.of _ rfl rfl (Nat.le_of_ble_eq_true rfl) ?_
  refine b_iload_n dX11_years_0 rfl rfl ?_
  refine b_iconst (v := 1) dX11_years_1 (by decide +kernel) ?_
  refine b_icmp_lt (tgt := 26) dX11_years_2 (by decide) (fun h2 => ?_) (fun h2 => ?_)
  · have hz : ¬ (inB n0.toInt 1 20 = true ∧ l_g (f_S F) 3 0 + n0 ≤ 999) := fun q => by rw [inB_lo (by decide) h2] at q; exact absurd q.1 (by decide)
    refine b_aload_n dX11_years_26 rfl rfl ?_
    refine b_callV (As := []) (st := []) dX11_years_27 lk_X11_227 lm_X11_refuseAct lv_X11_refuseAct rfl (by decide) rfl rfl rfl (Nat.le_of_ble_eq_true rfl) (Nat.le_refl _) (by decide) ?_
    refine c_X11_refuseAct ?_
    refine b_iconst (v := (-1)) dX11_years_30 (by decide +kernel) ?_
    refine b_iret rfl (by decide) dX11_years_31 ?_
    have e := yeaM_n (T := T) hz
    rw [e] at hq
    exact hq _ hC.ref (FA.ref g 1 _)
  · refine b_iload_n dX11_years_5 rfl rfl ?_
    refine b_bipush (v := 20) dX11_years_6 (by decide +kernel) ?_
    refine b_icmp_gt (tgt := 26) dX11_years_8 (by decide) (fun h8 => ?_) (fun h8 => ?_)
    · have hz : ¬ (inB n0.toInt 1 20 = true ∧ l_g (f_S F) 3 0 + n0 ≤ 999) := fun q => by rw [inB_hi (by decide) h8] at q; exact absurd q.1 (by decide)
      refine b_aload_n dX11_years_26 rfl rfl ?_
      refine b_callV (As := []) (st := []) dX11_years_27 lk_X11_227 lm_X11_refuseAct lv_X11_refuseAct rfl (by decide) rfl rfl rfl (Nat.le_of_ble_eq_true rfl) (Nat.le_refl _) (by decide) ?_
      refine c_X11_refuseAct ?_
      refine b_iconst (v := (-1)) dX11_years_30 (by decide +kernel) ?_
      refine b_iret rfl (by decide) dX11_years_31 ?_
      have e := yeaM_n (T := T) hz
      rw [e] at hq
      exact hq _ hC.ref (FA.ref g 1 _)
    · refine b_aload_n dX11_years_11 rfl rfl ?_
      refine b_getR (b := 31) lf_X11_33 rfl rfl dX11_years_12 ?_
      refine b_getI lf_X11_137 (life_c is_life31) dX11_years_15 ?_
      refine b_iload_n dX11_years_18 rfl rfl ?_
      refine b_iadd dX11_years_19 ?_
      refine b_sipush (v := 999) dX11_years_20 (by decide +kernel) ?_
      refine b_icmp_le (tgt := 32) dX11_years_23 (by decide) (fun h23 => ?_) (fun h23 => ?_)
      · obtain ⟨n, hn1, hn2, rfl⟩ := in_rng (a := 1) (b := 20) (by decide) (by decide) h2 h8
        rw [hC.1.yy] at h23
        rw [yeaM_y hn1 hn2 h23] at hq
        refine b_aload_n dX11_years_32 rfl rfl ?_
        refine b_getR (b := 61) lf_X11_40 rfl rfl dX11_years_33 ?_
        refine b_iconst (v := 0) dX11_years_36 (by decide +kernel) ?_
        refine b_aload_n dX11_years_37 rfl rfl ?_
        refine b_getR (b := 31) lf_X11_33 rfl rfl dX11_years_38 ?_
        refine b_getI lf_X11_140 (life_c is_life31) dX11_years_41 ?_
        refine b_aload_n dX11_years_44 rfl rfl ?_
        refine b_getR (b := 31) lf_X11_33 rfl rfl dX11_years_45 ?_
        refine b_getI lf_X11_137 (life_c is_life31) dX11_years_48 ?_
        refine b_iconst (v := 0) dX11_years_51 (by decide +kernel) ?_
        refine b_callV (As := [_, _, _, _]) (st := []) dX11_years_52 lk_X11_230 lm_X0_keep lv_X0_keep (acts_c is_acts61) (by decide) rfl rfl rfl (Nat.le_of_ble_eq_true rfl) (Nat.le_refl _) (by decide) ?_
        refine c_X0_keep is_acts61 (hC.2.1.1) (keep_hm oF.1) (fun g2 kF kA kn kc k0 k1 k2 k3 => ?_)
        have ht30 : t = 5 ∨ t = 18 := ht
        have LP : ∀ i, i ≤ n → ∀ h, RLf h 31 T (-1) (yrsM T (-1) (f_S F) i) → (∀ y, y ≠ 31 → y ≠ 32 → y ≠ 33 → y ≠ 34 → y ≠ 37 → y ≠ t + 12 → h y = g2 y) → B E md_X11_years (d + 4) Q X 57 [(0, .ref 0), (1, .int (nI n)), (2, .int (nI i))] [] h 0 := by
          refine lp_up (fun i hi ih h hR hF => ?_)
          refine b_iload_n dX11_years_57 rfl rfl ?_
          refine b_iload_n dX11_years_58 rfl rfl ?_
          refine b_icmp_ge (tgt := 79) dX11_years_59 (by decide) (fun h59 => ?_) (fun h59 => ?_)
          · have e59 : n ≤ i := nn_le (a := n) (b := i) (by omega) (by omega) h59
            have e : i = n := by omega
            subst e
            refine b_aload_n dX11_years_79 rfl rfl ?_
            refine b_getR (b := 31) lf_X11_33 rfl rfl dX11_years_80 ?_
            refine b_getI lf_X11_137 (life_c is_life31) dX11_years_83 ?_
            refine b_iret rfl (by decide) dX11_years_86 ?_
            rw [hR.yy]
            refine hq h (hC.push oF.1 hR (by rw [hF 61 (by decide) (by decide) (by decide) (by decide) (by decide) (by omega)]; exact kn) (fun i r i1 i2 => by rw [hF 62 (by decide) (by decide) (by decide) (by decide) (by decide) (by omega)]; exact kc i r i1 i2) ?_ ?_ ?_ ?_ ?_) (fun y y1 y2 y3 y4 y5 => ?_)
            · have e62 := hF 62 (by decide) (by decide) (by decide) (by decide) (by decide) (by omega)
              exact act_years hC.1.le (by show h 62 _ = _; rw [e62]; exact k0) (by show h 62 _ = _; rw [e62, k1]; exact hC.1.n) (by show h 62 _ = _; rw [e62, k2]; exact hC.1.yy)
            · rw [hF 65 (by decide) (by decide) (by decide) (by decide) (by decide) (by omega), kF 65 (by decide)]
            · rw [hF 66 (by decide) (by decide) (by decide) (by decide) (by decide) (by omega), kF 66 (by decide)]
            · rw [hF 67 (by decide) (by decide) (by decide) (by decide) (by decide) (by omega), kF 67 (by decide)]
            · rw [hF 71 (by decide) (by decide) (by decide) (by decide) (by decide) (by omega), kF 71 (by decide)]
            · unfold scC at y1
              rw [hF y (by omega) (by omega) (by omega) (by omega) (by omega) (by unfold is_town at ht; omega), kF y (by simp; omega)]
          · have e59 : i < n := nn_nle (a := n) (b := i) (by omega) (by omega) h59
            refine b_aload_n dX11_years_62 rfl rfl ?_
            refine b_getR (b := 31) lf_X11_33 rfl rfl dX11_years_63 ?_
            refine b_aload_n dX11_years_66 rfl rfl ?_
            refine b_getD lf_X11_26 rfl (by rw [hF 0 (by decide) (by decide) (by decide) (by decide) (by decide) (by omega), kF 0 (by decide)]; exact h0) (town_31 ht) dX11_years_67 ?_
            refine b_callV (As := [_]) (st := []) dX11_years_70 lk_X11_234 lm_X5_passYear lv_X5_passYear (life_c is_life31) (by decide) rfl rfl rfl (Nat.le_of_ble_eq_true rfl) (Nat.le_refl _) (by decide) ?_
            refine c_X5_passYear is_life31 ht hR (hT.fa ht (fun y y1 y2 y3 => by rw [hF y (by omega) (by omega) (by omega) (by omega) (by omega) y3, kF y (by simp; omega)])) (wfT_of oT) (fun h2 hF2 hR2 => ?_)
            refine b_incN (j := i) (lv' := [(0, _), (1, _), (2, _)]) dX11_years_73 rfl rfl (by decide) rfl rfl ?_
            refine b_goto (tgt := 57) dX11_years_76 (by decide) ?_
            refine ih (i + 1) (by omega) (by omega) h2 (hR2) (fun y y1 y2 y3 y4 y5 y6 => ?_)
            rw [hF2 y (by simp only [List.mem_cons, List.not_mem_nil, or_false, not_or]; omega)]; exact hF y y1 y2 y3 y4 y5 y6
        refine b_iconst (v := 0) dX11_years_55 (by decide +kernel) ?_
        refine b_istore_n (lv' := [(0, _), (1, _), (2, _)]) dX11_years_56 rfl (by decide) rfl rfl ?_
        exact LP 0 (Nat.zero_le _) g2 (hC.1.cg (fun k hk => kF _ (by simp; omega))) (fun _ _ _ _ _ _ _ => rfl)
      · have hz : ¬ (inB n0.toInt 1 20 = true ∧ l_g (f_S F) 3 0 + n0 ≤ 999) := fun q => h23 (by rw [hC.1.yy]; exact q.2)
        refine b_aload_n dX11_years_26 rfl rfl ?_
        refine b_callV (As := []) (st := []) dX11_years_27 lk_X11_227 lm_X11_refuseAct lv_X11_refuseAct rfl (by decide) rfl rfl rfl (Nat.le_of_ble_eq_true rfl) (Nat.le_refl _) (by decide) ?_
        refine c_X11_refuseAct ?_
        refine b_iconst (v := (-1)) dX11_years_30 (by decide +kernel) ?_
        refine b_iret rfl (by decide) dX11_years_31 ?_
        have e := yeaM_n (T := T) hz
        rw [e] at hq
        exact hq _ hC.ref (FA.ref g 1 _)
