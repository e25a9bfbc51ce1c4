theorem hasF_cg {f f2 ph ph2 : Nat → Int32} {n m : Nat} (h1 : ∀ i, i < n → f i = f2 i) (h2 : ∀ i, i < m → ph i = ph2 i) : hasF f n ph m = hasF f2 n ph2 m := by
  funext p
  unfold hasF
  by_cases h : p + m ≤ n
  · rw [anyN_cg (fun i hi => by rw [h1 (p + i) (by omega), h2 i hi])]
  · rw [decide_eq_false h]; rfl
theorem FC.of82 {g h : G2} (hF : ∀ y, y ≠ 82 → h y = g y) : FC g h := fun y hy => hF y (by unfold scC at hy; omega)
theorem FD.of109 {g h : G2} (hF : ∀ y, y ≠ 109 → h y = g y) : FD g h := ⟨fun y hy => hF y (by omega), fun j hj => by rw [hF 84 (by decide)]⟩
def phF (S : LfS) (v m : Int32) : Nat → Bool := hasF (l_g S 0) (l_n S) (phD v.toNatClampNeg m.toNatClampNeg) m.toNatClampNeg
def fouM (S : LfS) (v m w : Int32) : Nat × Int32 :=
  if inB w.toInt 0 1 then (if phOK v m then (0, if w = 0 then nI (cntN (phF S v m) (l_n S)) else fndF (phF S v m) (l_n S) 0) else (2, 0)) else (1, 0)
theorem fouM_1 {S : LfS} {v m w : Int32} (h : inB w.toInt 0 1 = false) : fouM S v m w = (1, 0) := by unfold fouM; rw [h]; rfl
theorem fouM_2 {S : LfS} {v m w : Int32} (h : inB w.toInt 0 1 = true) (h2 : phOK v m = false) : fouM S v m w = (2, 0) := by unfold fouM; rw [h, h2]; rfl
theorem fouM_0 {S : LfS} {v m w : Int32} (h : inB w.toInt 0 1 = true) (h2 : phOK v m = true) : fouM S v m w = (0, if w = 0 then nI (cntN (phF S v m) (l_n S)) else fndF (phF S v m) (l_n S) 0) := by unfold fouM; rw [h, h2]; rfl
theorem nI1 : (1 : Int32) = nI 1 := rfl
theorem c_X11_found {E : En} {d : Nat} {Q : QT} {X : XT} {g : G2} {T : TD} {S : LfS} {sp : Int32} {v m w : Int32} (hR : RLf g 31 T sp S) (hq : ∀ h, FC g h → (fouM S v m w).1 = 0 → Q (some (.int (fouM S v m w).2)) h) (hx : ∀ h, FC g h → (fouM S v m w).1 = 1 → X nsN h) (hy : ∀ h, FC g h → (fouM S v m w).1 = 2 → X iaN h) : M E md_X11_found (d + 7) [.ref 0, .int v, .int m, .int w] g Q X := by
  refine M.of _ rfl rfl (Nat.le_of_ble_eq_true rfl) ?_
  refine b_iload_n dX11_found_0 rfl rfl ?_
  refine b_iconst (v := 1) dX11_found_1 (by decide +kernel) ?_
  refine b_callS (As := [_, _]) (st := []) dX11_found_2 lk_X11_198 lm_X11_needWhat ls_X11_needWhat rfl rfl (Nat.le_of_ble_eq_true rfl) (Nat.le_refl _) (by decide) ?_
  refine c_X11_needWhat (fun hw => ?_) (fun hw => hx g (FC.rf g) (by rw [fouM_1 hw]))
  refine b_aload_n dX11_found_5 rfl rfl ?_
  refine b_iload_n dX11_found_6 rfl rfl ?_
  refine b_iload_n dX11_found_7 rfl rfl ?_
  refine b_callV (As := [_, _]) (st := []) dX11_found_8 lk_X11_261 lm_X11_spell lv_X11_spell rfl (by decide) rfl rfl rfl (Nat.le_of_ble_eq_true rfl) (Nat.le_refl _) (by decide) ?_
  refine c_X11_spell (fun h hz hF hC => ?_) (fun h hz hF => hy h (FC.of82 hF) (by rw [fouM_2 hw hz]))
  have hF2 := FC.of82 hF
  have hR := hR.fc hF2
  have hq := hq h hF2
  rw [fouM_0 hw hz] at hq
  have hq := hq rfl
  obtain ⟨V, M, hV, h1, h7, rfl, rfl⟩ := phOK_ex hz
  rw [nI_cl hV, nI_cl (by omega)] at hC
  have eP : phF S (nI V) (nI M) = (hasF (h 32) (l_n S) (h 82) M) := by
    unfold phF; rw [nI_cl hV, nI_cl (by omega)]
    exact hasF_cg (fun i hi => (hR.sg i hi).symm) (fun i hi => (hC i hi).symm)
  have h4 := hR.le
  have LP : w = 0 → ∀ i, i ≤ l_n S → B E md_X11_found (d + 7) Q X 36 [(0, .ref 0), (1, .int (nI V)), (2, .int (nI M)), (3, .int w), (4, .int (nI (cntN (hasF (h 32) (l_n S) (h 82) M) i))), (5, .int (nI i))] [] h 2 := by
    intro e3
    refine lp_up (fun i hi ih => ?_)
    refine b_iload dX11_found_36 rfl ?_
    refine b_aload_n dX11_found_38 rfl rfl ?_
    refine b_getR (b := 31) lf_X11_33 rfl rfl dX11_found_39 ?_
    refine b_getI lf_X11_140 (life_c is_life31) dX11_found_42 ?_
    refine b_topE (hR.n) ?_
    refine b_icmp_ge (tgt := 74) dX11_found_45 (by decide) (fun h45 => ?_) (fun h45 => ?_)
    · have e45 : (l_n S) ≤ i := nn_le (a := (l_n S)) (b := i) (by omega) (by omega) h45
      have e : i = l_n S := by omega
      subst e
      refine b_iload dX11_found_74 rfl ?_
      refine b_iret rfl (by decide) dX11_found_76 ?_
      rw [if_pos e3, eP] at hq
      exact hq
    · have e45 : i < (l_n S) := nn_nle (a := (l_n S)) (b := i) (by omega) (by omega) h45
      refine b_aload_n dX11_found_48 rfl rfl ?_
      refine b_getR (b := 31) lf_X11_33 rfl rfl dX11_found_49 ?_
      refine b_iload dX11_found_52 rfl ?_
      refine b_aload_n dX11_found_54 rfl rfl ?_
      refine b_getR (b := 82) lf_X11_79 rfl rfl dX11_found_55 ?_
      refine b_iload_n dX11_found_58 rfl rfl ?_
      refine b_callV (As := [_, _, _]) (st := []) dX11_found_59 lk_X11_268 lm_X5_hasAt lv_X5_hasAt (life_c is_life31) (by decide) rfl rfl rfl (Nat.le_of_ble_eq_true rfl) (Nat.le_refl _) (by decide) ?_
      refine c_X5_hasAt is_life31 hR.n hR.le h7 (by omega) ?_
      refine b_if_eq (tgt := 68) dX11_found_62 (by decide) (fun h62 => ?_) (fun h62 => ?_)
      · have e62 := b2i_0 h62
        refine b_incN (j := i) (lv' := [(0, _), (1, _), (2, _), (3, _), (4, _), (5, _)]) dX11_found_68 rfl rfl (by decide) rfl rfl ?_
        refine b_goto (tgt := 36) dX11_found_71 (by decide) ?_
        have z := ih (i + 1) (by omega) (by omega)
        rw [cntN, if_neg (by rw [e62]; decide), Nat.add_zero] at z
        exact z
      · have e62 := b2i_1 h62
        refine b_incN (j := cntN (hasF (h 32) (l_n S) (h 82) M) i) (lv' := [(0, _), (1, _), (2, _), (3, _), (4, _), (5, _)]) dX11_found_65 rfl rfl (by decide) rfl rfl ?_
        refine b_incN (j := i) (lv' := [(0, _), (1, _), (2, _), (3, _), (4, _), (5, _)]) dX11_found_68 rfl rfl (by decide) rfl rfl ?_
        refine b_goto (tgt := 36) dX11_found_71 (by decide) ?_
        have z := ih (i + 1) (by omega) (by omega)
        rw [cntN, if_pos (e62)] at z
        exact z
  refine b_iload_n dX11_found_11 rfl rfl ?_
  refine b_iconst (v := 1) dX11_found_12 (by decide +kernel) ?_
  refine b_icmp_ne (tgt := 30) dX11_found_13 (by decide) (fun h13 => ?_) (fun h13 => ?_)
  · refine b_iconst (v := 0) dX11_found_30 (by decide +kernel) ?_
    refine b_istore (lv' := [(0, _), (1, _), (2, _), (3, _), (4, _)]) dX11_found_31 (by decide) rfl rfl ?_
    refine b_iconst (v := 0) dX11_found_33 (by decide +kernel) ?_
    refine b_istore (lv' := [(0, _), (1, _), (2, _), (3, _), (4, _), (5, _)]) dX11_found_34 (by decide) rfl rfl ?_
    exact LP (Classical.byContradiction (fun q => h13 (in01 hw q))) 0 (Nat.zero_le _)
  · refine b_aload_n dX11_found_16 rfl rfl ?_
    refine b_getR (b := 31) lf_X11_33 rfl rfl dX11_found_17 ?_
    refine b_iconst (v := 0) dX11_found_20 (by decide +kernel) ?_
    refine b_aload_n dX11_found_21 rfl rfl ?_
    refine b_getR (b := 82) lf_X11_79 rfl rfl dX11_found_22 ?_
    refine b_iload_n dX11_found_25 rfl rfl ?_
    refine b_callV (As := [_, _, _]) (st := []) dX11_found_26 lk_X11_264 lm_X5_firstFrom lv_X5_firstFrom (life_c is_life31) (by decide) rfl rfl rfl (Nat.le_of_ble_eq_true rfl) (Nat.le_refl _) (by decide) ?_
    refine c_X5_firstFrom (s := 0) is_life31 hR.n hR.le h7 (Nat.zero_le _) ?_
    refine b_iret rfl (by decide) dX11_found_29 ?_
    rw [if_neg (by rw [h13]; decide), eP] at hq
    exact hq
theorem c_X12_found {E : En} {d : Nat} {Q : QT} {X : XT} {g : G2} {T : TD} {S : LfS} {v m w : Int32} (hR : RMl g T S) (hq : ∀ h, FD g h → RMl h T S → h 84 2 = nI (fouM S v m w).1 → Q (some (.int (fouM S v m w).2)) h) : M E md_X12_found (d + 2) [.ref 84, .int v, .int m, .int w] g Q X := by
  refine M.of _ rfl rfl (Nat.le_of_ble_eq_true rfl) ?_
  refine b_aload_n dX12_found_0 rfl rfl ?_
  refine b_iconst (v := 0) dX12_found_1 (by decide +kernel) ?_
  refine b_putI lf_X12_165 lp_12_2 rfl dX12_found_2 ?_
  have F1 : FD g (up2 g 84 2 0) := FD.code 0
  have c1 : up2 g 84 2 0 84 2 = 0 := up2_s _ _ _ _
  have hR := hR.code (x := 0)
  generalize up2 g 84 2 0 = g1 at F1 c1 hR ⊢
  refine b_iload_n dX12_found_5 rfl rfl ?_
  refine b_if_lt (tgt := 14) dX12_found_6 (by decide) (fun h6 => ?_) (fun h6 => ?_)
  · refine b_aload_n dX12_found_14 rfl rfl ?_
    refine b_iconst (v := 1) dX12_found_15 (by decide +kernel) ?_
    refine b_callV (As := [_]) (st := []) dX12_found_16 lk_X12_303 lm_X12_fail lv_X12_fail rfl (by decide) rfl rfl rfl (Nat.le_of_ble_eq_true rfl) (Nat.le_refl _) (by decide) ?_
    refine c_X12_fail ?_
    refine b_iret rfl (by decide) dX12_found_19 ?_
    rw [show fouM S v m w = (1, 0) from fouM_1 (in_lt h6)] at hq
    exact hq _ (F1.tr (FD.code 1)) hR.code (up2_s _ _ _ _)
  · refine b_iload_n dX12_found_9 rfl rfl ?_
    refine b_iconst (v := 1) dX12_found_10 (by decide +kernel) ?_
    refine b_icmp_le (tgt := 20) dX12_found_11 (by decide) (fun h11 => ?_) (fun h11 => ?_)
    · have hw := in_ok (b := 1) rfl h6 h11
      refine b_aload_n dX12_found_20 rfl rfl ?_
      refine b_iload_n dX12_found_21 rfl rfl ?_
      refine b_iload_n dX12_found_22 rfl rfl ?_
      refine b_callV (As := [_, _]) (st := []) dX12_found_23 lk_X12_424 lm_X12_tellPhrase lv_X12_tellPhrase rfl (by decide) rfl rfl rfl (Nat.le_of_ble_eq_true rfl) (Nat.le_refl _) (by decide) ?_
      refine c_X12_tellPhrase (fun h b hz hF hC => ?_)
      have F2 := F1.tr (FD.of109 hF)
      have hR := hR.cg (h := h) (fun j _ _ => by rw [hF 84 (by decide)]) (fun z a b c => hF z (by omega))
      have c1 : h 84 2 = 0 := by rw [hF 84 (by decide)]; exact c1
      
      refine b_if_ne (tgt := 35) dX12_found_26 (by decide) (fun h26 => ?_) (fun h26 => ?_)
      · have e26 := b2i_1 h26
        subst e26
        rw [fouM_0 hw hz] at hq
        have hq := hq h F2 hR c1
        obtain ⟨V, M, hV, h1, h7, rfl, rfl⟩ := phOK_ex hz
        have hC := hC rfl
        rw [nI_cl hV, nI_cl (by omega)] at hC
        have eP : phF S (nI V) (nI M) = (hasF (h 104) (l_n S) (h 109) M) := by
          unfold phF; rw [nI_cl hV, nI_cl (by omega)]
          exact hasF_cg (fun i hi => (hR.sg i hi).symm) (fun i hi => (hC i hi).symm)
        have h4 := hR.le
        have LP : ∀ i, i ≤ l_n S → B E md_X12_found (d + 2) Q X 41 [(0, .ref 84), (1, .int (nI V)), (2, .int (nI M)), (3, .int w), (4, .int (nI (cntN (hasF (h 104) (l_n S) (h 109) M) i))), (5, .int (nI i))] [] h 0 := by
          refine lp_up (fun i hi ih => ?_)
          refine b_iload dX12_found_41 rfl ?_
          refine b_aload_n dX12_found_43 rfl rfl ?_
          refine b_getI lf_X12_320 rfl dX12_found_44 ?_
          refine b_topE (hR.n) ?_
          refine b_icmp_ge (tgt := 76) dX12_found_47 (by decide) (fun h47 => ?_) (fun h47 => ?_)
          · have e47 : (l_n S) ≤ i := nn_le (a := (l_n S)) (b := i) (by omega) (by omega) h47
            have e : i = l_n S := by omega
            subst e
            refine b_iload_n dX12_found_76 rfl rfl ?_
            refine b_if_ne (tgt := 85) dX12_found_77 (by decide) (fun h77 => ?_) (fun h77 => ?_)
            · refine b_aload_n dX12_found_85 rfl rfl ?_
              refine b_iconst (v := 0) dX12_found_86 (by decide +kernel) ?_
              refine b_iload_n dX12_found_87 rfl rfl ?_
              refine b_callV (As := [_, _]) (st := []) dX12_found_88 lk_X12_427 lm_X12_firstFrom lv_X12_firstFrom rfl (by decide) rfl rfl rfl (Nat.le_of_ble_eq_true rfl) (Nat.le_refl _) (by decide) ?_
              refine c_X12_firstFrom (s := 0) hR.n hR.le h7 (Nat.zero_le _) ?_
              refine b_iret rfl (by decide) dX12_found_91 ?_
              rw [if_neg h77, eP] at hq
              exact hq
            · refine b_iload dX12_found_80 rfl ?_
              refine b_goto (tgt := 91) dX12_found_82 (by decide) ?_
              refine b_iret rfl (by decide) dX12_found_91 ?_
              rw [if_pos h77, eP] at hq
              exact hq
          · have e47 : i < (l_n S) := nn_nle (a := (l_n S)) (b := i) (by omega) (by omega) h47
            refine b_iload dX12_found_50 rfl ?_
            refine b_aload_n dX12_found_52 rfl rfl ?_
            refine b_iload dX12_found_53 rfl ?_
            refine b_iload_n dX12_found_55 rfl rfl ?_
            refine b_callV (As := [_, _]) (st := [_]) dX12_found_56 lk_X12_421 lm_X12_isAt lv_X12_isAt rfl (by decide) rfl rfl rfl (Nat.le_of_ble_eq_true rfl) (Nat.le_refl _) (by decide) ?_
            refine c_X12_isAt hR.n hR.le h7 (by omega) ?_
            refine b_if_eq (tgt := 66) dX12_found_59 (by decide) (fun h59 => ?_) (fun h59 => ?_)
            · have e59 := b2i_0 h59
              refine b_iconst (v := 0) dX12_found_66 (by decide +kernel) ?_
              refine b_iadd dX12_found_67 ?_
              refine b_topE (nI_add (cntN (hasF (h 104) (l_n S) (h 109) M) i) 0) ?_
              refine b_istore (lv' := [(0, _), (1, _), (2, _), (3, _), (4, _), (5, _)]) dX12_found_68 (by decide) rfl rfl ?_
              refine b_incN (j := i) (lv' := [(0, _), (1, _), (2, _), (3, _), (4, _), (5, _)]) dX12_found_70 rfl rfl (by decide) rfl rfl ?_
              refine b_goto (tgt := 41) dX12_found_73 (by decide) ?_
              have z := ih (i + 1) (by omega) (by omega)
              rw [cntN, if_neg (by rw [e59]; decide), Nat.add_zero] at z
              exact z
            · have e59 := b2i_1 h59
              refine b_iconst (v := 1) dX12_found_62 (by decide +kernel) ?_
              refine b_goto (tgt := 67) dX12_found_63 (by decide) ?_
              refine b_iadd dX12_found_67 ?_
              refine b_topE (nI_add (cntN (hasF (h 104) (l_n S) (h 109) M) i) 1) ?_
              refine b_istore (lv' := [(0, _), (1, _), (2, _), (3, _), (4, _), (5, _)]) dX12_found_68 (by decide) rfl rfl ?_
              refine b_incN (j := i) (lv' := [(0, _), (1, _), (2, _), (3, _), (4, _), (5, _)]) dX12_found_70 rfl rfl (by decide) rfl rfl ?_
              refine b_goto (tgt := 41) dX12_found_73 (by decide) ?_
              have z := ih (i + 1) (by omega) (by omega)
              rw [cntN, if_pos (e59)] at z
              exact z
        refine b_iconst (v := 0) dX12_found_35 (by decide +kernel) ?_
        refine b_istore (lv' := [(0, _), (1, _), (2, _), (3, _), (4, _)]) dX12_found_36 (by decide) rfl rfl ?_
        refine b_iconst (v := 0) dX12_found_38 (by decide +kernel) ?_
        refine b_istore (lv' := [(0, _), (1, _), (2, _), (3, _), (4, _), (5, _)]) dX12_found_39 (by decide) rfl rfl ?_
        exact LP 0 (Nat.zero_le _)
      · have e26 := b2i_0 h26
        subst e26
        refine b_aload_n dX12_found_29 rfl rfl ?_
        refine b_iconst (v := 2) dX12_found_30 (by decide +kernel) ?_
        refine b_callV (As := [_]) (st := []) dX12_found_31 lk_X12_303 lm_X12_fail lv_X12_fail rfl (by decide) rfl rfl rfl (Nat.le_of_ble_eq_true rfl) (Nat.le_refl _) (by decide) ?_
        refine c_X12_fail ?_
        refine b_iret rfl (by decide) dX12_found_34 ?_
        rw [show fouM S v m w = (2, 0) from fouM_2 hw hz] at hq
        exact hq _ (F2.tr (FD.code 2)) hR.code (up2_s _ _ _ _)
    · refine b_aload_n dX12_found_14 rfl rfl ?_
      refine b_iconst (v := 1) dX12_found_15 (by decide +kernel) ?_
      refine b_callV (As := [_]) (st := []) dX12_found_16 lk_X12_303 lm_X12_fail lv_X12_fail rfl (by decide) rfl rfl rfl (Nat.le_of_ble_eq_true rfl) (Nat.le_refl _) (by decide) ?_
      refine c_X12_fail ?_
      refine b_iret rfl (by decide) dX12_found_19 ?_
      rw [show fouM S v m w = (1, 0) from fouM_1 (in_gt rfl h11)] at hq
      exact hq _ (F1.tr (FD.code 1)) hR.code (up2_s _ _ _ _)
def itvM (S : LfS) (u : Int32) : Nat × Int32 := if inB u.toInt 0 11 then (0, nI (cntN (rsP (l_g S 0) 0 u) (l_n S))) else (1, 0)
theorem itvM_1 {S : LfS} {u : Int32} (h : inB u.toInt 0 11 = false) : itvM S u = (1, 0) := by unfold itvM; rw [h]; rfl
theorem itvM_0 {S : LfS} {u : Int32} (h : inB u.toInt 0 11 = true) : itvM S u = (0, nI (cntN (rsP (l_g S 0) 0 u) (l_n S))) := by unfold itvM; rw [h]; rfl
theorem rsP_cg {f f2 : Nat → Int32} {n s : Nat} {u : Int32} (h : ∀ i, i < n → f i = f2 i) : ∀ i, i < n → rsP f s u i = rsP f2 s u i := fun i hi => by
  unfold rsP; rw [h i hi, h (i - 1) (by omega)]
def ivP (f : Nat → Int32) (u : Int32) (i : Nat) : Bool := decide (1 ≤ i) && !(f i == 12) && !(f (i - 1) == 12) && byM (f i - f (i - 1)) == u
theorem iv_tab : ∀ a, a < 12 → ∀ b, b < 12 → ∀ u, u < 12 → (byM (nI b - nI a) == nI u) = (rmI (nI a + nI u) 12 == nI b) := by decide +kernel
theorem tr_tab : ∀ a, a < 12 → ∀ b, b < 12 → ((if 0 ≤ nI b - nI a then nI b - nI a else 0 - (nI b - nI a)) == 6) = (rmI (nI a + 6) 12 == nI b) := by decide +kernel
theorem ne12 {s : Nat} {x : Int32} (h : s ≤ 12) (hx : x = nI s) : (x == 12) = false → s < 12 := fun q => by
  rcases Nat.lt_or_ge s 12 with p | p
  · exact p
  · have : s = 12 := by omega
    subst this; subst hx; exact absurd q (by decide)
theorem iv_rs {f : Nat → Int32} {n u : Nat} (hu : u < 12) (h : ∀ i, i < n → ∃ s, s ≤ 12 ∧ f i = nI s) : ∀ i, i < n → ivP f (nI u) i = rsP f 0 (nI u) i := fun i hi => by
  unfold ivP rsP
  cases h1 : decide (1 ≤ i) with
  | false => rfl
  | true =>
    obtain ⟨a, a1, a2⟩ := h i hi
    obtain ⟨b, b1, b2⟩ := h (i - 1) (by omega)
    cases h2 : f i == 12 with
    | true => simp
    | false =>
      cases h3 : f (i - 1) == 12 with
      | true => simp
      | false => rw [a2, b2, iv_tab b (ne12 b1 b2 h3) a (ne12 a1 a2 h2) u hu]; simp
theorem tr_rs {f : Nat → Int32} {n s : Nat} (h : ∀ i, i < n → ∃ s, s ≤ 12 ∧ f i = nI s) : ∀ i, i < n → (decide (s ≤ i) && trB f i) = rsP f s 6 i := fun i hi => by
  unfold trB rsP
  cases h1 : decide (0 < i) with
  | false => rw [show decide (1 ≤ i) = false from h1]; simp
  | true =>
    have h1 := of_decide_eq_true h1
    rw [show decide (1 ≤ i) = true from decide_eq_true h1]
    obtain ⟨a, a1, a2⟩ := h i hi
    obtain ⟨b, b1, b2⟩ := h (i - 1) (by omega)
    cases h2 : f i == 12 with
    | true => simp
    | false =>
      cases h3 : f (i - 1) == 12 with
      | true => simp
      | false => rw [a2, b2, tr_tab b (ne12 b1 b2 h3) a (ne12 a1 a2 h2)]; simp
theorem c_X11_interval {E : En} {d : Nat} {Q : QT} {X : XT} {g : G2} {T : TD} {S : LfS} {sp : Int32} {u : Int32} (hR : RLf g 31 T sp S) (hq : ∀ h, FC g h → (itvM S u).1 = 0 → Q (some (.int (itvM S u).2)) h) (hx : ∀ h, FC g h → (itvM S u).1 = 1 → X iaN h) : M E md_X11_interval (d + 6) [.ref 0, .int u] g Q X := by
  refine M.of _ rfl rfl (Nat.le_of_ble_eq_true rfl) ?_
  refine b_iload_n dX11_interval_0 rfl rfl ?_
  refine b_if_lt (tgt := 10) dX11_interval_1 (by decide) (fun h1 => ?_) (fun h1 => ?_)
  · have hx := hx g (FC.rf g) (by rw [itvM_1 (in_lt h1)])
    refine b_throwW (text := "no such interval") (n := 37) rfl th_iae (by decide +kernel) (by omega) (by decide) (by decide) dX11_interval_10 dX11_interval_13 dX11_interval_14 dX11_interval_17 dX11_interval_20 ?_
    exact hx
  · refine b_iload_n dX11_interval_4 rfl rfl ?_
    refine b_bipush (v := 12) dX11_interval_5 (by decide +kernel) ?_
    refine b_icmp_lt (tgt := 21) dX11_interval_7 (by decide) (fun h7 => ?_) (fun h7 => ?_)
    · have hw : inB u.toInt 0 11 = true := in_ok (m := 11) rfl h1 (by rw [Int32.lt_iff_toInt_lt] at h7; rw [Int32.le_iff_toInt_le]; rw [show (12 : Int32).toInt = 12 from by decide] at h7; rw [show (11 : Int32).toInt = 11 from by decide]; omega)
      refine b_aload_n dX11_interval_21 rfl rfl ?_
      refine b_getR (b := 31) lf_X11_33 rfl rfl dX11_interval_22 ?_
      refine b_iconst (v := 0) dX11_interval_25 (by decide +kernel) ?_
      refine b_iload_n dX11_interval_26 rfl rfl ?_
      refine b_callV (As := [_, _]) (st := []) dX11_interval_27 lk_X11_285 lm_X5_risesFrom lv_X5_risesFrom (life_c is_life31) (by decide) rfl rfl rfl (Nat.le_of_ble_eq_true rfl) (Nat.le_refl _) (by decide) ?_
      refine c_X5_risesFrom (s := 0) is_life31 hR.n hR.le (Nat.zero_le _) ?_
      refine b_iret rfl (by decide) dX11_interval_30 ?_
      have hq := hq g (FC.rf g) (by rw [itvM_0 hw])
      rw [itvM_0 hw, cntN_cg (rsP_cg (fun i hi => (hR.sg i hi).symm))] at hq
      exact hq
    · have hx := hx g (FC.rf g) (by rw [itvM_1 (in_gt (m := 11) rfl (fun q => h7 (Int32.lt_of_le_of_lt q (by decide))))])
      refine b_throwW (text := "no such interval") (n := 37) rfl th_iae (by decide +kernel) (by omega) (by decide) (by decide) dX11_interval_10 dX11_interval_13 dX11_interval_14 dX11_interval_17 dX11_interval_20 ?_
      exact hx
theorem c_X12_interval {E : En} {d : Nat} {Q : QT} {X : XT} {g : G2} {T : TD} {S : LfS} {u : Int32} (hR : RMl g T S) (oS : okS T S) (hq : ∀ h, FD g h → RMl h T S → h 84 2 = nI (itvM S u).1 → Q (some (.int (itvM S u).2)) h) : M E md_X12_interval (d + 1) [.ref 84, .int u] g Q X := by
  refine M.of _ rfl rfl (Nat.le_of_ble_eq_true rfl) ?_
  refine b_aload_n dX12_interval_0 rfl rfl ?_
  refine b_iconst (v := 0) dX12_interval_1 (by decide +kernel) ?_
  refine b_putI lf_X12_165 lp_12_2 rfl dX12_interval_2 ?_
  have F1 : FD g (up2 g 84 2 0) := FD.code 0
  have c1 : up2 g 84 2 0 84 2 = 0 := up2_s _ _ _ _
  have hR := hR.code (x := 0)
  generalize up2 g 84 2 0 = g1 at F1 c1 hR ⊢
  refine b_iload_n dX12_interval_5 rfl rfl ?_
  refine b_i2l dX12_interval_6 rfl ?_
  refine b_lconst (v := 0) dX12_interval_7 (by decide +kernel) ?_
  refine b_ldc2 lx_X12_448 dX12_interval_8 ?_
  refine b_callS (As := [_, _, _]) (st := []) dX12_interval_11 lk_X12_168 lm_X12_isIn ls_X12_isIn rfl rfl (Nat.le_of_ble_eq_true rfl) (Nat.le_refl _) (by decide) ?_
  refine c_X12_isIn ?_
  rw [in_64b (a' := 0) (b' := 11) (by decide) (by decide)]
  refine b_if_ne (tgt := 23) dX12_interval_14 (by decide) (fun h14 => ?_) (fun h14 => ?_)
  · have e14 := b2i_1 h14
    obtain ⟨u, _, hu, rfl⟩ := inB_ex (a := 0) (b := 11) e14
    have h4 := hR.le
    have hq := hq g1 F1 hR (by rw [itvM_0 e14]; exact c1)
    have hs : ∀ i, i < l_n S → ∃ s, s ≤ 12 ∧ g1 104 i = nI s := fun i hi => by rw [hR.sg i hi]; exact oS.2.1 i hi
    rw [itvM_0 e14, cntN_cg (rsP_cg (fun i hi => (hR.sg i hi).symm)), ← cntN_cg (iv_rs (by omega) hs)] at hq
    have LP : ∀ i, i ≤ l_n S → 1 ≤ i → B E md_X12_interval (d + 1) Q X 27 [(0, .ref 84), (1, .int (nI u)), (2, .int (nI (cntN (ivP (g1 104) (nI u)) i))), (3, .int (nI i))] [] g1 0 := by
      refine lp_up (fun i hi ih h1 => ?_)
      refine b_iload_n dX12_interval_27 rfl rfl ?_
      refine b_aload_n dX12_interval_28 rfl rfl ?_
      refine b_getI lf_X12_320 rfl dX12_interval_29 ?_
      refine b_topE (hR.n) ?_
      refine b_icmp_ge (tgt := 95) dX12_interval_32 (by decide) (fun h32 => ?_) (fun h32 => ?_)
      · have e32 : (l_n S) ≤ i := nn_le (a := (l_n S)) (b := i) (by omega) (by omega) h32
        have e : i = l_n S := by omega
        subst e
        refine b_iload_n dX12_interval_95 rfl rfl ?_
        refine b_iret rfl (by decide) dX12_interval_96 ?_
        exact hq
      · have e32 : i < (l_n S) := nn_nle (a := (l_n S)) (b := i) (by omega) (by omega) h32
        refine b_iload_n dX12_interval_35 rfl rfl ?_
        refine b_aload_n dX12_interval_36 rfl rfl ?_
        refine b_getR (b := 104) lf_X12_93 rfl rfl dX12_interval_37 ?_
        refine b_iload_n dX12_interval_40 rfl rfl ?_
        refine b_ildN (j := i) dX12_interval_41 (rfl) (by show _ < 400; omega) ?_
        refine b_bipush (v := 12) dX12_interval_42 (by decide +kernel) ?_
        refine b_icmp_eq (tgt := 86) dX12_interval_44 (by decide) (fun h44 => ?_) (fun h44 => ?_)
        · refine b_iconst (v := 0) dX12_interval_86 (by decide +kernel) ?_
          refine b_iadd dX12_interval_87 ?_
          refine b_topE (nI_add (cntN (ivP (g1 104) (nI u)) i) 0) ?_
          refine b_istore_n (lv' := [(0, _), (1, _), (2, _), (3, _)]) dX12_interval_88 rfl (by decide) rfl rfl ?_
          refine b_incN (j := i) (lv' := [(0, _), (1, _), (2, _), (3, _)]) dX12_interval_89 rfl rfl (by decide) rfl rfl ?_
          refine b_goto (tgt := 27) dX12_interval_92 (by decide) ?_
          have z := ih (i + 1) (by omega) (by omega) (by omega)
          rw [cntN, if_neg (by unfold ivP; simp [h44]), Nat.add_zero] at z
          exact z
        · refine b_aload_n dX12_interval_47 rfl rfl ?_
          refine b_getR (b := 104) lf_X12_93 rfl rfl dX12_interval_48 ?_
          refine b_iload_n dX12_interval_51 rfl rfl ?_
          refine b_iconst (v := 1) dX12_interval_52 (by decide +kernel) ?_
          refine b_isub dX12_interval_53 ?_
          refine b_topE (nI_sub i 1 (by omega)) ?_
          refine b_ildN (j := (i - 1)) dX12_interval_54 (rfl) (by show _ < 400; omega) ?_
          refine b_bipush (v := 12) dX12_interval_55 (by decide +kernel) ?_
          refine b_icmp_eq (tgt := 86) dX12_interval_57 (by decide) (fun h57 => ?_) (fun h57 => ?_)
          · refine b_iconst (v := 0) dX12_interval_86 (by decide +kernel) ?_
            refine b_iadd dX12_interval_87 ?_
            refine b_topE (nI_add (cntN (ivP (g1 104) (nI u)) i) 0) ?_
            refine b_istore_n (lv' := [(0, _), (1, _), (2, _), (3, _)]) dX12_interval_88 rfl (by decide) rfl rfl ?_
            refine b_incN (j := i) (lv' := [(0, _), (1, _), (2, _), (3, _)]) dX12_interval_89 rfl rfl (by decide) rfl rfl ?_
            refine b_goto (tgt := 27) dX12_interval_92 (by decide) ?_
            have z := ih (i + 1) (by omega) (by omega) (by omega)
            rw [cntN, if_neg (by unfold ivP; simp [h57]), Nat.add_zero] at z
            exact z
          · refine b_aload_n dX12_interval_60 rfl rfl ?_
            refine b_getR (b := 104) lf_X12_93 rfl rfl dX12_interval_61 ?_
            refine b_iload_n dX12_interval_64 rfl rfl ?_
            refine b_ildN (j := i) dX12_interval_65 (rfl) (by show _ < 400; omega) ?_
            refine b_aload_n dX12_interval_66 rfl rfl ?_
            refine b_getR (b := 104) lf_X12_93 rfl rfl dX12_interval_67 ?_
            refine b_iload_n dX12_interval_70 rfl rfl ?_
            refine b_iconst (v := 1) dX12_interval_71 (by decide +kernel) ?_
            refine b_isub dX12_interval_72 ?_
            refine b_topE (nI_sub i 1 (by omega)) ?_
            refine b_ildN (j := (i - 1)) dX12_interval_73 (rfl) (by show _ < 400; omega) ?_
            refine b_isub dX12_interval_74 ?_
            refine b_callS (As := [_]) (st := [_]) dX12_interval_75 lk_X12_364 lm_X12_by12 ls_X12_by12 rfl rfl (Nat.le_of_ble_eq_true rfl) (Nat.le_refl _) (by decide) ?_
            refine c_X12_by12 ?_
            refine b_iload_n dX12_interval_78 rfl rfl ?_
            refine b_icmp_ne (tgt := 86) dX12_interval_79 (by decide) (fun h79 => ?_) (fun h79 => ?_)
            · refine b_iconst (v := 0) dX12_interval_86 (by decide +kernel) ?_
              refine b_iadd dX12_interval_87 ?_
              refine b_topE (nI_add (cntN (ivP (g1 104) (nI u)) i) 0) ?_
              refine b_istore_n (lv' := [(0, _), (1, _), (2, _), (3, _)]) dX12_interval_88 rfl (by decide) rfl rfl ?_
              refine b_incN (j := i) (lv' := [(0, _), (1, _), (2, _), (3, _)]) dX12_interval_89 rfl rfl (by decide) rfl rfl ?_
              refine b_goto (tgt := 27) dX12_interval_92 (by decide) ?_
              have z := ih (i + 1) (by omega) (by omega) (by omega)
              rw [cntN, if_neg (by unfold ivP; rw [beq_eq_false_iff_ne.mpr h79]; simp), Nat.add_zero] at z
              exact z
            · refine b_iconst (v := 1) dX12_interval_82 (by decide +kernel) ?_
              refine b_goto (tgt := 87) dX12_interval_83 (by decide) ?_
              refine b_iadd dX12_interval_87 ?_
              refine b_topE (nI_add (cntN (ivP (g1 104) (nI u)) i) 1) ?_
              refine b_istore_n (lv' := [(0, _), (1, _), (2, _), (3, _)]) dX12_interval_88 rfl (by decide) rfl rfl ?_
              refine b_incN (j := i) (lv' := [(0, _), (1, _), (2, _), (3, _)]) dX12_interval_89 rfl rfl (by decide) rfl rfl ?_
              refine b_goto (tgt := 27) dX12_interval_92 (by decide) ?_
              have z := ih (i + 1) (by omega) (by omega) (by omega)
              rw [cntN, if_pos (by unfold ivP; rw [h79]; simp [h44, h57]; omega)] at z
              exact z
    refine b_iconst (v := 0) dX12_interval_23 (by decide +kernel) ?_
    refine b_istore_n (lv' := [(0, _), (1, _), (2, _)]) dX12_interval_24 rfl (by decide) rfl rfl ?_
    refine b_iconst (v := 1) dX12_interval_25 (by decide +kernel) ?_
    refine b_istore_n (lv' := [(0, _), (1, _), (2, _), (3, _)]) dX12_interval_26 rfl (by decide) rfl rfl ?_
    by_cases en : l_n S = 0
    · refine b_iload_n dX12_interval_27 rfl rfl ?_
      refine b_aload_n dX12_interval_28 rfl rfl ?_
      refine b_getI lf_X12_320 rfl dX12_interval_29 ?_
      refine b_icmp_ge (tgt := 95) dX12_interval_32 (by decide) (fun _ => ?_) (fun q => absurd (by rw [hR.n, en]; decide) q)
      refine b_iload_n dX12_interval_95 rfl rfl ?_
      refine b_iret rfl (by decide) dX12_interval_96 ?_
      rw [en] at hq
      exact hq
    · exact LP 1 (by omega) (Nat.le_refl _)
  · have e14 := b2i_0 h14
    refine b_aload_n dX12_interval_17 rfl rfl ?_
    refine b_iconst (v := 1) dX12_interval_18 (by decide +kernel) ?_
    refine b_callV (As := [_]) (st := []) dX12_interval_19 lk_X12_303 lm_X12_fail lv_X12_fail rfl (by decide) rfl rfl rfl (Nat.le_of_ble_eq_true rfl) (Nat.le_refl _) (by decide) ?_
    refine c_X12_fail ?_
    refine b_iret rfl (by decide) dX12_interval_22 ?_
    rw [show itvM S u = (1, 0) from itvM_1 e14] at hq
    exact hq _ (F1.tr (FD.code 1)) hR.code (up2_s _ _ _ _)
