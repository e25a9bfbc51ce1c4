def FY (g h : G2) : Prop := (∀ y, (y < 84 ∨ (85 ≤ y ∧ y ≤ 98) ∨ y = 103 ∨ y = 113 ∨ y = 114 ∨ 117 ≤ y) → h y = g y) ∧ ∀ j, (j < 30 ∨ 36 < j) → h 84 j = g 84 j
theorem FY.rf (g : G2) : FY g g := ⟨fun _ _ => rfl, fun _ _ => rfl⟩
theorem FY.tr {g h k : G2} (h1 : FY g h) (h2 : FY h k) : FY g k := ⟨fun y q => (h2.1 y q).trans (h1.1 y q), fun j q => (h2.2 j q).trans (h1.2 j q)⟩
theorem FY.fd {g h : G2} (f : FY g h) : FD g h := ⟨fun y q => f.1 y (by omega), fun j q => f.2 j (by omega)⟩
theorem FY.tm {g h : G2} {T : TD} (f : FY g h) (hT : RMt g T) : RMt h T := hT.fd f.fd
theorem c_X12_tellUnlike {E : En} {d : Nat} {Q : QT} {X : XT} {g : G2} {T : TD} {F : FS} (hR : RMl g T (f_S F)) (hT : RMt g T) (oT : okT T) (oF : okF T F) (hn : g 84 38 = nI (f_nh F)) (hH : RMh g 113 114 F) (s44 : g 84 44 = -1) (hq : ∀ h, RMl h T (f_S F) → FY g h → (∀ x, x < 60 → h 116 x = lsI T F (l_n (f_S F) + x) (t_n T)) → Q none h) : M E md_X12_tellUnlike (d + 6) [.ref 84, .int (nI (stN (hsB T F) (t_n T)))] g Q X := by
  refine M.of _ rfl rfl (Nat.le_of_ble_eq_true rfl) ?_
  have h8 := hT.le
  have h4n := hR.le
  have LP : ∀ p, p ≤ t_n T → ∀ h0, RMl h0 T (f_S F) → FY g h0 → h0 84 44 = -1 → (∀ x, x < 60 → h0 116 x = lsI T F (l_n (f_S F) + x) p) → B E md_X12_tellUnlike (d + 6) Q X 28 [(0, .ref 84), (1, .int (nI (stN (hsB T F) (t_n T)))), (2, .int (nI (l_n (f_S F)))), (3, .int (nI p))] [] h0 0 := by
    refine lp_up (fun p hp ih h0 hR1 fy s44 hz => ?_)
    refine b_iload_n dX12_tellUnlike_28 rfl rfl ?_
    refine b_aload_n dX12_tellUnlike_29 rfl rfl ?_
    refine b_getR (b := 87) lf_X12_40 rfl rfl dX12_tellUnlike_30 ?_
    refine b_iconst (v := 0) dX12_tellUnlike_33 (by decide +kernel) ?_
    refine b_ildN (j := 0) dX12_tellUnlike_34 (rfl) (by show _ < 10; omega) ?_
    refine b_topE (y := nI (t_n T)) ((fy.tm hT).n) ?_
    refine b_icmp_ge (tgt := 143) dX12_tellUnlike_35 (by decide) (fun h35 => ?_) (fun h35 => ?_)
    · have e35 : (t_n T) ≤ p := nn_le (a := (t_n T)) (b := p) (by omega) (by omega) h35
      have ee : p = t_n T := by omega
      subst ee
      refine b_vret rfl (by decide) dX12_tellUnlike_143 ?_
      exact hq h0 hR1 fy hz
    · have e35 : p < (t_n T) := nn_nle (a := (t_n T)) (b := p) (by omega) (by omega) h35
      refine b_iload_n dX12_tellUnlike_38 rfl rfl ?_
      refine b_iload_n dX12_tellUnlike_39 rfl rfl ?_
      refine b_callS (As := [_, _]) (st := []) dX12_tellUnlike_40 lk_X12_370 lm_X12_isOf ls_X12_isOf rfl rfl (Nat.le_of_ble_eq_true rfl) (Nat.le_refl _) (by decide) ?_
      refine c_X12_isOf ?_
      rw [stN_bt (hsB T F) (t_n T) h8 p (by omega), decide_eq_true (show p < t_n T by omega), Bool.true_and]
      refine b_if_ne (tgt := 49) dX12_tellUnlike_43 (by decide) (fun h43 => ?_) (fun h43 => ?_)
      · have e43 := b2i_1 h43
        have hsp := e43
        refine b_aload_n dX12_tellUnlike_49 rfl rfl ?_
        refine b_aload_n dX12_tellUnlike_50 rfl rfl ?_
        refine b_getR (b := 112) lf_X12_120 rfl rfl dX12_tellUnlike_51 ?_
        refine b_iconst (v := 0) dX12_tellUnlike_54 (by decide +kernel) ?_
        refine b_callV (As := [_, _]) (st := []) dX12_tellUnlike_55 lk_X12_387 lm_X12_pack lv_X12_pack rfl (by decide) rfl rfl rfl (Nat.le_of_ble_eq_true rfl) (Nat.le_refl _) (by decide) ?_
        refine c_X12_pack (z := 112) (n := 35) (f := 0) rfl (by decide) (by decide) (by decide) (fun h1 pF _ pk => ?_)
        have rk := RPk.of hT.le hR1 pk
        have hR1z := hR1.ofZ (by decide) pF
        refine b_aload_n dX12_tellUnlike_58 rfl rfl ?_
        refine b_iload_n dX12_tellUnlike_59 rfl rfl ?_
        refine b_putI lf_X12_108 lp_12_44 rfl dX12_tellUnlike_60 ?_
        refine b_aload_n dX12_tellUnlike_63 rfl rfl ?_
        refine b_bipush (v := 20) dX12_tellUnlike_64 (by decide +kernel) ?_
        refine b_callV (As := [_]) (st := []) dX12_tellUnlike_66 lk_X12_399 lm_X12_goOn lv_X12_goOn rfl (by decide) rfl rfl rfl (Nat.le_of_ble_eq_true rfl) (Nat.le_refl _) (by decide) ?_
        refine c_X12_goOn (n := 20) (sp := nI p) ((FX.f44 h1 (nI p)).tm ((fy.tm hT).fd (FD.ofZ (z := 112) (by decide) pF))) hR1z.f44 oT oF.S.1 (up2_s _ _ _ _) (by decide) (fun h2 fm hR2 => ?_)
        have h5 := hR2.le
        have IN : ∀ i, i ≤ 60 → ∀ h, (∀ y, y ≠ 116 → h y = h2 y) → (∀ x, x < i → h 116 x = lsI T F (l_n (f_S F) + x) (p + 1)) → (∀ x, i ≤ x → x < 60 → h 116 x = lsI T F (l_n (f_S F) + x) p) → B E md_X12_tellUnlike (d + 6) Q X 72 [(0, .ref 84), (1, .int (nI (stN (hsB T F) (t_n T)))), (2, .int (nI (l_n (f_S F)))), (3, .int (nI p)), (4, .int (nI i))] [] h 0 := by
          refine lp_up (fun i hi ihI h hF hA hB => ?_)
          refine b_iload dX12_tellUnlike_72 rfl ?_
          refine b_bipush (v := 60) dX12_tellUnlike_74 (by decide +kernel) ?_
          refine b_icmp_ge (tgt := 123) dX12_tellUnlike_76 (by decide) (fun h76 => ?_) (fun h76 => ?_)
          · have e76 : 60 ≤ i := nn_le (a := 60) (b := i) (by omega) (by omega) h76
            have ee : i = 60 := by omega
            subst ee
            refine b_aload_n dX12_tellUnlike_123 rfl rfl ?_
            refine b_iconst (v := (-1)) dX12_tellUnlike_124 (by decide +kernel) ?_
            refine b_putI lf_X12_108 lp_12_44 rfl dX12_tellUnlike_125 ?_
            refine b_aload_n dX12_tellUnlike_128 rfl rfl ?_
            refine b_aload_n dX12_tellUnlike_129 rfl rfl ?_
            refine b_getR (b := 112) lf_X12_120 rfl rfl dX12_tellUnlike_130 ?_
            refine b_iconst (v := 0) dX12_tellUnlike_133 (by decide +kernel) ?_
            refine b_callV (As := [_, _]) (st := []) dX12_tellUnlike_134 lk_X12_416 lm_X12_unpack lv_X12_unpack rfl (by decide) rfl rfl rfl (Nat.le_of_ble_eq_true rfl) (Nat.le_refl _) (by decide) ?_
            refine c_X12_unpack (z := 112) (n := 35) (f := 0) rfl (by decide) (by decide) (by decide) (fun h4 uF u84 uk => ?_)
            have e112 : up2 h 84 44 (-1) 112 = h1 112 := by rw [up2_f _ _ _ _ (by decide), hF 112 (by decide), fm.1 112 (by decide) (by decide) (by decide) (by decide) (by decide) (by decide), up2_f _ _ _ _ (by decide)]
            have hR4 : RMl h4 T (f_S F) := RMl.back hT.le oF.S.1 oF.S.2.2.2.2 (by rw [e112]; exact rk) (RMl.f44 (hR2.cg (fun j _ _ => by rw [hF 84 (by decide)]) (fun z z1 z2 z3 => hF z (by omega)))) (yrsM_pre T (nI p) (f_S F) 20) uF uk
            have Y4 : FY h0 h4 := ⟨fun y hy => by rw [uF y (by omega) (by omega) (by omega) (by omega) (by omega), up2_f _ _ _ _ (by omega), hF y (by omega), fm.1 y (by omega) (by omega) (by omega) (by omega) (by omega) (by omega), up2_f _ _ _ _ (by omega), pF y (by omega)], fun j hj => by
              rw [u84 j hj]
              by_cases z : j = 44
              · subst z; rw [up2_s, s44]
              · rw [up2_k _ _ _ _ z, hF 84 (by decide), fm.2 j (by omega) (by omega), up2_k _ _ _ _ z, pF 84 (by decide)]⟩
            have e116 : ∀ x, x < 60 → h4 116 x = lsI T F (l_n (f_S F) + x) (p + 1) := fun x hx => by rw [uF 116 (by decide) (by decide) (by decide) (by decide) (by decide), up2_f _ _ _ _ (by decide)]; exact hA x hx
            refine b_incN (j := p) (lv' := [(0, _), (1, _), (2, _), (3, _), (4, _)]) dX12_tellUnlike_137 rfl rfl (by decide) rfl rfl ?_
            refine b_goto (tgt := 28) dX12_tellUnlike_140 (by decide) ?_
            refine b_take 4 ?_
            exact ih (p + 1) (by omega) (by omega) h4 hR4 (fy.tr Y4) (by rw [Y4.2 44 (by decide)]; exact s44) e116
          · have e76 : i < 60 := nn_nle (a := 60) (b := i) (by omega) (by omega) h76
            refine b_aload_n dX12_tellUnlike_79 rfl rfl ?_
            refine b_getR (b := 116) lf_X12_132 rfl rfl dX12_tellUnlike_80 ?_
            refine b_iload dX12_tellUnlike_83 rfl ?_
            refine b_dup2 dX12_tellUnlike_85 rfl rfl ?_
            refine b_ildN (j := i) dX12_tellUnlike_86 (rfl) (by show _ < 60; omega) ?_
            refine b_iload_n dX12_tellUnlike_87 rfl rfl ?_
            refine b_iload dX12_tellUnlike_88 rfl ?_
            refine b_iadd dX12_tellUnlike_90 ?_
            refine b_topE (nI_add (l_n (f_S F)) i) ?_
            refine b_aload_n dX12_tellUnlike_91 rfl rfl ?_
            refine b_getI lf_X12_320 rfl dX12_tellUnlike_92 ?_
            refine b_topE (y := nI (l_n (yrsM T (nI p) (f_S F) 20))) (by rw [hF 84 (by decide)]; exact hR2.n) ?_
            refine b_icmp_ge (tgt := 112) dX12_tellUnlike_95 (by decide) (fun h95 => ?_) (fun h95 => ?_)
            · have e95 : (l_n (yrsM T (nI p) (f_S F) 20)) ≤ ((l_n (f_S F) + i)) := nn_le (a := (l_n (yrsM T (nI p) (f_S F) 20))) (b := ((l_n (f_S F) + i))) (by omega) (by omega) h95
              refine b_sipush (v := 8192) dX12_tellUnlike_112 (by decide +kernel) ?_
              refine b_ior dX12_tellUnlike_115 ?_
              refine b_istN (j := i) dX12_tellUnlike_116 (rfl) (by show _ < 60; omega) ?_
              refine b_incN (j := i) (lv' := [(0, _), (1, _), (2, _), (3, _), (4, _)]) dX12_tellUnlike_117 rfl rfl (by decide) rfl rfl ?_
              refine b_goto (tgt := 72) dX12_tellUnlike_120 (by decide) ?_
              refine ihI (i + 1) (by omega) (by omega) _ (fun y hy => by rw [up2_f _ _ _ _ hy]; exact hF y hy) (fun x x1 => ?_) (fun x x1 x2 => by rw [up2_k _ _ _ _ (by omega)]; exact hB x (by omega) x2)
              by_cases ex : x = i
              · subst ex
                rw [up2_s, hB x (Nat.le_refl _) (by omega), lsI, if_pos hsp]
                unfold lsV
                rw [if_neg (Nat.not_lt.mpr e95)]
                rfl
              · rw [up2_k _ _ _ _ ex]; exact hA x (by omega)
            · have e95 : ((l_n (f_S F) + i)) < (l_n (yrsM T (nI p) (f_S F) 20)) := nn_nle (a := (l_n (yrsM T (nI p) (f_S F) 20))) (b := ((l_n (f_S F) + i))) (by omega) (by omega) h95
              refine b_iconst (v := 1) dX12_tellUnlike_98 (by decide +kernel) ?_
              refine b_aload_n dX12_tellUnlike_99 rfl rfl ?_
              refine b_getR (b := 104) lf_X12_93 rfl rfl dX12_tellUnlike_100 ?_
              refine b_iload_n dX12_tellUnlike_103 rfl rfl ?_
              refine b_iload dX12_tellUnlike_104 rfl ?_
              refine b_iadd dX12_tellUnlike_106 ?_
              refine b_topE (nI_add (l_n (f_S F)) i) ?_
              refine b_ildN (j := (l_n (f_S F) + i)) dX12_tellUnlike_107 (rfl) (by show _ < 400; omega) ?_
              refine b_topE (y := l_g (yrsM T (nI p) (f_S F) 20) 0 (l_n (f_S F) + i)) (by rw [hF 104 (by decide)]; exact hR2.sg _ e95) ?_
              refine b_ishl dX12_tellUnlike_108 ?_
              refine b_goto (tgt := 115) dX12_tellUnlike_109 (by decide) ?_
              refine b_ior dX12_tellUnlike_115 ?_
              refine b_istN (j := i) dX12_tellUnlike_116 (rfl) (by show _ < 60; omega) ?_
              refine b_incN (j := i) (lv' := [(0, _), (1, _), (2, _), (3, _), (4, _)]) dX12_tellUnlike_117 rfl rfl (by decide) rfl rfl ?_
              refine b_goto (tgt := 72) dX12_tellUnlike_120 (by decide) ?_
              refine ihI (i + 1) (by omega) (by omega) _ (fun y hy => by rw [up2_f _ _ _ _ hy]; exact hF y hy) (fun x x1 => ?_) (fun x x1 x2 => by rw [up2_k _ _ _ _ (by omega)]; exact hB x (by omega) x2)
              by_cases ex : x = i
              · subst ex
                rw [up2_s, hB x (Nat.le_refl _) (by omega), lsI, if_pos hsp]
                unfold lsV
                rw [if_pos e95]
                rfl
              · rw [up2_k _ _ _ _ ex]; exact hA x (by omega)
        refine b_iconst (v := 0) dX12_tellUnlike_69 (by decide +kernel) ?_
        refine b_istore (lv' := [(0, _), (1, _), (2, _), (3, _), (4, _)]) dX12_tellUnlike_70 (by decide) rfl rfl ?_
        exact IN 0 (Nat.zero_le _) h2 (fun _ _ => rfl) (fun x hx => absurd hx (by omega)) (fun x _ x2 => by rw [fm.1 116 (by decide) (by decide) (by decide) (by decide) (by decide) (by decide), up2_f _ _ _ _ (by decide), pF 116 (by decide)]; exact hz x x2)
      · have e43 := b2i_0 h43
        have hbp := e43
        refine b_goto (tgt := 137) dX12_tellUnlike_46 (by decide) ?_
        refine b_incN (j := p) (lv' := [(0, _), (1, _), (2, _), (3, _)]) dX12_tellUnlike_137 rfl rfl (by decide) rfl rfl ?_
        refine b_goto (tgt := 28) dX12_tellUnlike_140 (by decide) ?_
        refine b_take 4 ?_
        refine ih (p + 1) (by omega) (by omega) h0 hR1 fy s44 (fun x hx => ?_)
        rw [hz x hx, lsI, if_neg (by rw [hbp]; decide)]
  have LZ : ∀ i, i ≤ 60 → ∀ h, (∀ y, y ≠ 116 → h y = g y) → (∀ x, x < i → h 116 x = 0) → B E md_X12_tellUnlike (d + 6) Q X 7 [(0, .ref 84), (1, .int (nI (stN (hsB T F) (t_n T)))), (2, .int (nI (l_n (f_S F)))), (3, .int (nI i))] [] h 0 := by
    refine lp_up (fun i hi ih h hF hA => ?_)
    refine b_iload_n dX12_tellUnlike_7 rfl rfl ?_
    refine b_bipush (v := 60) dX12_tellUnlike_8 (by decide +kernel) ?_
    refine b_icmp_ge (tgt := 26) dX12_tellUnlike_10 (by decide) (fun h10 => ?_) (fun h10 => ?_)
    · have e10 : 60 ≤ i := nn_le (a := 60) (b := i) (by omega) (by omega) h10
      have ee : i = 60 := by omega
      subst ee
      refine b_iconst (v := 0) dX12_tellUnlike_26 (by decide +kernel) ?_
      refine b_istore_n (lv' := [(0, _), (1, _), (2, _), (3, _)]) dX12_tellUnlike_27 rfl (by decide) rfl rfl ?_
      exact LP 0 (Nat.zero_le _) h (hR.cg (fun j _ _ => by rw [hF 84 (by decide)]) (fun z z1 z2 z3 => hF z (by omega))) ⟨fun y hy => hF y (by omega), fun j _ => by rw [hF 84 (by decide)]⟩ (by rw [hF 84 (by decide)]; exact s44) (fun x hx => hA x hx)
    · have e10 : i < 60 := nn_nle (a := 60) (b := i) (by omega) (by omega) h10
      refine b_aload_n dX12_tellUnlike_13 rfl rfl ?_
      refine b_getR (b := 116) lf_X12_132 rfl rfl dX12_tellUnlike_14 ?_
      refine b_iload_n dX12_tellUnlike_17 rfl rfl ?_
      refine b_iconst (v := 0) dX12_tellUnlike_18 (by decide +kernel) ?_
      refine b_istN (j := i) dX12_tellUnlike_19 (rfl) (by show _ < 60; omega) ?_
      refine b_incN (j := i) (lv' := [(0, _), (1, _), (2, _), (3, _)]) dX12_tellUnlike_20 rfl rfl (by decide) rfl rfl ?_
      refine b_goto (tgt := 7) dX12_tellUnlike_23 (by decide) ?_
      refine ih (i + 1) (by omega) (by omega) _ (fun y hy => by rw [up2_f _ _ _ _ hy]; exact hF y hy) (fun x hx => ?_)
      by_cases ex : x = i
      · rw [ex, up2_s]
      · rw [up2_k _ _ _ _ ex]; exact hA x (by omega)
  refine b_aload_n dX12_tellUnlike_0 rfl rfl ?_
  refine b_getI lf_X12_320 rfl dX12_tellUnlike_1 ?_
  refine b_topE (y := nI (l_n (f_S F))) (hR.n) ?_
  refine b_istore_n (lv' := [(0, _), (1, _), (2, _)]) dX12_tellUnlike_4 rfl (by decide) rfl rfl ?_
  refine b_iconst (v := 0) dX12_tellUnlike_5 (by decide +kernel) ?_
  refine b_istore_n (lv' := [(0, _), (1, _), (2, _), (3, _)]) dX12_tellUnlike_6 rfl (by decide) rfl rfl ?_
  exact LZ 0 (Nat.zero_le _) g (fun _ _ => rfl) (fun x hx => absurd hx (by omega))
theorem c_X12_listen {E : En} {d : Nat} {Q : QT} {X : XT} {g : G2} {T : TD} {F : FS} (hM : RMf g T F) (hT : RMt g T) (oT : okT T) (oF : okF T F) (hsp : g 84 44 = -1) {w : Int32} (hq : ∀ h, FD g h → RMl h T (f_S F) → h 84 2 = nI (lisM T F w).1 → Q (some (.int (lisM T F w).2)) h) : M E md_X12_listen (d + 8) [.ref 84, .int w] g Q X := by
  refine M.of _ rfl rfl (Nat.le_of_ble_eq_true rfl) ?_
  refine b_aload_n dX12_listen_0 rfl rfl ?_
  refine b_iconst (v := 0) dX12_listen_1 (by decide +kernel) ?_
  refine b_putI lf_X12_165 lp_12_2 rfl dX12_listen_2 ?_
  have F1 : FD g (up2 g 84 2 0) := FD.code 0
  have c1 : up2 g 84 2 0 84 2 = 0 := up2_s _ _ _ _
  have hM := hM.code (x := 0)
  have hT := hT.code (x := 0)
  have hsp : up2 g 84 2 0 84 44 = -1 := by rw [up2_k _ _ _ _ (by decide)]; exact hsp
  generalize up2 g 84 2 0 = g1 at F1 c1 hM hT hsp ⊢
  have hR := hM.1
  have h8 := hT.le
  refine b_iload_n dX12_listen_5 rfl rfl ?_
  refine b_if_lt (tgt := 14) dX12_listen_6 (by decide) (fun h6 => ?_) (fun h6 => ?_)
  · refine b_aload_n dX12_listen_14 rfl rfl ?_
    refine b_iconst (v := 1) dX12_listen_15 (by decide +kernel) ?_
    refine b_callV (As := [_]) (st := []) dX12_listen_16 lk_X12_303 lm_X12_fail lv_X12_fail rfl (by decide) rfl rfl rfl (Nat.le_of_ble_eq_true rfl) (Nat.le_refl _) (by decide) ?_
    refine c_X12_fail ?_
    refine b_iret rfl (by decide) dX12_listen_19 ?_
    rw [show lisM T F w = (1, 0) from lisM_1 (in_lt h6)] at hq
    exact hq _ (F1.tr (FD.code 1)) hR.code (up2_s _ _ _ _)
  · refine b_iload_n dX12_listen_9 rfl rfl ?_
    refine b_iconst (v := 1) dX12_listen_10 (by decide +kernel) ?_
    refine b_icmp_le (tgt := 20) dX12_listen_11 (by decide) (fun h11 => ?_) (fun h11 => ?_)
    · have hw := in_ok (b := 1) rfl h6 h11
      refine b_aload_n dX12_listen_20 rfl rfl ?_
      refine b_aload_n dX12_listen_21 rfl rfl ?_
      refine b_callV (As := []) (st := [_]) dX12_listen_22 lk_X12_480 lm_X12_spies lv_X12_spies rfl (by decide) rfl rfl rfl (Nat.le_of_ble_eq_true rfl) (Nat.le_refl _) (by decide) ?_
      refine c_X12_spies hR hT oT oF hM.2.2.2.1 hM.2.2.2.2.1 (fun h5 hR5 fx s44 => ?_)
      refine b_callV (As := [_]) (st := []) dX12_listen_25 lk_X12_483 lm_X12_tellUnlike lv_X12_tellUnlike rfl (by decide) rfl rfl rfl (Nat.le_of_ble_eq_true rfl) (Nat.le_refl _) (by decide) ?_
      refine c_X12_tellUnlike hR5 (fx.tm hT) oT oF (by rw [fx.2 38 (by decide) (by decide)]; exact hM.2.2.2.1) (hM.2.2.2.2.1.cg (fx.1 _ (by decide)) (fx.1 _ (by decide))) s44 (fun h hR2 fy hz => ?_)
      have D2 := (F1.tr (fx.fd (by rw [s44, hsp]))).tr fy.fd
      have c2 : h 84 2 = 0 := by rw [fy.2 2 (by decide), fx.2 2 (by decide) (by decide)]; exact c1
      have h4n := hR.le
      have LP : ∀ i, i ≤ 60 → l_n (f_S F) + i ≤ 400 → B E md_X12_listen (d + 8) Q X 35 [(0, .ref 84), (1, .int w), (2, .int (liR T F (l_n (f_S F)) i).1), (3, .int (nI (liR T F (l_n (f_S F)) i).2)), (4, .int (nI i))] [] h 0 := by
        refine lp_up (fun i hi ih h400 => ?_)
        have hl2 := liR_le T F (l_n (f_S F)) i
        refine b_iload dX12_listen_35 rfl ?_
        refine b_bipush (v := 60) dX12_listen_37 (by decide +kernel) ?_
        refine b_icmp_ge (tgt := 97) dX12_listen_39 (by decide) (fun h39 => ?_) (fun h39 => ?_)
        · have e39 : 60 ≤ i := nn_le (a := 60) (b := i) (by omega) (by omega) h39
          refine b_iload_n dX12_listen_97 rfl rfl ?_
          refine b_if_ne (tgt := 105) dX12_listen_98 (by decide) (fun h98 => ?_) (fun h98 => ?_)
          · refine b_iload_n dX12_listen_105 rfl rfl ?_
            refine b_iret rfl (by decide) dX12_listen_106 ?_
            have ei : i = liE (f_S F) - l_n (f_S F) := by unfold liE; split <;> omega
            subst ei
            have hq := hq h D2 hR2 (by rw [lisM_0 hw]; exact c2)
            rw [lisM_0 hw] at hq
            simp only [if_neg h98] at hq
            exact hq
          · refine b_iload_n dX12_listen_101 rfl rfl ?_
            refine b_goto (tgt := 106) dX12_listen_102 (by decide) ?_
            refine b_iret rfl (by decide) dX12_listen_106 ?_
            have ei : i = liE (f_S F) - l_n (f_S F) := by unfold liE; split <;> omega
            subst ei
            have hq := hq h D2 hR2 (by rw [lisM_0 hw]; exact c2)
            rw [lisM_0 hw] at hq
            simp only [if_pos h98] at hq
            exact hq
        · have e39 : i < 60 := nn_nle (a := 60) (b := i) (by omega) (by omega) h39
          refine b_aload_n dX12_listen_42 rfl rfl ?_
          refine b_getI lf_X12_320 rfl dX12_listen_43 ?_
          refine b_topE (y := nI (l_n (f_S F))) (hR2.n) ?_
          refine b_iload dX12_listen_46 rfl ?_
          refine b_iadd dX12_listen_48 ?_
          refine b_topE (nI_add (l_n (f_S F)) i) ?_
          refine b_sipush (v := 400) dX12_listen_49 (by decide +kernel) ?_
          refine b_icmp_ge (tgt := 97) dX12_listen_52 (by decide) (fun h52 => ?_) (fun h52 => ?_)
          · have e52 : 400 ≤ ((l_n (f_S F) + i)) := nn_le (a := 400) (b := ((l_n (f_S F) + i))) (by omega) (by omega) h52
            refine b_iload_n dX12_listen_97 rfl rfl ?_
            refine b_if_ne (tgt := 105) dX12_listen_98 (by decide) (fun h98 => ?_) (fun h98 => ?_)
            · refine b_iload_n dX12_listen_105 rfl rfl ?_
              refine b_iret rfl (by decide) dX12_listen_106 ?_
              have ei : i = liE (f_S F) - l_n (f_S F) := by unfold liE; split <;> omega
              subst ei
              have hq := hq h D2 hR2 (by rw [lisM_0 hw]; exact c2)
              rw [lisM_0 hw] at hq
              simp only [if_neg h98] at hq
              exact hq
            · refine b_iload_n dX12_listen_101 rfl rfl ?_
              refine b_goto (tgt := 106) dX12_listen_102 (by decide) ?_
              refine b_iret rfl (by decide) dX12_listen_106 ?_
              have ei : i = liE (f_S F) - l_n (f_S F) := by unfold liE; split <;> omega
              subst ei
              have hq := hq h D2 hR2 (by rw [lisM_0 hw]; exact c2)
              rw [lisM_0 hw] at hq
              simp only [if_pos h98] at hq
              exact hq
          · have e52 : ((l_n (f_S F) + i)) < 400 := nn_nle (a := 400) (b := ((l_n (f_S F) + i))) (by omega) (by omega) h52
            refine b_aload_n dX12_listen_55 rfl rfl ?_
            refine b_getR (b := 116) lf_X12_132 rfl rfl dX12_listen_56 ?_
            refine b_iload dX12_listen_59 rfl ?_
            refine b_ildN (j := i) dX12_listen_61 (rfl) (by show _ < 60; omega) ?_
            refine b_topE (y := lsI T F (l_n (f_S F) + i) (t_n T)) (hz i (by omega)) ?_
            refine b_callS (As := [_]) (st := []) dX12_listen_62 lk_X12_469 lm_X12_bitsOf ls_X12_bitsOf rfl rfl (Nat.le_of_ble_eq_true rfl) (Nat.le_refl _) (by decide) ?_
            obtain ⟨m, m1, m2⟩ := lsI_ok oT oF (l_n (f_S F) + i) (t_n T)
            rw [m2]
            refine c_X12_bitsOf m1 ?_
            rw [show pcN m = lpN T F (l_n (f_S F) + i) by unfold lpN; rw [m2, nI_cl (by omega)]]
            have hl1 := pc_le (lsI T F (l_n (f_S F) + i) (t_n T)).toNatClampNeg
            have hl1 : lpN T F (l_n (f_S F) + i) ≤ 16 := hl1
            have hl2 := liR_le T F (l_n (f_S F)) i
            refine b_iload_n dX12_listen_65 rfl rfl ?_
            refine b_icmp_gt (tgt := 72) dX12_listen_66 (by decide) (fun h66 => ?_) (fun h66 => ?_)
            · have e66 : ((liR T F (l_n (f_S F)) i).2) < (lpN T F (l_n (f_S F) + i)) := nn_lt (a := ((liR T F (l_n (f_S F)) i).2)) (b := (lpN T F (l_n (f_S F) + i))) (by omega) (by omega) h66
              refine b_aload_n dX12_listen_72 rfl rfl ?_
              refine b_getI lf_X12_320 rfl dX12_listen_73 ?_
              refine b_topE (y := nI (l_n (f_S F))) (hR2.n) ?_
              refine b_iload dX12_listen_76 rfl ?_
              refine b_iadd dX12_listen_78 ?_
              refine b_topE (nI_add (l_n (f_S F)) i) ?_
              refine b_istore_n (lv' := [(0, _), (1, _), (2, _), (3, _), (4, _)]) dX12_listen_79 rfl (by decide) rfl rfl ?_
              refine b_aload_n dX12_listen_80 rfl rfl ?_
              refine b_getR (b := 116) lf_X12_132 rfl rfl dX12_listen_81 ?_
              refine b_iload dX12_listen_84 rfl ?_
              refine b_ildN (j := i) dX12_listen_86 (rfl) (by show _ < 60; omega) ?_
              refine b_topE (y := lsI T F (l_n (f_S F) + i) (t_n T)) (hz i (by omega)) ?_
              refine b_callS (As := [_]) (st := []) dX12_listen_87 lk_X12_469 lm_X12_bitsOf ls_X12_bitsOf rfl rfl (Nat.le_of_ble_eq_true rfl) (Nat.le_refl _) (by decide) ?_
              obtain ⟨m, m1, m2⟩ := lsI_ok oT oF (l_n (f_S F) + i) (t_n T)
              rw [m2]
              refine c_X12_bitsOf m1 ?_
              rw [show pcN m = lpN T F (l_n (f_S F) + i) by unfold lpN; rw [m2, nI_cl (by omega)]]
              have hl1 := pc_le (lsI T F (l_n (f_S F) + i) (t_n T)).toNatClampNeg
              have hl1 : lpN T F (l_n (f_S F) + i) ≤ 16 := hl1
              have hl2 := liR_le T F (l_n (f_S F)) i
              refine b_istore_n (lv' := [(0, _), (1, _), (2, _), (3, _), (4, _)]) dX12_listen_90 rfl (by decide) rfl rfl ?_
              refine b_incN (j := i) (lv' := [(0, _), (1, _), (2, _), (3, _), (4, _)]) dX12_listen_91 rfl rfl (by decide) rfl rfl ?_
              refine b_goto (tgt := 35) dX12_listen_94 (by decide) ?_
              have z := ih (i + 1) (by omega) (by omega) (by omega)
              rw [liR, if_pos e66] at z
              exact z
            · have e66 : (lpN T F (l_n (f_S F) + i)) ≤ ((liR T F (l_n (f_S F)) i).2) := nn_nlt (a := ((liR T F (l_n (f_S F)) i).2)) (b := (lpN T F (l_n (f_S F) + i))) (by omega) (by omega) h66
              refine b_goto (tgt := 91) dX12_listen_69 (by decide) ?_
              refine b_incN (j := i) (lv' := [(0, _), (1, _), (2, _), (3, _), (4, _)]) dX12_listen_91 rfl rfl (by decide) rfl rfl ?_
              refine b_goto (tgt := 35) dX12_listen_94 (by decide) ?_
              have z := ih (i + 1) (by omega) (by omega) (by omega)
              rw [liR, if_neg (Nat.not_lt.mpr e66)] at z
              exact z
      refine b_iconst (v := (-1)) dX12_listen_28 (by decide +kernel) ?_
      refine b_istore_n (lv' := [(0, _), (1, _), (2, _)]) dX12_listen_29 rfl (by decide) rfl rfl ?_
      refine b_iconst (v := 0) dX12_listen_30 (by decide +kernel) ?_
      refine b_istore_n (lv' := [(0, _), (1, _), (2, _), (3, _)]) dX12_listen_31 rfl (by decide) rfl rfl ?_
      refine b_iconst (v := 0) dX12_listen_32 (by decide +kernel) ?_
      refine b_istore (lv' := [(0, _), (1, _), (2, _), (3, _), (4, _)]) dX12_listen_33 (by decide) rfl rfl ?_
      exact LP 0 (Nat.zero_le _) (by omega)
    · refine b_aload_n dX12_listen_14 rfl rfl ?_
      refine b_iconst (v := 1) dX12_listen_15 (by decide +kernel) ?_
      refine b_callV (As := [_]) (st := []) dX12_listen_16 lk_X12_303 lm_X12_fail lv_X12_fail rfl (by decide) rfl rfl rfl (Nat.le_of_ble_eq_true rfl) (Nat.le_refl _) (by decide) ?_
      refine c_X12_fail ?_
      refine b_iret rfl (by decide) dX12_listen_19 ?_
      rw [show lisM T F w = (1, 0) from lisM_1 (in_gt rfl h11)] at hq
      exact hq _ (F1.tr (FD.code 1)) hR.code (up2_s _ _ _ _)
