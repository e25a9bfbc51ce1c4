theorem c_X12_drawOf {E : En} {d : Nat} {Q : QT} {X : XT} {g : G2} {n : Nat} (h0 : 0 < n) (hn : n < 2 ^ 31) (hq : Q (some (.int (drV (nxS (g 84 57)) (nI n)))) (up2 g 84 57 (nxS (g 84 57)))) : M E md_X12_drawOf d [.ref 84, .int (nI n)] g Q X := by
  refine M.of _ rfl rfl (Nat.le_of_ble_eq_true rfl) ?_
  refine b_aload_n dX12_drawOf_0 rfl rfl ?_
  refine b_aload_n dX12_drawOf_1 rfl rfl ?_
  refine b_getI lf_X12_501 rfl dX12_drawOf_2 ?_
  refine b_ldcw lx_X12_504 dX12_drawOf_5 ?_
  refine b_imul dX12_drawOf_8 ?_
  refine b_sipush (v := 12345) dX12_drawOf_9 (by decide +kernel) ?_
  refine b_iadd dX12_drawOf_12 ?_
  refine b_putI lf_X12_501 lp_12_57 rfl dX12_drawOf_13 ?_
  refine b_aload_n dX12_drawOf_16 rfl rfl ?_
  refine b_getI lf_X12_501 rfl dX12_drawOf_17 ?_
  refine b_topE (y := nxS (g 84 57)) (up2_s _ _ _ _) ?_
  refine b_bipush (v := 16) dX12_drawOf_20 (by decide +kernel) ?_
  refine b_ishr dX12_drawOf_22 ?_
  refine b_sipush (v := 32767) dX12_drawOf_23 (by decide +kernel) ?_
  refine b_iand dX12_drawOf_26 ?_
  refine b_iload_n dX12_drawOf_27 rfl rfl ?_
  refine b_irem dX12_drawOf_28 (nI_ne0 h0 hn) ?_
  refine b_iret rfl (by decide) dX12_drawOf_29 ?_
  rw [dr_eq]
  exact hq
theorem RMl.bas {g : G2} {p : Nat} {T : TD} {x : Int32} {S : LfS} (hR : RMl g T S) : RMl (up2 g 100 p x) T (basS S p x) := by
  obtain ⟨a1, a2, a3, a4, a5, a6, a7, a8, a9, a10, a11, a12, a13, a14, a15, a16⟩ := hR
  refine ⟨by rw [up2_a _ _ _ _ (by decide)]; exact a1, a2, by rw [up2_f _ _ _ _ (by decide), basS_c (by decide)]; exact a3, by rw [up2_f _ _ _ _ (by decide), basS_c (by decide)]; exact a4, by rw [up2_f _ _ _ _ (by decide), basS_c (by decide)]; exact a5, by rw [up2_a _ _ _ _ (by decide), basS_c (by decide)]; exact a6, by rw [up2_a _ _ _ _ (by decide), basS_c (by decide)]; exact a7, by rw [up2_a _ _ _ _ (by decide), basS_c (by decide)]; exact a8, by rw [up2_a _ _ _ _ (by decide), basS_c (by decide)]; exact a9, by rw [up2_a _ _ _ _ (by decide), basS_c (by decide)]; exact a10, by rw [up2_f _ _ _ _ (by decide), basS_c (by decide)]; exact a11, fun q hq => ?_, by rw [up2_a _ _ _ _ (by decide)]; exact a13, a14, by rw [up2_f _ _ _ _ (by decide), basS_c (by decide)]; exact a15, by rw [up2_f _ _ _ _ (by decide), basS_c (by decide)]; exact a16⟩
  rw [basS_5, up2_if, a12 q hq]
theorem RMl.f57 {g : G2} {T : TD} {S : LfS} {x : Int32} (hR : RMl g T S) : RMl (up2 g 84 57 x) T S := hR.cg (fun j h1 h2 => up2_k _ _ _ _ (by omega)) (fun z h1 h2 h3 => up2_f _ _ _ _ (by omega))
/-- what something leaves -/
def FQ (g h : G2) : Prop := (∀ y, y ≠ 84 → y ≠ 100 → h y = g y) ∧ ∀ j, j ≠ 33 → j ≠ 34 → j ≠ 57 → h 84 j = g 84 j
theorem FQ.fd {g h : G2} (f : FQ g h) : FD g h := ⟨fun y q => f.1 y (by omega) (by omega), fun j q => f.2 j (by omega) (by omega) (by omega)⟩
theorem c_X12_something1 {E : En} {d : Nat} {Q : QT} {X : XT} {g : G2} {T : TD} {S : LfS} {s : Int32} (hR : RMl g T S) (hT : RMt g T) (hp : 0 < t_n T) (hs : g 84 57 = s) (hq : ∀ h, RMl h T (bfM S (drV (nxS s) (nI (t_n T))).toNatClampNeg (drV (nxS (nxS s)) 5)) → FQ g h → h 84 57 = nxS (nxS s) → Q none h) : M E md_X12_something (d + 1) [.ref 84] g Q X := by
  refine M.of _ rfl rfl (Nat.le_of_ble_eq_true rfl) ?_
  have h8 := hT.le
  refine b_aload_n dX12_something_0 rfl rfl ?_
  refine b_getR (b := 87) lf_X12_40 rfl rfl dX12_something_1 ?_
  refine b_iconst (v := 0) dX12_something_4 (by decide +kernel) ?_
  refine b_ildN (j := 0) dX12_something_5 (rfl) (by show _ < 10; omega) ?_
  refine b_topE (y := nI (t_n T)) (hT.n) ?_
  refine b_if_ne (tgt := 10) dX12_something_6 (by decide) (fun h6 => ?_) (fun h6 => ?_)
  · have e6 : (t_n T) ≠ 0 := fun q => h6 (by rw [q]; rfl)
    refine b_aload_n dX12_something_10 rfl rfl ?_
    refine b_aload_n dX12_something_11 rfl rfl ?_
    refine b_getR (b := 87) lf_X12_40 rfl rfl dX12_something_12 ?_
    refine b_iconst (v := 0) dX12_something_15 (by decide +kernel) ?_
    refine b_ildN (j := 0) dX12_something_16 (rfl) (by show _ < 10; omega) ?_
    refine b_topE (y := nI (t_n T)) (hT.n) ?_
    refine b_callV (As := [_]) (st := []) dX12_something_17 lk_X12_505 lm_X12_drawOf lv_X12_drawOf rfl (by decide) rfl rfl rfl (Nat.le_of_ble_eq_true rfl) (Nat.le_refl _) (by decide) ?_
    refine c_X12_drawOf (by omega) (by omega) ?_
    rw [hs]
    obtain ⟨d9, d1, d2⟩ := drV_ok (s := nxS s) (n := t_n T) (by omega) (by omega)
    rw [d2]
    rw [d2, nI_cl (by omega)] at hq
    refine b_istore_n (lv' := [(0, _), (1, _)]) dX12_something_20 rfl (by decide) rfl rfl ?_
    refine b_aload_n dX12_something_21 rfl rfl ?_
    refine b_iconst (v := 5) dX12_something_22 (by decide +kernel) ?_
    refine b_callV (As := [_]) (st := []) dX12_something_23 lk_X12_505 lm_X12_drawOf lv_X12_drawOf rfl (by decide) rfl rfl rfl (Nat.le_of_ble_eq_true rfl) (Nat.le_refl _) (by decide) ?_
    refine c_X12_drawOf (n := 5) (by decide) (by decide) ?_
    rw [up2_s]
    have hR2 : RMl (up2 (up2 g 84 57 (nxS s)) 84 57 (nxS (nxS s))) T S := hR.f57.f57
    have hF2 : FQ g (up2 (up2 g 84 57 (nxS s)) 84 57 (nxS (nxS s))) := ⟨fun y y1 _ => by rw [up2_f _ _ _ _ y1, up2_f _ _ _ _ y1], fun j _ _ j3 => by rw [up2_k _ _ _ _ j3, up2_k _ _ _ _ j3]⟩
    have hs2 : (up2 (up2 g 84 57 (nxS s)) 84 57 (nxS (nxS s))) 84 57 = nxS (nxS s) := up2_s _ _ _ _
    generalize (up2 (up2 g 84 57 (nxS s)) 84 57 (nxS (nxS s))) = h at hR2 hF2 hs2 ⊢
    rw [show nI 5 = (5 : Int32) from rfl]
    generalize (drV (nxS (nxS s)) 5) = x at hq ⊢
    refine b_istore_n (lv' := [(0, _), (1, _), (2, _)]) dX12_something_26 rfl (by decide) rfl rfl ?_
    refine b_iload_n dX12_something_27 rfl rfl ?_
    refine b_if_ne (tgt := 54) dX12_something_28 (by decide) (fun h28 => ?_) (fun h28 => ?_)
    · refine b_iload_n dX12_something_54 rfl rfl ?_
      refine b_iconst (v := 1) dX12_something_55 (by decide +kernel) ?_
      refine b_icmp_ne (tgt := 71) dX12_something_56 (by decide) (fun h56 => ?_) (fun h56 => ?_)
      · refine b_iload_n dX12_something_71 rfl rfl ?_
        refine b_iconst (v := 2) dX12_something_72 (by decide +kernel) ?_
        refine b_icmp_ne (tgt := 93) dX12_something_73 (by decide) (fun h73 => ?_) (fun h73 => ?_)
        · refine b_vret rfl (by decide) dX12_something_93 ?_
          have e : bfM S d9 x = S := by unfold bfM; rw [if_neg h28, if_neg h56, if_neg h73]
          rw [e] at hq
          exact hq h hR2 hF2 hs2
        · refine b_aload_n dX12_something_76 rfl rfl ?_
          refine b_getR (b := 100) lf_X12_82 rfl rfl dX12_something_77 ?_
          refine b_iload_n dX12_something_80 rfl rfl ?_
          refine b_aload_n dX12_something_81 rfl rfl ?_
          refine b_getR (b := 100) lf_X12_82 rfl rfl dX12_something_82 ?_
          refine b_iload_n dX12_something_85 rfl rfl ?_
          refine b_ildN (j := d9) dX12_something_86 (rfl) (by show _ < 8; omega) ?_
          refine b_iconst (v := 1) dX12_something_87 (by decide +kernel) ?_
          refine b_iadd dX12_something_88 ?_
          refine b_callS (As := [_]) (st := [_, _]) dX12_something_89 lk_X12_364 lm_X12_by12 ls_X12_by12 rfl rfl (Nat.le_of_ble_eq_true rfl) (Nat.le_refl _) (by decide) ?_
          refine c_X12_by12 ?_
          refine b_istN (j := d9) dX12_something_92 (rfl) (by show _ < 8; omega) ?_
          refine b_vret rfl (by decide) dX12_something_93 ?_
          have e : bfM S d9 x = basS S d9 (byM (l_g S 5 d9 + 1)) := by unfold bfM; rw [if_neg h28, if_neg h56, if_pos h73]
          rw [e] at hq
          rw [hR2.ba d9 d1]
          exact hq _ hR2.bas ⟨fun y y1 y2 => by rw [up2_f _ _ _ _ y2]; exact hF2.1 y y1 y2, fun j j1 j2 j3 => by rw [up2_a _ _ _ _ (by decide)]; exact hF2.2 j j1 j2 j3⟩ (by rw [up2_a _ _ _ _ (by decide)]; exact hs2)
      · refine b_aload_n dX12_something_59 rfl rfl ?_
        refine b_dup dX12_something_60 rfl ?_
        refine b_getI lf_X12_326 rfl dX12_something_61 ?_
        refine b_iconst (v := 1) dX12_something_64 (by decide +kernel) ?_
        refine b_iload_n dX12_something_65 rfl rfl ?_
        refine b_ishl dX12_something_66 ?_
        refine b_ior dX12_something_67 ?_
        refine b_putI lf_X12_326 lp_12_34 rfl dX12_something_68 ?_
        refine b_iload_n dX12_something_71 rfl rfl ?_
        refine b_iconst (v := 2) dX12_something_72 (by decide +kernel) ?_
        refine b_icmp_ne (tgt := 93) dX12_something_73 (by decide) (fun h73 => ?_) (fun h73 => ?_)
        · refine b_vret rfl (by decide) dX12_something_93 ?_
          have e : bfM S d9 x = setS S 3 (l_g S 3 3 ||| sbI (nI d9)) := by unfold bfM; rw [if_neg h28, if_pos h56]
          rw [e] at hq
          rw [hR2.de]
          exact hq _ (hR2.set (by decide)) ⟨fun y y1 y2 => by rw [up2_f _ _ _ _ y1]; exact hF2.1 y y1 y2, fun j j1 j2 j3 => by rw [up2_k _ _ _ _ j2]; exact hF2.2 j j1 j2 j3⟩ (by rw [up2_k _ _ _ _ (by decide)]; exact hs2)
        · exact absurd (h56.symm.trans h73) (by decide)
    · refine b_aload_n dX12_something_31 rfl rfl ?_
      refine b_getI lf_X12_326 rfl dX12_something_32 ?_
      refine b_iload_n dX12_something_35 rfl rfl ?_
      refine b_callS (As := [_, _]) (st := []) dX12_something_36 lk_X12_370 lm_X12_isOf ls_X12_isOf rfl rfl (Nat.le_of_ble_eq_true rfl) (Nat.le_refl _) (by decide) ?_
      refine c_X12_isOf ?_
      rw [bt1, hR2.de]
      refine b_if_ne (tgt := 54) dX12_something_39 (by decide) (fun h39 => ?_) (fun h39 => ?_)
      · have e39 := b2i_1 h39
        refine b_iload_n dX12_something_54 rfl rfl ?_
        refine b_iconst (v := 1) dX12_something_55 (by decide +kernel) ?_
        refine b_icmp_ne (tgt := 71) dX12_something_56 (by decide) (fun h56 => ?_) (fun h56 => ?_)
        · refine b_iload_n dX12_something_71 rfl rfl ?_
          refine b_iconst (v := 2) dX12_something_72 (by decide +kernel) ?_
          refine b_icmp_ne (tgt := 93) dX12_something_73 (by decide) (fun h73 => ?_) (fun h73 => ?_)
          · refine b_vret rfl (by decide) dX12_something_93 ?_
            have e : bfM S d9 x = S := by unfold bfM; rw [if_pos h28, if_pos e39]
            rw [e] at hq
            exact hq h hR2 hF2 hs2
          · exact absurd (h28.symm.trans h73) (by decide)
        · exact absurd (h28.symm.trans h56) (by decide)
      · have e39 := b2i_0 h39
        refine b_aload_n dX12_something_42 rfl rfl ?_
        refine b_dup dX12_something_43 rfl ?_
        refine b_getI lf_X12_323 rfl dX12_something_44 ?_
        refine b_iconst (v := 1) dX12_something_47 (by decide +kernel) ?_
        refine b_iload_n dX12_something_48 rfl rfl ?_
        refine b_ishl dX12_something_49 ?_
        refine b_ixor dX12_something_50 ?_
        refine b_putI lf_X12_323 lp_12_33 rfl dX12_something_51 ?_
        refine b_iload_n dX12_something_54 rfl rfl ?_
        refine b_iconst (v := 1) dX12_something_55 (by decide +kernel) ?_
        refine b_icmp_ne (tgt := 71) dX12_something_56 (by decide) (fun h56 => ?_) (fun h56 => ?_)
        · refine b_iload_n dX12_something_71 rfl rfl ?_
          refine b_iconst (v := 2) dX12_something_72 (by decide +kernel) ?_
          refine b_icmp_ne (tgt := 93) dX12_something_73 (by decide) (fun h73 => ?_) (fun h73 => ?_)
          · refine b_vret rfl (by decide) dX12_something_93 ?_
            have e : bfM S d9 x = setS S 2 (l_g S 3 2 ^^^ sbI (nI d9)) := by unfold bfM; rw [if_pos h28, if_neg (by rw [e39]; decide)]
            rw [e] at hq
            rw [hR2.aw]
            exact hq _ (hR2.set (by decide)) ⟨fun y y1 y2 => by rw [up2_f _ _ _ _ y1]; exact hF2.1 y y1 y2, fun j j1 j2 j3 => by rw [up2_k _ _ _ _ j1]; exact hF2.2 j j1 j2 j3⟩ (by rw [up2_k _ _ _ _ (by decide)]; exact hs2)
          · exact absurd (h28.symm.trans h73) (by decide)
        · exact absurd (h28.symm.trans h56) (by decide)
  · have e6 : (t_n T) = 0 := nI_inj (b := 0) (by omega) (by decide) h6
    exact absurd e6 (by omega)
theorem c_X12_something0 {E : En} {d : Nat} {Q : QT} {X : XT} {g : G2} {T : TD} (hT : RMt g T) (hp : t_n T = 0) (hq : Q none g) : M E md_X12_something (d + 1) [.ref 84] g Q X := by
  refine M.of _ rfl rfl (Nat.le_of_ble_eq_true rfl) ?_
  have h8 := hT.le
  refine b_aload_n dX12_something_0 rfl rfl ?_
  refine b_getR (b := 87) lf_X12_40 rfl rfl dX12_something_1 ?_
  refine b_iconst (v := 0) dX12_something_4 (by decide +kernel) ?_
  refine b_ildN (j := 0) dX12_something_5 (rfl) (by show _ < 10; omega) ?_
  refine b_topE (y := nI (t_n T)) (hT.n) ?_
  refine b_if_ne (tgt := 10) dX12_something_6 (by decide) (fun h6 => ?_) (fun h6 => ?_)
  · have e6 : (t_n T) ≠ 0 := fun q => h6 (by rw [q]; rfl)
    exact absurd hp e6
  · have e6 : (t_n T) = 0 := nI_inj (b := 0) (by omega) (by decide) h6
    refine b_vret rfl (by decide) dX12_something_9 ?_
    exact hq
theorem c_X12_century {E : En} {d : Nat} {Q : QT} {X : XT} {g : G2} {T : TD} {S : LfS} {s n0 w : Int32} (hR : RMl g T S) (hT : RMt g T) (hsp : g 84 44 = -1) (oT : okT T) (oL : okL T S) (hq : ∀ h, FD g h → RMl h T S → h 84 2 = nI (cenM T S s n0 w).1 → Q (some (.int (cenM T S s n0 w).2)) h) : M E md_X12_century (d + 6) [.ref 84, .int s, .int n0, .int w] g Q X := by
  refine M.of _ rfl rfl (Nat.le_of_ble_eq_true rfl) ?_
  refine b_aload_n dX12_century_0 rfl rfl ?_
  refine b_iconst (v := 0) dX12_century_1 (by decide +kernel) ?_
  refine b_putI lf_X12_165 lp_12_2 rfl dX12_century_2 ?_
  have F1 : FD g (up2 g 84 2 0) := FD.code 0
  have c1 : up2 g 84 2 0 84 2 = 0 := up2_s _ _ _ _
  have hR := hR.code (x := 0)
  have hT := hT.code (x := 0)
  generalize up2 g 84 2 0 = g1 at F1 c1 hR hT ⊢
  have hsp : g1 84 44 = -1 := by rw [F1.2 44 (by decide)]; exact hsp
  refine b_iload_n dX12_century_5 rfl rfl ?_
  refine b_i2l dX12_century_6 rfl ?_
  refine b_lconst (v := 0) dX12_century_7 (by decide +kernel) ?_
  refine b_ldc2 lx_X12_385 dX12_century_8 ?_
  refine b_callS (As := [_, _, _]) (st := []) dX12_century_11 lk_X12_168 lm_X12_isIn ls_X12_isIn rfl rfl (Nat.le_of_ble_eq_true rfl) (Nat.le_refl _) (by decide) ?_
  refine c_X12_isIn ?_
  rw [in_64b (a' := 0) (b' := 2) (by decide) (by decide)]
  refine b_if_ne (tgt := 23) dX12_century_14 (by decide) (fun h14 => ?_) (fun h14 => ?_)
  · have e14 := b2i_1 h14
    have hw := e14
    refine b_iload_n dX12_century_23 rfl rfl ?_
    refine b_i2l dX12_century_24 rfl ?_
    refine b_lconst (v := 0) dX12_century_25 (by decide +kernel) ?_
    refine b_ldc2 lx_X12_391 dX12_century_26 ?_
    refine b_callS (As := [_, _, _]) (st := []) dX12_century_29 lk_X12_168 lm_X12_isIn ls_X12_isIn rfl rfl (Nat.le_of_ble_eq_true rfl) (Nat.le_refl _) (by decide) ?_
    refine c_X12_isIn ?_
    rw [in_64b (a' := 0) (b' := 20) (by decide) (by decide)]
    refine b_if_ne (tgt := 41) dX12_century_32 (by decide) (fun h32 => ?_) (fun h32 => ?_)
    · have e32 := b2i_1 h32
      obtain ⟨n, _, hn, rfl⟩ := inB_ex (a := 0) (b := 20) e32
      refine b_aload_n dX12_century_41 rfl rfl ?_
      refine b_aload_n dX12_century_42 rfl rfl ?_
      refine b_getR (b := 112) lf_X12_120 rfl rfl dX12_century_43 ?_
      refine b_iconst (v := 0) dX12_century_46 (by decide +kernel) ?_
      refine b_callV (As := [_, _]) (st := []) dX12_century_47 lk_X12_387 lm_X12_pack lv_X12_pack rfl (by decide) rfl rfl rfl (Nat.le_of_ble_eq_true rfl) (Nat.le_refl _) (by decide) ?_
      refine c_X12_pack (z := 112) (n := 35) (f := 0) rfl (by decide) (by decide) (by decide) (fun h1 pF _ pk => ?_)
      have D1 := F1.tr (FD.ofZ (z := 112) (by decide) pF)
      have rk := RPk.of hT.le hR pk
      have hR1 := hR.ofZ (by decide) pF
      have c1 : h1 84 2 = 0 := by rw [pF 84 (by decide)]; exact c1
      have sp1 : h1 84 44 = -1 := by rw [pF 84 (by decide)]; exact hsp
      have h8 := hT.le
      have h4n := hR.le
      have hT := hT.fd (FD.ofZ (z := 112) (by decide) pF)
      have LP : ∀ i, i ≤ n → ∀ h, RMl h T (cnM T S s i).1 → FD h1 h → h 84 2 = 0 → h 112 = h1 112 → h 84 57 = (cnM T S s i).2 → B E md_X12_century (d + 6) Q X 58 [(0, .ref 84), (1, .int s), (2, .int (nI n)), (3, .int w), (4, .int (nI i))] [] h 0 := by
        by_cases hz : t_n T = 0
        · refine lp_up (fun i hi ih h hR2 D2 cc e112 e57 => ?_)
          have h5n := hR2.le
          refine b_iload dX12_century_58 rfl ?_
          refine b_iload_n dX12_century_60 rfl rfl ?_
          refine b_icmp_ge (tgt := 78) dX12_century_61 (by decide) (fun h61 => ?_) (fun h61 => ?_)
          · have e61 : n ≤ i := nn_le (a := n) (b := i) (by omega) (by omega) h61
            have ee : i = n := by omega
            subst ee
            refine b_iload_n dX12_century_78 rfl rfl ?_
            refine b_if_ne (tgt := 89) dX12_century_79 (by decide) (fun h79 => ?_) (fun h79 => ?_)
            · refine b_iload_n dX12_century_89 rfl rfl ?_
              refine b_iconst (v := 1) dX12_century_90 (by decide +kernel) ?_
              refine b_icmp_ne (tgt := 101) dX12_century_91 (by decide) (fun h91 => ?_) (fun h91 => ?_)
              · refine b_aload_n dX12_century_101 rfl rfl ?_
                refine b_callV (As := []) (st := []) dX12_century_102 lk_X12_459 lm_X12_likeNow lv_X12_likeNow rfl (by decide) rfl rfl rfl (Nat.le_of_ble_eq_true rfl) (Nat.le_refl _) (by decide) ?_
                refine c_X12_likeNow hR2.n hR2.le (hT.fd D2).on hT.ole (fun h6 F6 => ?_)
                rw [show lkM (h 104) (h 94) (l_n (cnM T S s i).1) (t_on T) = likV T (cnM T S s i).1 from lkM_cg hR2.sg (hT.fd D2).ot _ (Nat.le_refl _) _ (Nat.le_refl _)]
                refine b_istore (lv' := [(0, _), (1, _), (2, _), (3, _), (4, _)]) dX12_century_105 (by decide) rfl rfl ?_
                refine b_aload_n dX12_century_107 rfl rfl ?_
                refine b_aload_n dX12_century_108 rfl rfl ?_
                refine b_getR (b := 112) lf_X12_120 rfl rfl dX12_century_109 ?_
                refine b_iconst (v := 0) dX12_century_112 (by decide +kernel) ?_
                refine b_callV (As := [_, _]) (st := []) dX12_century_113 lk_X12_416 lm_X12_unpack lv_X12_unpack rfl (by decide) rfl rfl rfl (Nat.le_of_ble_eq_true rfl) (Nat.le_refl _) (by decide) ?_
                refine c_X12_unpack (z := 112) (n := 35) (f := 0) rfl (by decide) (by decide) (by decide) (fun h7 uF u84 uk => ?_)
                have hR7 : RMl h7 T S := RMl.back hT.le oL.1 oL.2.2.2.2 (by rw [F6 112 (by decide) (by decide), e112]; exact rk) (hR2.cg (fun j _ _ => by rw [F6 84 (by decide) (by decide)]) (fun z z1 z2 z3 => F6 z (by omega) (by omega))) (cnM_ok oT oL.1 i).2 uF uk
                have D7 := (D1.tr (D2.tr (FD.of110 F6))).tr (FD.unp uF u84)
                have c7 : h7 84 2 = 0 := by rw [u84 2 (by decide), F6 84 (by decide) (by decide)]; exact cc
                refine b_iload dX12_century_116 rfl ?_
                refine b_iret rfl (by decide) dX12_century_118 ?_
                have hq := hq h7 D7 hR7 (by rw [cenM_0 hw hn]; exact c7)
                rw [cenM_0 hw hn] at hq
                unfold cenV at hq
                simp only [if_neg h79, if_neg h91] at hq
                exact hq
              · refine b_aload_n dX12_century_94 rfl rfl ?_
                refine b_callV (As := []) (st := []) dX12_century_95 lk_X12_379 lm_X12_rests lv_X12_rests rfl (by decide) rfl rfl rfl (Nat.le_of_ble_eq_true rfl) (Nat.le_refl _) (by decide) ?_
                refine c_X12_rests hR2.n hR2.le ?_
                rw [tmP_cg hR2.sg]
                refine b_goto (tgt := 105) dX12_century_98 (by decide) ?_
                refine b_istore (lv' := [(0, _), (1, _), (2, _), (3, _), (4, _)]) dX12_century_105 (by decide) rfl rfl ?_
                refine b_aload_n dX12_century_107 rfl rfl ?_
                refine b_aload_n dX12_century_108 rfl rfl ?_
                refine b_getR (b := 112) lf_X12_120 rfl rfl dX12_century_109 ?_
                refine b_iconst (v := 0) dX12_century_112 (by decide +kernel) ?_
                refine b_callV (As := [_, _]) (st := []) dX12_century_113 lk_X12_416 lm_X12_unpack lv_X12_unpack rfl (by decide) rfl rfl rfl (Nat.le_of_ble_eq_true rfl) (Nat.le_refl _) (by decide) ?_
                refine c_X12_unpack (z := 112) (n := 35) (f := 0) rfl (by decide) (by decide) (by decide) (fun h7 uF u84 uk => ?_)
                have hR7 : RMl h7 T S := RMl.back hT.le oL.1 oL.2.2.2.2 (by rw [e112]; exact rk) hR2 (cnM_ok oT oL.1 i).2 uF uk
                have D7 := (D1.tr (D2)).tr (FD.unp uF u84)
                have c7 : h7 84 2 = 0 := by rw [u84 2 (by decide)]; exact cc
                refine b_iload dX12_century_116 rfl ?_
                refine b_iret rfl (by decide) dX12_century_118 ?_
                have hq := hq h7 D7 hR7 (by rw [cenM_0 hw hn]; exact c7)
                rw [cenM_0 hw hn] at hq
                unfold cenV at hq
                simp only [if_neg h79, if_pos h91] at hq
                exact hq
            · refine b_aload_n dX12_century_82 rfl rfl ?_
              refine b_getI lf_X12_320 rfl dX12_century_83 ?_
              refine b_topE (y := nI (l_n (cnM T S s i).1)) (hR2.n) ?_
              refine b_goto (tgt := 105) dX12_century_86 (by decide) ?_
              refine b_istore (lv' := [(0, _), (1, _), (2, _), (3, _), (4, _)]) dX12_century_105 (by decide) rfl rfl ?_
              refine b_aload_n dX12_century_107 rfl rfl ?_
              refine b_aload_n dX12_century_108 rfl rfl ?_
              refine b_getR (b := 112) lf_X12_120 rfl rfl dX12_century_109 ?_
              refine b_iconst (v := 0) dX12_century_112 (by decide +kernel) ?_
              refine b_callV (As := [_, _]) (st := []) dX12_century_113 lk_X12_416 lm_X12_unpack lv_X12_unpack rfl (by decide) rfl rfl rfl (Nat.le_of_ble_eq_true rfl) (Nat.le_refl _) (by decide) ?_
              refine c_X12_unpack (z := 112) (n := 35) (f := 0) rfl (by decide) (by decide) (by decide) (fun h7 uF u84 uk => ?_)
              have hR7 : RMl h7 T S := RMl.back hT.le oL.1 oL.2.2.2.2 (by rw [e112]; exact rk) hR2 (cnM_ok oT oL.1 i).2 uF uk
              have D7 := (D1.tr (D2)).tr (FD.unp uF u84)
              have c7 : h7 84 2 = 0 := by rw [u84 2 (by decide)]; exact cc
              refine b_iload dX12_century_116 rfl ?_
              refine b_iret rfl (by decide) dX12_century_118 ?_
              have hq := hq h7 D7 hR7 (by rw [cenM_0 hw hn]; exact c7)
              rw [cenM_0 hw hn] at hq
              unfold cenV at hq
              simp only [if_pos h79] at hq
              exact hq
          · have e61 : i < n := nn_nle (a := n) (b := i) (by omega) (by omega) h61
            refine b_aload_n dX12_century_64 rfl rfl ?_
            refine b_callV (As := []) (st := []) dX12_century_65 lk_X12_508 lm_X12_something lv_X12_something rfl (by decide) rfl rfl rfl (Nat.le_of_ble_eq_true rfl) (Nat.le_refl _) (by decide) ?_
            refine c_X12_something0 (hT.fd D2) hz ?_
            refine b_aload_n dX12_century_68 rfl rfl ?_
            refine b_callV (As := []) (st := []) dX12_century_69 lk_X12_376 lm_X12_aYear lv_X12_aYear rfl (by decide) rfl rfl rfl (Nat.le_of_ble_eq_true rfl) (Nat.le_refl _) (by decide) ?_
            refine c_X12_aYear (sp := -1) (hT.fd D2) hR2 oT (cnM_ok oT oL.1 i).1 (by rw [D2.2 44 (by decide)]; exact sp1) (fun h5 f5 hR5 => ?_)
            refine b_incN (j := i) (lv' := [(0, _), (1, _), (2, _), (3, _), (4, _)]) dX12_century_72 rfl rfl (by decide) rfl rfl ?_
            refine b_goto (tgt := 58) dX12_century_75 (by decide) ?_
            have z := ih (i + 1) (by omega) (by omega) h5 (by rw [cnM, if_pos hz]; exact hR5) (D2.tr f5.fd) (by rw [f5.2 2 (by decide) (by decide)]; exact cc) (by rw [f5.1 112 (by decide) (by decide) (by decide) (by decide) (by decide) (by decide)]; exact e112) (by rw [cnM, if_pos hz, f5.2 57 (by decide) (by decide)]; exact e57)
            exact z
        · refine lp_up (fun i hi ih h hR2 D2 cc e112 e57 => ?_)
          have h5n := hR2.le
          refine b_iload dX12_century_58 rfl ?_
          refine b_iload_n dX12_century_60 rfl rfl ?_
          refine b_icmp_ge (tgt := 78) dX12_century_61 (by decide) (fun h61 => ?_) (fun h61 => ?_)
          · have e61 : n ≤ i := nn_le (a := n) (b := i) (by omega) (by omega) h61
            have ee : i = n := by omega
            subst ee
            refine b_iload_n dX12_century_78 rfl rfl ?_
            refine b_if_ne (tgt := 89) dX12_century_79 (by decide) (fun h79 => ?_) (fun h79 => ?_)
            · refine b_iload_n dX12_century_89 rfl rfl ?_
              refine b_iconst (v := 1) dX12_century_90 (by decide +kernel) ?_
              refine b_icmp_ne (tgt := 101) dX12_century_91 (by decide) (fun h91 => ?_) (fun h91 => ?_)
              · refine b_aload_n dX12_century_101 rfl rfl ?_
                refine b_callV (As := []) (st := []) dX12_century_102 lk_X12_459 lm_X12_likeNow lv_X12_likeNow rfl (by decide) rfl rfl rfl (Nat.le_of_ble_eq_true rfl) (Nat.le_refl _) (by decide) ?_
                refine c_X12_likeNow hR2.n hR2.le (hT.fd D2).on hT.ole (fun h6 F6 => ?_)
                rw [show lkM (h 104) (h 94) (l_n (cnM T S s i).1) (t_on T) = likV T (cnM T S s i).1 from lkM_cg hR2.sg (hT.fd D2).ot _ (Nat.le_refl _) _ (Nat.le_refl _)]
                refine b_istore (lv' := [(0, _), (1, _), (2, _), (3, _), (4, _)]) dX12_century_105 (by decide) rfl rfl ?_
                refine b_aload_n dX12_century_107 rfl rfl ?_
                refine b_aload_n dX12_century_108 rfl rfl ?_
                refine b_getR (b := 112) lf_X12_120 rfl rfl dX12_century_109 ?_
                refine b_iconst (v := 0) dX12_century_112 (by decide +kernel) ?_
                refine b_callV (As := [_, _]) (st := []) dX12_century_113 lk_X12_416 lm_X12_unpack lv_X12_unpack rfl (by decide) rfl rfl rfl (Nat.le_of_ble_eq_true rfl) (Nat.le_refl _) (by decide) ?_
                refine c_X12_unpack (z := 112) (n := 35) (f := 0) rfl (by decide) (by decide) (by decide) (fun h7 uF u84 uk => ?_)
                have hR7 : RMl h7 T S := RMl.back hT.le oL.1 oL.2.2.2.2 (by rw [F6 112 (by decide) (by decide), e112]; exact rk) (hR2.cg (fun j _ _ => by rw [F6 84 (by decide) (by decide)]) (fun z z1 z2 z3 => F6 z (by omega) (by omega))) (cnM_ok oT oL.1 i).2 uF uk
                have D7 := (D1.tr (D2.tr (FD.of110 F6))).tr (FD.unp uF u84)
                have c7 : h7 84 2 = 0 := by rw [u84 2 (by decide), F6 84 (by decide) (by decide)]; exact cc
                refine b_iload dX12_century_116 rfl ?_
                refine b_iret rfl (by decide) dX12_century_118 ?_
                have hq := hq h7 D7 hR7 (by rw [cenM_0 hw hn]; exact c7)
                rw [cenM_0 hw hn] at hq
                unfold cenV at hq
                simp only [if_neg h79, if_neg h91] at hq
                exact hq
              · refine b_aload_n dX12_century_94 rfl rfl ?_
                refine b_callV (As := []) (st := []) dX12_century_95 lk_X12_379 lm_X12_rests lv_X12_rests rfl (by decide) rfl rfl rfl (Nat.le_of_ble_eq_true rfl) (Nat.le_refl _) (by decide) ?_
                refine c_X12_rests hR2.n hR2.le ?_
                rw [tmP_cg hR2.sg]
                refine b_goto (tgt := 105) dX12_century_98 (by decide) ?_
                refine b_istore (lv' := [(0, _), (1, _), (2, _), (3, _), (4, _)]) dX12_century_105 (by decide) rfl rfl ?_
                refine b_aload_n dX12_century_107 rfl rfl ?_
                refine b_aload_n dX12_century_108 rfl rfl ?_
                refine b_getR (b := 112) lf_X12_120 rfl rfl dX12_century_109 ?_
                refine b_iconst (v := 0) dX12_century_112 (by decide +kernel) ?_
                refine b_callV (As := [_, _]) (st := []) dX12_century_113 lk_X12_416 lm_X12_unpack lv_X12_unpack rfl (by decide) rfl rfl rfl (Nat.le_of_ble_eq_true rfl) (Nat.le_refl _) (by decide) ?_
                refine c_X12_unpack (z := 112) (n := 35) (f := 0) rfl (by decide) (by decide) (by decide) (fun h7 uF u84 uk => ?_)
                have hR7 : RMl h7 T S := RMl.back hT.le oL.1 oL.2.2.2.2 (by rw [e112]; exact rk) hR2 (cnM_ok oT oL.1 i).2 uF uk
                have D7 := (D1.tr (D2)).tr (FD.unp uF u84)
                have c7 : h7 84 2 = 0 := by rw [u84 2 (by decide)]; exact cc
                refine b_iload dX12_century_116 rfl ?_
                refine b_iret rfl (by decide) dX12_century_118 ?_
                have hq := hq h7 D7 hR7 (by rw [cenM_0 hw hn]; exact c7)
                rw [cenM_0 hw hn] at hq
                unfold cenV at hq
                simp only [if_neg h79, if_pos h91] at hq
                exact hq
            · refine b_aload_n dX12_century_82 rfl rfl ?_
              refine b_getI lf_X12_320 rfl dX12_century_83 ?_
              refine b_topE (y := nI (l_n (cnM T S s i).1)) (hR2.n) ?_
              refine b_goto (tgt := 105) dX12_century_86 (by decide) ?_
              refine b_istore (lv' := [(0, _), (1, _), (2, _), (3, _), (4, _)]) dX12_century_105 (by decide) rfl rfl ?_
              refine b_aload_n dX12_century_107 rfl rfl ?_
              refine b_aload_n dX12_century_108 rfl rfl ?_
              refine b_getR (b := 112) lf_X12_120 rfl rfl dX12_century_109 ?_
              refine b_iconst (v := 0) dX12_century_112 (by decide +kernel) ?_
              refine b_callV (As := [_, _]) (st := []) dX12_century_113 lk_X12_416 lm_X12_unpack lv_X12_unpack rfl (by decide) rfl rfl rfl (Nat.le_of_ble_eq_true rfl) (Nat.le_refl _) (by decide) ?_
              refine c_X12_unpack (z := 112) (n := 35) (f := 0) rfl (by decide) (by decide) (by decide) (fun h7 uF u84 uk => ?_)
              have hR7 : RMl h7 T S := RMl.back hT.le oL.1 oL.2.2.2.2 (by rw [e112]; exact rk) hR2 (cnM_ok oT oL.1 i).2 uF uk
              have D7 := (D1.tr (D2)).tr (FD.unp uF u84)
              have c7 : h7 84 2 = 0 := by rw [u84 2 (by decide)]; exact cc
              refine b_iload dX12_century_116 rfl ?_
              refine b_iret rfl (by decide) dX12_century_118 ?_
              have hq := hq h7 D7 hR7 (by rw [cenM_0 hw hn]; exact c7)
              rw [cenM_0 hw hn] at hq
              unfold cenV at hq
              simp only [if_pos h79] at hq
              exact hq
          · have e61 : i < n := nn_nle (a := n) (b := i) (by omega) (by omega) h61
            refine b_aload_n dX12_century_64 rfl rfl ?_
            refine b_callV (As := []) (st := []) dX12_century_65 lk_X12_508 lm_X12_something lv_X12_something rfl (by decide) rfl rfl rfl (Nat.le_of_ble_eq_true rfl) (Nat.le_refl _) (by decide) ?_
            refine c_X12_something1 hR2 (hT.fd D2) (by omega) e57 (fun h4 hR4 f4 s4 => ?_)
            refine b_aload_n dX12_century_68 rfl rfl ?_
            refine b_callV (As := []) (st := []) dX12_century_69 lk_X12_376 lm_X12_aYear lv_X12_aYear rfl (by decide) rfl rfl rfl (Nat.le_of_ble_eq_true rfl) (Nat.le_refl _) (by decide) ?_
            refine c_X12_aYear (sp := -1) ((hT.fd D2).fd f4.fd) hR4 oT (cnM_ok oT oL.1 i).1.bfm (by rw [f4.2 44 (by decide) (by decide) (by decide), D2.2 44 (by decide)]; exact sp1) (fun h5 f5 hR5 => ?_)
            refine b_incN (j := i) (lv' := [(0, _), (1, _), (2, _), (3, _), (4, _)]) dX12_century_72 rfl rfl (by decide) rfl rfl ?_
            refine b_goto (tgt := 58) dX12_century_75 (by decide) ?_
            have z := ih (i + 1) (by omega) (by omega) h5 (by rw [cnM, if_neg hz]; exact hR5) ((D2.tr f4.fd).tr f5.fd) (by rw [f5.2 2 (by decide) (by decide), f4.2 2 (by decide) (by decide) (by decide)]; exact cc) (by rw [f5.1 112 (by decide) (by decide) (by decide) (by decide) (by decide) (by decide), f4.1 112 (by decide) (by decide)]; exact e112) (by rw [cnM, if_neg hz, f5.2 57 (by decide) (by decide)]; exact s4)
            exact z
      refine b_aload_n dX12_century_50 rfl rfl ?_
      refine b_iload_n dX12_century_51 rfl rfl ?_
      refine b_putI lf_X12_501 lp_12_57 rfl dX12_century_52 ?_
      refine b_iconst (v := 0) dX12_century_55 (by decide +kernel) ?_
      refine b_istore (lv' := [(0, _), (1, _), (2, _), (3, _), (4, _)]) dX12_century_56 (by decide) rfl rfl ?_
      exact LP 0 (Nat.zero_le _) _ hR1.f57 (FD.fld 57 _ (by decide)) (by rw [up2_k _ _ _ _ (by decide)]; exact c1) (up2_f _ _ _ _ (by decide)) (up2_s _ _ _ _)
    · have e32 := b2i_0 h32
      refine b_aload_n dX12_century_35 rfl rfl ?_
      refine b_iconst (v := 2) dX12_century_36 (by decide +kernel) ?_
      refine b_callV (As := [_]) (st := []) dX12_century_37 lk_X12_303 lm_X12_fail lv_X12_fail rfl (by decide) rfl rfl rfl (Nat.le_of_ble_eq_true rfl) (Nat.le_refl _) (by decide) ?_
      refine c_X12_fail ?_
      refine b_iret rfl (by decide) dX12_century_40 ?_
      rw [show cenM T S s n0 w = (2, 0) from cenM_2 hw e32] at hq
      exact hq _ (F1.tr (FD.code 2)) hR.code (up2_s _ _ _ _)
  · have e14 := b2i_0 h14
    refine b_aload_n dX12_century_17 rfl rfl ?_
    refine b_iconst (v := 1) dX12_century_18 (by decide +kernel) ?_
    refine b_callV (As := [_]) (st := []) dX12_century_19 lk_X12_303 lm_X12_fail lv_X12_fail rfl (by decide) rfl rfl rfl (Nat.le_of_ble_eq_true rfl) (Nat.le_refl _) (by decide) ?_
    refine c_X12_fail ?_
    refine b_iret rfl (by decide) dX12_century_22 ?_
    rw [show cenM T S s n0 w = (1, 0) from cenM_1 e14] at hq
    exact hq _ (F1.tr (FD.code 1)) hR.code (up2_s _ _ _ _)
