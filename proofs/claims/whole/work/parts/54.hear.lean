theorem c_X12_peace {E : En} {d : Nat} {Q : QT} {X : XT} {g : G2} {T : TD} {F : FS} (hT : RMt g T) (hM : RMf g T F) (oF : okF T F) {k0 : Int32} (hq : ∀ h, RMf h T (peaM F k0).2.2 → FB g h → h 84 2 = nI (peaM F k0).1 → Q (some (.int (peaM F k0).2.1)) h) : M E md_X12_peace (d + 2) [.ref 84, .int k0] g Q X := by
  refine M.of _ rfl rfl (Nat.le_of_ble_eq_true rfl) ?_
  refine b_aload_n dX12_peace_0 rfl rfl ?_
  refine b_iconst (v := 0) dX12_peace_1 (by decide +kernel) ?_
  refine b_putI lf_X12_165 lp_12_2 rfl dX12_peace_2 ?_
  have B1 : FB g (up2 g 84 2 0) := (FD.code 0).fb
  have c1 : up2 g 84 2 0 84 2 = 0 := up2_s _ _ _ _
  have hM := hM.code (x := 0)
  have hT := hT.code (x := 0)
  generalize up2 g 84 2 0 = g1 at B1 c1 hM hT ⊢
  have h8 := hT.le
  have h6 := hM.1.f6
  refine b_iload_n dX12_peace_5 rfl rfl ?_
  refine b_i2l dX12_peace_6 rfl ?_
  refine b_lconst (v := 0) dX12_peace_7 (by decide +kernel) ?_
  refine b_aload_n dX12_peace_8 rfl rfl ?_
  refine b_getI lf_X12_332 rfl dX12_peace_9 ?_
  refine b_iconst (v := 1) dX12_peace_12 (by decide +kernel) ?_
  refine b_isub dX12_peace_13 ?_
  refine b_i2l dX12_peace_14 rfl ?_
  refine b_callS (As := [_, _, _]) (st := []) dX12_peace_15 lk_X12_168 lm_X12_isIn ls_X12_isIn rfl rfl (Nat.le_of_ble_eq_true rfl) (Nat.le_refl _) (by decide) ?_
  refine c_X12_isIn ?_
  rw [in_64n hM.1.fn (by omega), Int32.toInt_toInt64, show (0 : Int64).toInt = 0 from by decide]
  refine b_if_ne (tgt := 26) dX12_peace_18 (by decide) (fun h18 => ?_) (fun h18 => ?_)
  · have e18 := b2i_1 h18
    obtain ⟨k, hk, rfl⟩ := in_nat e18
    rw [peaM_y hk h6] at hq
    refine b_aload_n dX12_peace_26 rfl rfl ?_
    refine b_callV (As := []) (st := []) dX12_peace_27 lk_X12_396 lm_X12_keep lv_X12_keep rfl (by decide) rfl rfl rfl (Nat.le_of_ble_eq_true rfl) (Nat.le_refl _) (by decide) ?_
    refine c_X12_keep h8 hM oF (fun h hK hRk B2 c2 => ?_)
    have c2 : h 84 2 = 0 := by rw [c2]; exact c1
    have B2 := B1.tr B2
    have LP : ∀ i, i ≤ l_fn (f_S F) - 1 → k ≤ i → ∀ h1, (∀ y, y ≠ 101 → y ≠ 102 → h1 y = up2 h 84 36 (nI (l_fn (f_S F) - 1)) y) → (∀ j, h1 101 j = if k ≤ j ∧ j < i then h 101 (j + 1) else h 101 j) → (∀ j, h1 102 j = if k ≤ j ∧ j < i then h 102 (j + 1) else h 102 j) → B E md_X12_peace (d + 2) Q X 42 [(0, .ref 84), (1, .int (nI k)), (2, .int (nI i))] [] h1 0 := by
      refine lp_up (fun i hi ih hki h1 hF hA hB => ?_)
      have hF84 := hF 84 (by decide) (by decide)
      refine b_iload_n dX12_peace_42 rfl rfl ?_
      refine b_aload_n dX12_peace_43 rfl rfl ?_
      refine b_getI lf_X12_332 rfl dX12_peace_44 ?_
      refine b_topE (y := nI ((l_fn (f_S F) - 1))) (by rw [hF84]; exact up2_s _ _ _ _) ?_
      refine b_icmp_ge (tgt := 84) dX12_peace_47 (by decide) (fun h47 => ?_) (fun h47 => ?_)
      · have e47 : ((l_fn (f_S F) - 1)) ≤ i := nn_le (a := ((l_fn (f_S F) - 1))) (b := i) (by omega) (by omega) h47
        have e : i = l_fn (f_S F) - 1 := by omega
        subst e
        refine b_iconst (v := 1) dX12_peace_84 (by decide +kernel) ?_
        refine b_zret (Or.inr rfl) rfl (by decide) dX12_peace_85 ?_
        have hF : ∀ y, y ≠ 84 → y ≠ 101 → y ≠ 102 → h1 y = h y := fun y y1 y2 y3 => by rw [hF y y2 y3, up2_f _ _ _ _ y1]
        have h84 : ∀ j, j ≠ 36 → h1 84 j = h 84 j := fun j j1 => by rw [hF84, up2_k _ _ _ _ j1]
        refine hq h1 (RMf.push (hRk.fds hF h84 rfl (fun c hc => peaS_c _ k hc) (by rw [hF84]; exact up2_s _ _ _ _) (by show l_fn (f_S F) - 1 ≤ 6; omega) (fun i hi => ?_) (fun i hi => ?_)) (hK.cg (h84 37 (by decide)) (h84 38 (by decide)) (hF _ (by decide) (by decide) (by decide)) (hF _ (by decide) (by decide) (by decide)) (hF _ (by decide) (by decide) (by decide)) (hF _ (by decide) (by decide) (by decide)))) (B2.tr ⟨fun y hy => hF y (by omega) (by omega) (by omega), fun j hj => h84 j (by omega)⟩) (by rw [h84 2 (by decide)]; exact c2)
        · have hi : i < l_fn (f_S F) - 1 := hi
          rw [hA i, peaS_6]; unfold rmF
          by_cases e : k ≤ i
          · rw [if_pos (by omega), if_pos e]; exact hRk.fa _ (by omega)
          · rw [if_neg (by omega), if_neg e]; exact hRk.fa _ (by omega)
        · have hi : i < l_fn (f_S F) - 1 := hi
          rw [hB i, peaS_7]; unfold rmF
          by_cases e : k ≤ i
          · rw [if_pos (by omega), if_pos e]; exact hRk.fb _ (by omega)
          · rw [if_neg (by omega), if_neg e]; exact hRk.fb _ (by omega)
      · have e47 : i < ((l_fn (f_S F) - 1)) := nn_nle (a := ((l_fn (f_S F) - 1))) (b := i) (by omega) (by omega) h47
        refine b_aload_n dX12_peace_50 rfl rfl ?_
        refine b_getR (b := 101) lf_X12_84 rfl rfl dX12_peace_51 ?_
        refine b_iload_n dX12_peace_54 rfl rfl ?_
        refine b_aload_n dX12_peace_55 rfl rfl ?_
        refine b_getR (b := 101) lf_X12_84 rfl rfl dX12_peace_56 ?_
        refine b_iload_n dX12_peace_59 rfl rfl ?_
        refine b_iconst (v := 1) dX12_peace_60 (by decide +kernel) ?_
        refine b_iadd dX12_peace_61 ?_
        refine b_topE (nI_add i 1) ?_
        refine b_ildN (j := (i + 1)) dX12_peace_62 (rfl) (by show _ < 6; omega) ?_
        refine b_istN (j := i) dX12_peace_63 (rfl) (by show _ < 6; omega) ?_
        refine b_aload_n dX12_peace_64 rfl rfl ?_
        refine b_getR (b := 102) lf_X12_87 rfl rfl dX12_peace_65 ?_
        refine b_iload_n dX12_peace_68 rfl rfl ?_
        refine b_aload_n dX12_peace_69 rfl rfl ?_
        refine b_getR (b := 102) lf_X12_87 rfl rfl dX12_peace_70 ?_
        refine b_iload_n dX12_peace_73 rfl rfl ?_
        refine b_iconst (v := 1) dX12_peace_74 (by decide +kernel) ?_
        refine b_iadd dX12_peace_75 ?_
        refine b_topE (nI_add i 1) ?_
        refine b_ildN (j := (i + 1)) dX12_peace_76 (rfl) (by show _ < 6; omega) ?_
        refine b_istN (j := i) dX12_peace_77 (rfl) (by show _ < 6; omega) ?_
        refine b_incN (j := i) (lv' := [(0, _), (1, _), (2, _)]) dX12_peace_78 rfl rfl (by decide) rfl rfl ?_
        refine b_goto (tgt := 42) dX12_peace_81 (by decide) ?_
        refine ih (i + 1) (by omega) (by omega) (by omega) _ (fun y y1 y2 => by rw [up2_f _ _ _ _ y2, up2_f _ _ _ _ y1]; exact hF y y1 y2) (fun j => ?_) (fun j => ?_)
        · rw [up2_a _ _ _ _ (by decide)]
          by_cases e : j = i
          · subst e; rw [up2_s, if_pos (by omega), hA (j + 1), if_neg (by omega)]
          · rw [up2_k _ _ _ _ e, hA j]
            by_cases e2 : k ≤ j ∧ j < i
            · rw [if_pos e2, if_pos (by omega)]
            · rw [if_neg e2, if_neg (by omega)]
        · by_cases e : j = i
          · subst e; rw [up2_s, if_pos (by omega), up2_a _ _ _ _ (by decide), hB (j + 1), if_neg (by omega)]
          · rw [up2_k _ _ _ _ e, up2_a _ _ _ _ (by decide), hB j]
            by_cases e2 : k ≤ j ∧ j < i
            · rw [if_pos e2, if_pos (by omega)]
            · rw [if_neg e2, if_neg (by omega)]
    refine b_aload_n dX12_peace_30 rfl rfl ?_
    refine b_dup dX12_peace_31 rfl ?_
    refine b_getI lf_X12_332 rfl dX12_peace_32 ?_
    refine b_topE (y := nI (l_fn (f_S F))) (hRk.fn) ?_
    refine b_iconst (v := 1) dX12_peace_35 (by decide +kernel) ?_
    refine b_isub dX12_peace_36 ?_
    refine b_topE (nI_sub (l_fn (f_S F)) 1 (by omega)) ?_
    refine b_putI lf_X12_332 lp_12_36 rfl dX12_peace_37 ?_
    refine b_iload_n dX12_peace_40 rfl rfl ?_
    refine b_istore_n (lv' := [(0, _), (1, _), (2, _)]) dX12_peace_41 rfl (by decide) rfl rfl ?_
    exact LP k (by omega) (Nat.le_refl _) _ (fun _ _ _ => rfl) (fun j => by rw [if_neg (by omega), up2_a _ _ _ _ (by decide)]) (fun j => by rw [if_neg (by omega), up2_a _ _ _ _ (by decide)])
  · have e18 := b2i_0 h18
    skip
    refine b_aload_n dX12_peace_21 rfl rfl ?_
    refine b_callV (As := []) (st := []) dX12_peace_22 lk_X12_405 lm_X12_refuses lv_X12_refuses rfl (by decide) rfl rfl rfl (Nat.le_of_ble_eq_true rfl) (Nat.le_refl _) (by decide) ?_
    refine c_X12_refuses ?_
    refine b_zret (Or.inl rfl) rfl (by decide) dX12_peace_25 ?_
    have e := peaM_r e18
    rw [e] at hq
    exact hq _ (hM.ref (by decide)) (B1.tr (FB.st 1 _)) (by rw [up2_a _ _ _ _ (by decide)]; exact c1)
theorem c_X12_undo {E : En} {d : Nat} {Q : QT} {X : XT} {g : G2} {T : TD} {F : FS} (hT : RMt g T) (hM : RMf g T F) (oF : okF T F) (hq : ∀ h, RMf h T (undM F).2.2 → FB g h → h 84 2 = nI (undM F).1 → Q (some (.int (undM F).2.1)) h) : M E md_X12_undo (d + 2) [.ref 84] g Q X := by
  refine M.of _ rfl rfl (Nat.le_of_ble_eq_true rfl) ?_
  refine b_aload_n dX12_undo_0 rfl rfl ?_
  refine b_iconst (v := 0) dX12_undo_1 (by decide +kernel) ?_
  refine b_putI lf_X12_165 lp_12_2 rfl dX12_undo_2 ?_
  have B1 : FB g (up2 g 84 2 0) := (FD.code 0).fb
  have c1 : up2 g 84 2 0 84 2 = 0 := up2_s _ _ _ _
  have hM := hM.code (x := 0)
  have hT := hT.code (x := 0)
  generalize up2 g 84 2 0 = g1 at B1 c1 hM hT ⊢
  have h8 := hT.le
  have h40 := oF.1
  refine b_aload_n dX12_undo_5 rfl rfl ?_
  refine b_getI lf_X12_338 rfl dX12_undo_6 ?_
  refine b_topE (y := nI (f_na F)) (hM.2.1) ?_
  refine b_if_ne (tgt := 14) dX12_undo_9 (by decide) (fun h9 => ?_) (fun h9 => ?_)
  · have e9 : (f_na F) ≠ 0 := fun q => h9 (by rw [q]; rfl)
    unfold undM at hq
    rw [if_neg e9] at hq
    refine b_aload_n dX12_undo_14 rfl rfl ?_
    refine b_dup dX12_undo_15 rfl ?_
    refine b_getI lf_X12_338 rfl dX12_undo_16 ?_
    refine b_topE (y := nI (f_na F)) (hM.2.1) ?_
    refine b_iconst (v := 1) dX12_undo_19 (by decide +kernel) ?_
    refine b_isub dX12_undo_20 ?_
    refine b_topE (nI_sub (f_na F) 1 (by omega)) ?_
    refine b_putI lf_X12_338 lp_12_37 rfl dX12_undo_21 ?_
    refine b_aload_n dX12_undo_24 rfl rfl ?_
    refine b_aload_n dX12_undo_25 rfl rfl ?_
    refine b_getR (b := 103) lf_X12_90 rfl rfl dX12_undo_26 ?_
    refine b_bipush (v := 35) dX12_undo_29 (by decide +kernel) ?_
    refine b_aload_n dX12_undo_31 rfl rfl ?_
    refine b_getI lf_X12_338 rfl dX12_undo_32 ?_
    refine b_topE (y := nI ((f_na F - 1))) (up2_s _ _ _ _) ?_
    refine b_imul dX12_undo_35 ?_
    refine b_topE (nI_mul 35 ((f_na F - 1))) ?_
    refine b_callV (As := [_, _]) (st := []) dX12_undo_36 lk_X12_416 lm_X12_unpack lv_X12_unpack rfl (by decide) rfl rfl rfl (Nat.le_of_ble_eq_true rfl) (Nat.le_refl _) (by decide) ?_
    refine c_X12_unpack (z := 103) (n := 1400) (f := 35 * (f_na F - 1)) rfl (by omega) (by decide) (by decide) (fun h uF u84 uk => ?_)
    rw [up2_f _ _ _ _ (by decide)] at uk
    have hA := oF.A (i := f_na F - 1) (by omega)
    have hpre := oF.pre 1 (f_na F - 1) (by omega)
    rw [show f_na F - 1 + 1 = f_na F by omega, f_at_S, f_at_A (by omega)] at hpre
    have hz : ∀ y, y ≠ 84 → y ≠ 99 → y ≠ 100 → y ≠ 101 → y ≠ 102 → h y = g1 y := fun y y1 y2 y3 y4 y5 => by rw [uF y y1 y2 y3 y4 y5, up2_f _ _ _ _ y1]
    have h84 : ∀ j, (j < 30 ∨ 36 < j) → j ≠ 37 → h 84 j = g1 84 j := fun j j1 j2 => by rw [u84 j j1, up2_k _ _ _ _ j2]
    have hR : RMl h T (f_A F (f_na F - 1)) := RMl.unp h8 hA.1.1 hA.2.2.2.2 uk (hM.2.2.1 (f_na F - 1) (by omega)) (fun i hi => by rw [hz 104 (by decide) (by decide) (by decide) (by decide) (by decide), hM.1.sg i (by have := hpre.1; omega)]; exact (hpre.2 0 (by decide) i hi).symm) (fun i hi => by rw [hz 105 (by decide) (by decide) (by decide) (by decide) (by decide), hM.1.wh i (by have := hpre.1; omega)]; exact (hpre.2 1 (by decide) i hi).symm) (fun i hi => by rw [hz 106 (by decide) (by decide) (by decide) (by decide) (by decide), hM.1.yi i (by have := hpre.1; omega)]; exact (hpre.2 2 (by decide) i hi).symm)
    refine b_aload_n dX12_undo_39 rfl rfl ?_
    refine b_getI lf_X12_338 rfl dX12_undo_40 ?_
    refine b_topE (y := nI ((f_na F - 1))) (by rw [u84 37 (by decide)]; exact up2_s _ _ _ _) ?_
    refine b_iret rfl (by decide) dX12_undo_43 ?_
    refine hq h ⟨hR, by rw [u84 37 (by decide)]; exact up2_s _ _ _ _, fun i hi => ?_, by rw [h84 38 (by decide) (by decide)]; exact hM.2.2.2.1, RMh.cg hM.2.2.2.2.1 (hz _ (by decide) (by decide) (by decide) (by decide) (by decide)) (hz _ (by decide) (by decide) (by decide) (by decide) (by decide)), RCu.cg hM.2.2.2.2.2 (hz _ (by decide) (by decide) (by decide) (by decide) (by decide))⟩ (B1.tr ⟨fun y hy => hz y (by omega) (by omega) (by omega) (by omega) (by omega), fun j hj => h84 j (by omega) (by omega)⟩) (by rw [h84 2 (by decide) (by decide)]; exact c1)
    have hi : i < f_na F - 1 := hi
    rw [hz 103 (by decide) (by decide) (by decide) (by decide) (by decide)]
    exact hM.2.2.1 i (by omega)
  · have e9 : (f_na F) = 0 := nI_inj (b := 0) (by omega) (by decide) h9
    unfold undM at hq
    rw [if_pos e9] at hq
    refine b_iconst (v := (-1)) dX12_undo_12 (by decide +kernel) ?_
    refine b_iret rfl (by decide) dX12_undo_13 ?_
    exact hq g1 hM B1 c1
/-- what may change of the class and of the model by a call on what lives -/
def lvC (y : Nat) : Prop := (31 ≤ y ∧ y ≤ 40) ∨ y = 61 ∨ y = 62 ∨ (65 ≤ y ∧ y ≤ 67) ∨ y = 71
def FL (g h : G2) : Prop := ∀ y, ¬ scC y → ¬ lvC y → h y = g y
def FN (g h : G2) : Prop := (∀ y, (y < 84 ∨ (85 ≤ y ∧ y ≤ 95) ∨ y = 97 ∨ y = 98 ∨ 119 ≤ y) → h y = g y) ∧ ∀ j, ((15 ≤ j ∧ j ≤ 29) ∨ j = 44 ∨ (58 ≤ j ∧ j ≤ 60)) → h 84 j = g 84 j
theorem FA.fl {g h : G2} (f : FA g h) : FL g h := fun y y1 y2 => by unfold lvC at y2; exact f y y1 (by omega) (by omega) (by omega) (by omega)
theorem FC.fl {g h : G2} (f : FC g h) : FL g h := fun y y1 _ => f y y1
theorem FB.fn {g h : G2} (f : FB g h) : FN g h := ⟨fun y hy => f.1 y (by omega), fun j hj => f.2 j (by omega)⟩
theorem FN.tr {g h k : G2} (h1 : FN g h) (h2 : FN h k) : FN g k := ⟨fun y q => (h2.1 y q).trans (h1.1 y q), fun j q => (h2.2 j q).trans (h1.2 j q)⟩
def addH (F : FS) (p s : Int32) : FS := (f_S F, f_na F, f_A F, f_nh F + 1, up2 (up2 (f_g F) 0 (f_nh F) p) 1 (f_nh F) s)
def heaM (F : FS) (p s : Int32) : Nat × Int32 × FS := if inB p.toInt 0 399 = true ∧ inB s.toInt 0 12 = true ∧ f_nh F < 8 then (0, nI (f_nh F + 1), addH F p s) else (0, -1, refF F 2)
theorem addH_0 (F : FS) (p s : Int32) (i : Nat) : f_g (addH F p s) 0 i = if i = f_nh F then p else f_g F 0 i := by
  show up2 (up2 (f_g F) 0 (f_nh F) p) 1 (f_nh F) s 0 i = _
  rw [up2_a _ _ _ _ (by decide), up2_if]
theorem addH_1 (F : FS) (p s : Int32) (i : Nat) : f_g (addH F p s) 1 i = if i = f_nh F then s else f_g F 1 i := by
  show up2 (up2 (f_g F) 0 (f_nh F) p) 1 (f_nh F) s 1 i = _
  rw [up2_if, up2_a _ _ _ _ (by decide)]
theorem addH_2 (F : FS) (p s : Int32) : f_g (addH F p s) 2 = f_g F 2 := by
  show up2 (up2 (f_g F) 0 (f_nh F) p) 1 (f_nh F) s 2 = _
  rw [up2_f _ _ _ _ (by decide), up2_f _ _ _ _ (by decide)]
theorem okF.add {T : TD} {F : FS} {p s : Int32} (h : okF T F) (h1 : inB p.toInt 0 399 = true) (h2 : f_nh F < 8) : okF T (addH F p s) := by
  refine ⟨h.1, h2, h.2.2.1, h.2.2.2.1, fun i hi => ?_⟩
  have hi : i < f_nh F + 1 := hi
  rw [addH_0]
  by_cases e : i = f_nh F
  · rw [if_pos e]; obtain ⟨q, q1, q2, q3⟩ := inB_ex (a := 0) (b := 399) h1; exact ⟨q, by omega, q3⟩
  · rw [if_neg e]; exact h.2.2.2.2 i (by omega)
theorem okF.hea {T : TD} {F : FS} {p s : Int32} (h : okF T F) : okF T (heaM F p s).2.2 := by
  unfold heaM; split
  · rename_i q; exact h.add q.1 q.2.2
  · exact h.ref
theorem heaM_n {F : FS} {p s : Int32} (h : ¬ (inB p.toInt 0 399 = true ∧ inB s.toInt 0 12 = true ∧ f_nh F < 8)) : heaM F p s = (0, -1, refF F 2) := if_neg h
theorem heaM_y {F : FS} {p s : Int32} (h : inB p.toInt 0 399 = true ∧ inB s.toInt 0 12 = true ∧ f_nh F < 8) : heaM F p s = (0, nI (f_nh F + 1), addH F p s) := if_pos h
theorem lt_le {x : Int32} {a b : Int32} {n : Nat} (ha : a.toInt = n + 1) (hb : b.toInt = n) (h : x < a) : x ≤ b := by rw [Int32.lt_iff_toInt_lt] at h; rw [Int32.le_iff_toInt_le]; omega
theorem ge_nle {x : Int32} {a b : Int32} {n : Nat} (ha : a.toInt = n + 1) (hb : b.toInt = n) (h : a ≤ x) : ¬ x ≤ b := by rw [Int32.le_iff_toInt_le] at h; rw [Int32.le_iff_toInt_le]; omega
theorem RCf.ref2 {g : G2} {T : TD} {F : FS} (hC : RCf g 31 61 65 71 T F) : RCf (up2 g 71 2 (g 71 2 + 1)) 31 61 65 71 T (refF F 2) :=
  ⟨hC.1.cg (fun k hk => up2_f _ _ _ _ (by omega)), RCa.cg hC.2.1 (up2_f _ _ _ _ (by decide)) (up2_f _ _ _ _ (by decide)), (RCh.refF hC.2.2.1).cg (up2_f _ _ _ _ (by decide)) (up2_f _ _ _ _ (by decide)) (up2_f _ _ _ _ (by decide)), hC.2.2.2.ref (by decide)⟩
theorem c_X11_hear {E : En} {d : Nat} {Q : QT} {X : XT} {g : G2} {T : TD} {F : FS} (hC : RCf g 31 61 65 71 T F) (oF : okF T F) {p s : Int32} (hq : ∀ h, RCf h 31 61 65 71 T (heaM F p s).2.2 → FL g h → Q (some (.int (heaM F p s).2.1)) h) : M E md_X11_hear (d + 1) [.ref 0, .int p, .int s] g Q X := by
  refine M.of _ rfl rfl (Nat.le_of_ble_eq_true rfl) ?_
  have hn8 := oF.2.1
  refine b_iload_n dX11_hear_0 rfl rfl ?_
  refine b_if_lt (tgt := 25) dX11_hear_1 (by decide) (fun h1 => ?_) (fun h1 => ?_)
  · have hz : ¬ (inB p.toInt 0 399 = true ∧ inB s.toInt 0 12 = true ∧ f_nh F < 8) := fun q => by rw [in_lt h1] at q; simp at q
    refine b_iconst (v := 0) dX11_hear_25 (by decide +kernel) ?_
    refine b_istore_n (lv' := [(0, _), (1, _), (2, _), (3, _)]) dX11_hear_26 rfl (by decide) rfl rfl ?_
    refine b_iload_n dX11_hear_27 rfl rfl ?_
    refine b_if_eq (tgt := 43) dX11_hear_28 (by decide) (fun h28 => ?_) (fun h28 => ?_)
    · refine b_aload_n dX11_hear_43 rfl rfl ?_
      refine b_getR (b := 71) lf_X11_51 rfl rfl dX11_hear_44 ?_
      refine b_iconst (v := 2) dX11_hear_47 (by decide +kernel) ?_
      refine b_dup2 dX11_hear_48 rfl rfl ?_
      refine b_ildN (j := 2) dX11_hear_49 (rfl) (by show _ < 3; omega) ?_
      refine b_iconst (v := 1) dX11_hear_50 (by decide +kernel) ?_
      refine b_iadd dX11_hear_51 ?_
      refine b_istN (j := 2) dX11_hear_52 (rfl) (by show _ < 3; omega) ?_
      refine b_iconst (v := (-1)) dX11_hear_53 (by decide +kernel) ?_
      refine b_iret rfl (by decide) dX11_hear_54 ?_
      rw [heaM_n hz] at hq
      exact hq _ hC.ref2 (fun y _ y2 => up2_f _ _ _ _ (by unfold lvC at y2; omega))
    · exact absurd rfl h28
  · refine b_iload_n dX11_hear_4 rfl rfl ?_
    refine b_sipush (v := 400) dX11_hear_5 (by decide +kernel) ?_
    refine b_icmp_ge (tgt := 25) dX11_hear_8 (by decide) (fun h8 => ?_) (fun h8 => ?_)
    · have hz : ¬ (inB p.toInt 0 399 = true ∧ inB s.toInt 0 12 = true ∧ f_nh F < 8) := fun q => by rw [in_gt (m := 399) (b := 399) rfl (ge_nle (n := 399) (by decide) (by decide) h8)] at q; simp at q
      refine b_iconst (v := 0) dX11_hear_25 (by decide +kernel) ?_
      refine b_istore_n (lv' := [(0, _), (1, _), (2, _), (3, _)]) dX11_hear_26 rfl (by decide) rfl rfl ?_
      refine b_iload_n dX11_hear_27 rfl rfl ?_
      refine b_if_eq (tgt := 43) dX11_hear_28 (by decide) (fun h28 => ?_) (fun h28 => ?_)
      · refine b_aload_n dX11_hear_43 rfl rfl ?_
        refine b_getR (b := 71) lf_X11_51 rfl rfl dX11_hear_44 ?_
        refine b_iconst (v := 2) dX11_hear_47 (by decide +kernel) ?_
        refine b_dup2 dX11_hear_48 rfl rfl ?_
        refine b_ildN (j := 2) dX11_hear_49 (rfl) (by show _ < 3; omega) ?_
        refine b_iconst (v := 1) dX11_hear_50 (by decide +kernel) ?_
        refine b_iadd dX11_hear_51 ?_
        refine b_istN (j := 2) dX11_hear_52 (rfl) (by show _ < 3; omega) ?_
        refine b_iconst (v := (-1)) dX11_hear_53 (by decide +kernel) ?_
        refine b_iret rfl (by decide) dX11_hear_54 ?_
        rw [heaM_n hz] at hq
        exact hq _ hC.ref2 (fun y _ y2 => up2_f _ _ _ _ (by unfold lvC at y2; omega))
      · exact absurd rfl h28
    · refine b_iload_n dX11_hear_11 rfl rfl ?_
      refine b_if_lt (tgt := 25) dX11_hear_12 (by decide) (fun h12 => ?_) (fun h12 => ?_)
      · have hz : ¬ (inB p.toInt 0 399 = true ∧ inB s.toInt 0 12 = true ∧ f_nh F < 8) := fun q => by rw [in_lt (x := s) h12] at q; simp at q
        refine b_iconst (v := 0) dX11_hear_25 (by decide +kernel) ?_
        refine b_istore_n (lv' := [(0, _), (1, _), (2, _), (3, _)]) dX11_hear_26 rfl (by decide) rfl rfl ?_
        refine b_iload_n dX11_hear_27 rfl rfl ?_
        refine b_if_eq (tgt := 43) dX11_hear_28 (by decide) (fun h28 => ?_) (fun h28 => ?_)
        · refine b_aload_n dX11_hear_43 rfl rfl ?_
          refine b_getR (b := 71) lf_X11_51 rfl rfl dX11_hear_44 ?_
          refine b_iconst (v := 2) dX11_hear_47 (by decide +kernel) ?_
          refine b_dup2 dX11_hear_48 rfl rfl ?_
          refine b_ildN (j := 2) dX11_hear_49 (rfl) (by show _ < 3; omega) ?_
          refine b_iconst (v := 1) dX11_hear_50 (by decide +kernel) ?_
          refine b_iadd dX11_hear_51 ?_
          refine b_istN (j := 2) dX11_hear_52 (rfl) (by show _ < 3; omega) ?_
          refine b_iconst (v := (-1)) dX11_hear_53 (by decide +kernel) ?_
          refine b_iret rfl (by decide) dX11_hear_54 ?_
          rw [heaM_n hz] at hq
          exact hq _ hC.ref2 (fun y _ y2 => up2_f _ _ _ _ (by unfold lvC at y2; omega))
        · exact absurd rfl h28
      · refine b_iload_n dX11_hear_15 rfl rfl ?_
        refine b_bipush (v := 13) dX11_hear_16 (by decide +kernel) ?_
        refine b_icmp_ge (tgt := 25) dX11_hear_18 (by decide) (fun h18 => ?_) (fun h18 => ?_)
        · have hz : ¬ (inB p.toInt 0 399 = true ∧ inB s.toInt 0 12 = true ∧ f_nh F < 8) := fun q => by rw [in_gt (x := s) (m := 12) (b := 12) rfl (ge_nle (n := 12) (by decide) (by decide) h18)] at q; simp at q
          refine b_iconst (v := 0) dX11_hear_25 (by decide +kernel) ?_
          refine b_istore_n (lv' := [(0, _), (1, _), (2, _), (3, _)]) dX11_hear_26 rfl (by decide) rfl rfl ?_
          refine b_iload_n dX11_hear_27 rfl rfl ?_
          refine b_if_eq (tgt := 43) dX11_hear_28 (by decide) (fun h28 => ?_) (fun h28 => ?_)
          · refine b_aload_n dX11_hear_43 rfl rfl ?_
            refine b_getR (b := 71) lf_X11_51 rfl rfl dX11_hear_44 ?_
            refine b_iconst (v := 2) dX11_hear_47 (by decide +kernel) ?_
            refine b_dup2 dX11_hear_48 rfl rfl ?_
            refine b_ildN (j := 2) dX11_hear_49 (rfl) (by show _ < 3; omega) ?_
            refine b_iconst (v := 1) dX11_hear_50 (by decide +kernel) ?_
            refine b_iadd dX11_hear_51 ?_
            refine b_istN (j := 2) dX11_hear_52 (rfl) (by show _ < 3; omega) ?_
            refine b_iconst (v := (-1)) dX11_hear_53 (by decide +kernel) ?_
            refine b_iret rfl (by decide) dX11_hear_54 ?_
            rw [heaM_n hz] at hq
            exact hq _ hC.ref2 (fun y _ y2 => up2_f _ _ _ _ (by unfold lvC at y2; omega))
          · exact absurd rfl h28
        · refine b_iconst (v := 1) dX11_hear_21 (by decide +kernel) ?_
          refine b_goto (tgt := 26) dX11_hear_22 (by decide) ?_
          refine b_istore_n (lv' := [(0, _), (1, _), (2, _), (3, _)]) dX11_hear_26 rfl (by decide) rfl rfl ?_
          refine b_iload_n dX11_hear_27 rfl rfl ?_
          refine b_if_eq (tgt := 43) dX11_hear_28 (by decide) (fun h28 => ?_) (fun h28 => ?_)
          · exact absurd h28 (by decide)
          · refine b_aload_n dX11_hear_31 rfl rfl ?_
            refine b_getR (b := 65) lf_X11_47 rfl rfl dX11_hear_32 ?_
            refine b_getI lf_X11_116 (heard_c is_heard65) dX11_hear_35 ?_
            refine b_topE (y := nI (f_nh F)) (hC.2.2.1.1) ?_
            refine b_bipush (v := 8) dX11_hear_38 (by decide +kernel) ?_
            refine b_icmp_lt (tgt := 55) dX11_hear_40 (by decide) (fun h40 => ?_) (fun h40 => ?_)
            · have e40 : (f_nh F) < 8 := nn_lt (a := (f_nh F)) (b := 8) (by omega) (by omega) h40
              have hz : inB p.toInt 0 399 = true ∧ inB s.toInt 0 12 = true ∧ f_nh F < 8 := ⟨in_ok (m := 399) rfl h1 (lt_le (n := 399) (by decide) (by decide) (Int32.not_le.mp h8)), in_ok (m := 12) rfl h12 (lt_le (n := 12) (by decide) (by decide) (Int32.not_le.mp h18)), e40⟩
              refine b_aload_n dX11_hear_55 rfl rfl ?_
              refine b_getR (b := 65) lf_X11_47 rfl rfl dX11_hear_56 ?_
              refine b_iload_n dX11_hear_59 rfl rfl ?_
              refine b_iload_n dX11_hear_60 rfl rfl ?_
              refine b_callV (As := [_, _]) (st := []) dX11_hear_61 lk_X11_336 lm_X3_add lv_X3_add (heard_c is_heard65) (by decide) rfl rfl rfl (Nat.le_of_ble_eq_true rfl) (Nat.le_refl _) (by decide) ?_
              refine c_X3_add is_heard65 hC.2.2.1.1 hz.2.2 (fun h aF a1 a2 b1 b2 d1 d2 => ?_)
              have hF : ∀ y, y ≠ 65 → y ≠ 66 → y ≠ 67 → h y = g y := fun y y1 y2 y3 => aF y (by simp; omega)
              refine b_aload_n dX11_hear_64 rfl rfl ?_
              refine b_getR (b := 65) lf_X11_47 rfl rfl dX11_hear_65 ?_
              refine b_getI lf_X11_116 (heard_c is_heard65) dX11_hear_68 ?_
              refine b_topE (y := nI ((f_nh F + 1))) (a2) ?_
              refine b_iret rfl (by decide) dX11_hear_71 ?_
              rw [heaM_y hz] at hq
              refine hq h ⟨hC.1.cg (fun k hk => hF _ (by omega) (by omega) (by omega)), RCa.cg hC.2.1 (hF _ (by decide) (by decide) (by decide)) (hF _ (by decide) (by decide) (by decide)), ⟨a2, fun i hi => ?_, fun i hi => ?_⟩, fun i hi => ?_⟩ (fun y _ y2 => hF y (by unfold lvC at y2; omega) (by unfold lvC at y2; omega) (by unfold lvC at y2; omega))
              · have hi : i < f_nh F + 1 := hi
                rw [addH_0]
                by_cases e : i = f_nh F
                · rw [if_pos e, e]; exact b2
                · rw [if_neg e, b1 i e]; exact hC.2.2.1.2.1 i (by omega)
              · have hi : i < f_nh F + 1 := hi
                rw [addH_1]
                by_cases e : i = f_nh F
                · rw [if_pos e, e]; exact d2
                · rw [if_neg e, d1 i e]; exact hC.2.2.1.2.2 i (by omega)
              · rw [addH_2, hF 71 (by decide) (by decide) (by decide)]; exact hC.2.2.2 i hi
            · have e40 : 8 ≤ (f_nh F) := nn_nlt (a := (f_nh F)) (b := 8) (by omega) (by omega) h40
              have hz : ¬ (inB p.toInt 0 399 = true ∧ inB s.toInt 0 12 = true ∧ f_nh F < 8) := fun q => absurd q.2.2 (by omega)
              refine b_aload_n dX11_hear_43 rfl rfl ?_
              refine b_getR (b := 71) lf_X11_51 rfl rfl dX11_hear_44 ?_
              refine b_iconst (v := 2) dX11_hear_47 (by decide +kernel) ?_
              refine b_dup2 dX11_hear_48 rfl rfl ?_
              refine b_ildN (j := 2) dX11_hear_49 (rfl) (by show _ < 3; omega) ?_
              refine b_iconst (v := 1) dX11_hear_50 (by decide +kernel) ?_
              refine b_iadd dX11_hear_51 ?_
              refine b_istN (j := 2) dX11_hear_52 (rfl) (by show _ < 3; omega) ?_
              refine b_iconst (v := (-1)) dX11_hear_53 (by decide +kernel) ?_
              refine b_iret rfl (by decide) dX11_hear_54 ?_
              rw [heaM_n hz] at hq
              exact hq _ hC.ref2 (fun y _ y2 => up2_f _ _ _ _ (by unfold lvC at y2; omega))
theorem c_X12_hear {E : En} {d : Nat} {Q : QT} {X : XT} {g : G2} {T : TD} {F : FS} (hT : RMt g T) (hM : RMf g T F) (oF : okF T F) {p s : Int32} (hq : ∀ h, RMf h T (heaM F p s).2.2 → FN g h → h 84 2 = nI (heaM F p s).1 → Q (some (.int (heaM F p s).2.1)) h) : M E md_X12_hear (d + 1) [.ref 84, .int p, .int s] g Q X := by
  refine M.of _ rfl rfl (Nat.le_of_ble_eq_true rfl) ?_
  refine b_aload_n dX12_hear_0 rfl rfl ?_
  refine b_iconst (v := 0) dX12_hear_1 (by decide +kernel) ?_
  refine b_putI lf_X12_165 lp_12_2 rfl dX12_hear_2 ?_
  have B1 : FB g (up2 g 84 2 0) := (FD.code 0).fb
  have c1 : up2 g 84 2 0 84 2 = 0 := up2_s _ _ _ _
  have hM := hM.code (x := 0)
  have hT := hT.code (x := 0)
  generalize up2 g 84 2 0 = g1 at B1 c1 hM hT ⊢
  have h8 := hT.le
  have hn8 := oF.2.1
  refine b_aload_n dX12_hear_5 rfl rfl ?_
  refine b_getI lf_X12_341 rfl dX12_hear_6 ?_
  refine b_topE (y := nI (f_nh F)) (hM.2.2.2.1) ?_
  refine b_bipush (v := 8) dX12_hear_9 (by decide +kernel) ?_
  refine b_icmp_eq (tgt := 38) dX12_hear_11 (by decide) (fun h11 => ?_) (fun h11 => ?_)
  · have e11 : (f_nh F) = 8 := nI_inj (a := (f_nh F)) (b := 8) (by omega) (by omega) h11
    have hz : ¬ (inB p.toInt 0 399 = true ∧ inB s.toInt 0 12 = true ∧ f_nh F < 8) := fun q => absurd q.2.2 (by omega)
    refine b_aload_n dX12_hear_38 rfl rfl ?_
    refine b_iconst (v := 2) dX12_hear_39 (by decide +kernel) ?_
    refine b_callV (As := [_]) (st := []) dX12_hear_40 lk_X12_393 lm_X12_refuse lv_X12_refuse rfl (by decide) rfl rfl rfl (Nat.le_of_ble_eq_true rfl) (Nat.le_refl _) (by decide) ?_
    refine c_X12_refuse (p := 2) (by decide) ?_
    refine b_iret rfl (by decide) dX12_hear_43 ?_
    rw [heaM_n hz] at hq
    exact hq _ (hM.ref (by decide)) (B1.tr (FB.st 2 _)).fn (by rw [up2_a _ _ _ _ (by decide)]; exact c1)
  · have e11 : (f_nh F) ≠ 8 := fun q => h11 (congrArg nI q)
    refine b_iload_n dX12_hear_14 rfl rfl ?_
    refine b_i2l dX12_hear_15 rfl ?_
    refine b_lconst (v := 0) dX12_hear_16 (by decide +kernel) ?_
    refine b_ldc2 lx_X12_465 dX12_hear_17 ?_
    refine b_callS (As := [_, _, _]) (st := []) dX12_hear_20 lk_X12_168 lm_X12_isIn ls_X12_isIn rfl rfl (Nat.le_of_ble_eq_true rfl) (Nat.le_refl _) (by decide) ?_
    refine c_X12_isIn ?_
    rw [in_64b (a' := 0) (b' := 399) (by decide) (by decide)]
    refine b_if_eq (tgt := 38) dX12_hear_23 (by decide) (fun h23 => ?_) (fun h23 => ?_)
    · have e23 := b2i_0 h23
      have hz : ¬ (inB p.toInt 0 399 = true ∧ inB s.toInt 0 12 = true ∧ f_nh F < 8) := fun q => by rw [e23] at q; simp at q
      refine b_aload_n dX12_hear_38 rfl rfl ?_
      refine b_iconst (v := 2) dX12_hear_39 (by decide +kernel) ?_
      refine b_callV (As := [_]) (st := []) dX12_hear_40 lk_X12_393 lm_X12_refuse lv_X12_refuse rfl (by decide) rfl rfl rfl (Nat.le_of_ble_eq_true rfl) (Nat.le_refl _) (by decide) ?_
      refine c_X12_refuse (p := 2) (by decide) ?_
      refine b_iret rfl (by decide) dX12_hear_43 ?_
      rw [heaM_n hz] at hq
      exact hq _ (hM.ref (by decide)) (B1.tr (FB.st 2 _)).fn (by rw [up2_a _ _ _ _ (by decide)]; exact c1)
    · have e23 := b2i_1 h23
      refine b_iload_n dX12_hear_26 rfl rfl ?_
      refine b_i2l dX12_hear_27 rfl ?_
      refine b_lconst (v := 0) dX12_hear_28 (by decide +kernel) ?_
      refine b_ldc2 lx_X12_475 dX12_hear_29 ?_
      refine b_callS (As := [_, _, _]) (st := []) dX12_hear_32 lk_X12_168 lm_X12_isIn ls_X12_isIn rfl rfl (Nat.le_of_ble_eq_true rfl) (Nat.le_refl _) (by decide) ?_
      refine c_X12_isIn ?_
      rw [in_64b (a' := 0) (b' := 12) (by decide) (by decide)]
      refine b_if_ne (tgt := 44) dX12_hear_35 (by decide) (fun h35 => ?_) (fun h35 => ?_)
      · have e35 := b2i_1 h35
        have hz : inB p.toInt 0 399 = true ∧ inB s.toInt 0 12 = true ∧ f_nh F < 8 := ⟨e23, e35, by omega⟩
        refine b_aload_n dX12_hear_44 rfl rfl ?_
        refine b_getR (b := 113) lf_X12_123 rfl rfl dX12_hear_45 ?_
        refine b_aload_n dX12_hear_48 rfl rfl ?_
        refine b_getI lf_X12_341 rfl dX12_hear_49 ?_
        refine b_topE (y := nI (f_nh F)) (hM.2.2.2.1) ?_
        refine b_iload_n dX12_hear_52 rfl rfl ?_
        refine b_istN (j := f_nh F) dX12_hear_53 (rfl) (by show _ < 8; omega) ?_
        refine b_aload_n dX12_hear_54 rfl rfl ?_
        refine b_getR (b := 114) lf_X12_126 rfl rfl dX12_hear_55 ?_
        refine b_aload_n dX12_hear_58 rfl rfl ?_
        refine b_getI lf_X12_341 rfl dX12_hear_59 ?_
        refine b_topE (y := nI (f_nh F)) (by rw [up2_a _ _ _ _ (by decide)]; exact hM.2.2.2.1) ?_
        refine b_iload_n dX12_hear_62 rfl rfl ?_
        refine b_istN (j := f_nh F) dX12_hear_63 (rfl) (by show _ < 8; omega) ?_
        refine b_aload_n dX12_hear_64 rfl rfl ?_
        refine b_dup dX12_hear_65 rfl ?_
        refine b_getI lf_X12_341 rfl dX12_hear_66 ?_
        refine b_topE (y := nI (f_nh F)) (by rw [up2_a _ _ _ _ (by decide), up2_a _ _ _ _ (by decide)]; exact hM.2.2.2.1) ?_
        refine b_iconst (v := 1) dX12_hear_69 (by decide +kernel) ?_
        refine b_iadd dX12_hear_70 ?_
        refine b_topE (nI_add (f_nh F) 1) ?_
        refine b_putI lf_X12_341 lp_12_38 rfl dX12_hear_71 ?_
        refine b_aload_n dX12_hear_74 rfl rfl ?_
        refine b_getI lf_X12_341 rfl dX12_hear_75 ?_
        refine b_topE (y := nI ((f_nh F + 1))) (up2_s _ _ _ _) ?_
        refine b_iret rfl (by decide) dX12_hear_78 ?_
        rw [heaM_y hz] at hq
        have hz3 : ∀ y, y ≠ 84 → y ≠ 113 → y ≠ 114 → (up2 (up2 (up2 g1 113 (f_nh F) p) 114 (f_nh F) s) 84 38 (nI (f_nh F + 1))) y = g1 y := fun y y1 y2 y3 => by rw [up2_f _ _ _ _ y1, up2_f _ _ _ _ y3, up2_f _ _ _ _ y2]
        have h84 : ∀ j, j ≠ 38 → (up2 (up2 (up2 g1 113 (f_nh F) p) 114 (f_nh F) s) 84 38 (nI (f_nh F + 1))) 84 j = g1 84 j := fun j j1 => by rw [up2_k _ _ _ _ j1, up2_a _ _ _ _ (by decide), up2_a _ _ _ _ (by decide)]
        refine hq _ ⟨hM.1.cg (fun j j1 j2 => h84 j (by omega)) (fun z z1 z2 z3 => hz3 z (by omega) (by omega) (by omega)), by rw [h84 37 (by decide)]; exact hM.2.1, RMa.cg hM.2.2.1 (hz3 _ (by decide) (by decide) (by decide)), up2_s _ _ _ _, ⟨fun i hi => ?_, fun i hi => ?_⟩, fun i hi => ?_⟩ (B1.fn.tr ⟨fun y hy => ?_, fun j hj => h84 j (by omega)⟩) (by rw [h84 2 (by decide)]; exact c1)
        · have hi : i < f_nh F + 1 := hi
          rw [addH_0, up2_a _ _ _ _ (by decide), up2_a _ _ _ _ (by decide), up2_if]
          by_cases e : i = f_nh F
          · rw [if_pos e, if_pos e]
          · rw [if_neg e, if_neg e]; exact hM.2.2.2.2.1.1 i (by omega)
        · have hi : i < f_nh F + 1 := hi
          rw [addH_1, up2_a _ _ _ _ (by decide), up2_if, up2_a _ _ _ _ (by decide)]
          by_cases e : i = f_nh F
          · rw [if_pos e, if_pos e]
          · rw [if_neg e, if_neg e]; exact hM.2.2.2.2.1.2 i (by omega)
        · rw [addH_2, hz3 96 (by decide) (by decide) (by decide)]; exact hM.2.2.2.2.2 i hi
        · exact hz3 y (by omega) (by omega) (by omega)
      · have e35 := b2i_0 h35
        have hz : ¬ (inB p.toInt 0 399 = true ∧ inB s.toInt 0 12 = true ∧ f_nh F < 8) := fun q => by rw [e35] at q; simp at q
        refine b_aload_n dX12_hear_38 rfl rfl ?_
        refine b_iconst (v := 2) dX12_hear_39 (by decide +kernel) ?_
        refine b_callV (As := [_]) (st := []) dX12_hear_40 lk_X12_393 lm_X12_refuse lv_X12_refuse rfl (by decide) rfl rfl rfl (Nat.le_of_ble_eq_true rfl) (Nat.le_refl _) (by decide) ?_
        refine c_X12_refuse (p := 2) (by decide) ?_
        refine b_iret rfl (by decide) dX12_hear_43 ?_
        rw [heaM_n hz] at hq
        exact hq _ (hM.ref (by decide)) (B1.tr (FB.st 2 _)).fn (by rw [up2_a _ _ _ _ (by decide)]; exact c1)
