/-- behind a fault a reader does nothing -/
def MB0 (f : Nat → Nat) (n : Nat) (md : MD) (D ar : Nat) : Prop := ∀ (E : En) (Q : QT) (X : XT) (g : G2) (s : MS), RMs g f n s → s.bad ≠ 0 → (∀ h, FP g h → RMs h f n s → Q none h) → M E md D [.ref 84, .int (nI ar)] g Q X
theorem n_X12_readPart {f : Nat → Nat} {n d ar : Nat} : MB0 f n md_X12_readPart (d + 7) ar := by
  intro E Q X g s hR hbd hq
  refine M.of _ rfl rfl (Nat.le_of_ble_eq_true rfl) ?_
  have hpaf := hR.2.2.1.pa
  have hn := hR.1.2.1
  have hok := hR.2.2.1.ok
  have hkl := tkM_le s.t.k
  have hb5 := hR.2.2.2.2.1
  have hp1 := hok.1
  have hp2 := hok.2.1
  refine b_aload_n dX12_readPart_0 rfl rfl ?_
  refine b_getI lf_X12_214 rfl dX12_readPart_1 ?_
  refine b_topE (hR.2.2.2.1) ?_
  refine b_if_eq (tgt := 8) dX12_readPart_4 (by decide) (fun h4 => ?_) (fun h4 => ?_)
  · have e4 : s.bad = 0 := nI_inj (b := 0) (by omega) (by decide) h4
    exact absurd e4 hbd
  · have e4 : s.bad ≠ 0 := fun q => h4 (by rw [q]; rfl)
    refine b_vret rfl (by decide) dX12_readPart_7 ?_
    exact hq g (FP.rf g) hR
theorem n_X12_readProduct {f : Nat → Nat} {n d ar : Nat} (hB : MB0 f n md_X12_readPart (d + 6) ar) : MB0 f n md_X12_readProduct (d + 7) ar := by
  intro E Q X g s hR hbd hq
  refine M.of _ rfl rfl (Nat.le_of_ble_eq_true rfl) ?_
  refine b_aload_n dX12_readProduct_0 rfl rfl ?_
  refine b_iload_n dX12_readProduct_1 rfl rfl ?_
  refine b_callV (As := [_]) (st := []) dX12_readProduct_2 lk_X12_261 lm_X12_readPart lv_X12_readPart rfl (by decide) rfl rfl rfl (Nat.le_of_ble_eq_true rfl) (Nat.le_refl _) (by decide) ?_
  refine hB _ _ _ _ _ hR hbd (fun h1 F1 R => ?_)
  refine b_aload_n dX12_readProduct_5 rfl rfl ?_
  refine b_bipush (v := 42) dX12_readProduct_6 (by decide +kernel) ?_
  refine b_callV (As := [_]) (st := []) dX12_readProduct_8 lk_X12_232 lm_X12_isMarked lv_X12_isMarked rfl (by decide) rfl rfl rfl (Nat.le_of_ble_eq_true rfl) (Nat.le_refl _) (by decide) ?_
  refine c_X12_isMarked R (k := 42) (by decide) ?_
  refine b_if_ne (tgt := 23) dX12_readProduct_11 (by decide) (fun h11 => ?_) (fun h11 => ?_)
  · have e11 := b2i_1 h11
    rw [decide_eq_false hbd] at e11; cases e11
  · have e11 := b2i_0 h11
    refine b_aload_n dX12_readProduct_14 rfl rfl ?_
    refine b_bipush (v := 47) dX12_readProduct_15 (by decide +kernel) ?_
    refine b_callV (As := [_]) (st := []) dX12_readProduct_17 lk_X12_232 lm_X12_isMarked lv_X12_isMarked rfl (by decide) rfl rfl rfl (Nat.le_of_ble_eq_true rfl) (Nat.le_refl _) (by decide) ?_
    refine c_X12_isMarked R (k := 47) (by decide) ?_
    refine b_if_eq (tgt := 57) dX12_readProduct_20 (by decide) (fun h20 => ?_) (fun h20 => ?_)
    · have e20 := b2i_0 h20
      refine b_vret rfl (by decide) dX12_readProduct_57 ?_
      exact hq h1 F1 R
    · have e20 := b2i_1 h20
      rw [decide_eq_false hbd] at e20; cases e20
theorem n_X12_readSum {f : Nat → Nat} {n d ar : Nat} (hB : MB0 f n md_X12_readProduct (d + 6) ar) : MB0 f n md_X12_readSum (d + 7) ar := by
  intro E Q X g s hR hbd hq
  refine M.of _ rfl rfl (Nat.le_of_ble_eq_true rfl) ?_
  refine b_aload_n dX12_readSum_0 rfl rfl ?_
  refine b_iload_n dX12_readSum_1 rfl rfl ?_
  refine b_callV (As := [_]) (st := []) dX12_readSum_2 lk_X12_264 lm_X12_readProduct lv_X12_readProduct rfl (by decide) rfl rfl rfl (Nat.le_of_ble_eq_true rfl) (Nat.le_refl _) (by decide) ?_
  refine hB _ _ _ _ _ hR hbd (fun h1 F1 R => ?_)
  refine b_aload_n dX12_readSum_5 rfl rfl ?_
  refine b_bipush (v := 43) dX12_readSum_6 (by decide +kernel) ?_
  refine b_callV (As := [_]) (st := []) dX12_readSum_8 lk_X12_232 lm_X12_isMarked lv_X12_isMarked rfl (by decide) rfl rfl rfl (Nat.le_of_ble_eq_true rfl) (Nat.le_refl _) (by decide) ?_
  refine c_X12_isMarked R (k := 43) (by decide) ?_
  refine b_if_ne (tgt := 23) dX12_readSum_11 (by decide) (fun h11 => ?_) (fun h11 => ?_)
  · have e11 := b2i_1 h11
    rw [decide_eq_false hbd] at e11; cases e11
  · have e11 := b2i_0 h11
    refine b_aload_n dX12_readSum_14 rfl rfl ?_
    refine b_bipush (v := 45) dX12_readSum_15 (by decide +kernel) ?_
    refine b_callV (As := [_]) (st := []) dX12_readSum_17 lk_X12_232 lm_X12_isMarked lv_X12_isMarked rfl (by decide) rfl rfl rfl (Nat.le_of_ble_eq_true rfl) (Nat.le_refl _) (by decide) ?_
    refine c_X12_isMarked R (k := 45) (by decide) ?_
    refine b_if_eq (tgt := 57) dX12_readSum_20 (by decide) (fun h20 => ?_) (fun h20 => ?_)
    · have e20 := b2i_0 h20
      refine b_vret rfl (by decide) dX12_readSum_57 ?_
      exact hq h1 F1 R
    · have e20 := b2i_1 h20
      rw [decide_eq_false hbd] at e20; cases e20
theorem n_X12_readNot {f : Nat → Nat} {n d ar : Nat} (har : ar < 100) (hB : MB0 f n md_X12_readSum (d + 6) ar) : MB0 f n md_X12_readNot (d + 7) ar := by
  intro E Q X g s hR hbd hq
  refine M.of _ rfl rfl (Nat.le_of_ble_eq_true rfl) ?_
  refine b_iconst (v := 0) dX12_readNot_0 (by decide +kernel) ?_
  refine b_istore_n (lv' := [(0, _), (1, _), (2, _)]) dX12_readNot_1 rfl (by decide) rfl rfl ?_
  refine b_aload_n dX12_readNot_2 rfl rfl ?_
  refine b_ldcSW (tx := "not") (n := 43) (by decide +kernel) dX12_readNot_3 ?_
  refine b_callV (As := [_]) (st := []) dX12_readNot_6 lk_X12_228 lm_X12_is lv_X12_is rfl (by decide) rfl rfl rfl (Nat.le_of_ble_eq_true rfl) (Nat.le_refl _) (by decide) ?_
  refine c_X12_is (d := d + 2) hR (q := (43, 3, [110, 111, 116])) (w := [110, 111, 116]) (k := 109) (by decide +kernel) ⟨rfl, rfl, by decide, by decide⟩ (by decide +kernel) ?_
  refine b_if_eq (tgt := 40) dX12_readNot_9 (by decide) (fun h9 => ?_) (fun h9 => ?_)
  · have e9 := b2i_0 h9
    refine b_aload_n dX12_readNot_40 rfl rfl ?_
    refine b_iload_n dX12_readNot_41 rfl rfl ?_
    refine b_callV (As := [_]) (st := []) dX12_readNot_42 lk_X12_269 lm_X12_readSum lv_X12_readSum rfl (by decide) rfl rfl rfl (Nat.le_of_ble_eq_true rfl) (Nat.le_refl _) (by decide) ?_
    refine hB _ _ _ _ _ hR hbd (fun h1 F1 R => ?_)
    refine b_aload_n dX12_readNot_45 rfl rfl ?_
    refine b_bipush (v := 60) dX12_readNot_46 (by decide +kernel) ?_
    refine b_callV (As := [_]) (st := []) dX12_readNot_48 lk_X12_232 lm_X12_isMarked lv_X12_isMarked rfl (by decide) rfl rfl rfl (Nat.le_of_ble_eq_true rfl) (Nat.le_refl _) (by decide) ?_
    refine c_X12_isMarked R (k := 60) (by decide) ?_
    refine b_if_ne (tgt := 63) dX12_readNot_51 (by decide) (fun h51 => ?_) (fun h51 => ?_)
    · have e51 := b2i_1 h51
      rw [decide_eq_false hbd] at e51; cases e51
    · have e51 := b2i_0 h51
      refine b_aload_n dX12_readNot_54 rfl rfl ?_
      refine b_bipush (v := 61) dX12_readNot_55 (by decide +kernel) ?_
      refine b_callV (As := [_]) (st := []) dX12_readNot_57 lk_X12_232 lm_X12_isMarked lv_X12_isMarked rfl (by decide) rfl rfl rfl (Nat.le_of_ble_eq_true rfl) (Nat.le_refl _) (by decide) ?_
      refine c_X12_isMarked R (k := 61) (by decide) ?_
      refine b_if_eq (tgt := 94) dX12_readNot_60 (by decide) (fun h60 => ?_) (fun h60 => ?_)
      · have e60 := b2i_0 h60
        refine b_iconst (v := 0) dX12_readNot_94 (by decide +kernel) ?_
        refine b_istore_n (lv' := [(0, _), (1, _), (2, _), (3, _)]) dX12_readNot_95 rfl (by decide) rfl rfl ?_
        exact c_X12_notL (by decide) hq 0 (Nat.le_refl _) h1 s F1 R (fun q => absurd q hbd) rfl
      · have e60 := b2i_1 h60
        rw [decide_eq_false hbd] at e60; cases e60
  · have e9 := b2i_1 h9
    exact absurd (of_decide_eq_true e9).1 hbd
theorem n_X12_readAnd {f : Nat → Nat} {n d ar : Nat} (hB : MB0 f n md_X12_readNot (d + 6) ar) : MB0 f n md_X12_readAnd (d + 7) ar := by
  intro E Q X g s hR hbd hq
  refine M.of _ rfl rfl (Nat.le_of_ble_eq_true rfl) ?_
  refine b_aload_n dX12_readAnd_0 rfl rfl ?_
  refine b_iload_n dX12_readAnd_1 rfl rfl ?_
  refine b_callV (As := [_]) (st := []) dX12_readAnd_2 lk_X12_272 lm_X12_readNot lv_X12_readNot rfl (by decide) rfl rfl rfl (Nat.le_of_ble_eq_true rfl) (Nat.le_refl _) (by decide) ?_
  refine hB _ _ _ _ _ hR hbd (fun h1 F1 R => ?_)
  refine b_aload_n dX12_readAnd_5 rfl rfl ?_
  refine b_ldcSW (tx := "and") (n := 44) (by decide +kernel) dX12_readAnd_6 ?_
  refine b_callV (As := [_]) (st := []) dX12_readAnd_9 lk_X12_228 lm_X12_is lv_X12_is rfl (by decide) rfl rfl rfl (Nat.le_of_ble_eq_true rfl) (Nat.le_refl _) (by decide) ?_
  refine c_X12_is (d := d + 2) R (q := (44, 3, [97, 110, 100])) (w := [97, 110, 100]) (k := 108) (by decide +kernel) ⟨rfl, rfl, by decide, by decide⟩ (by decide +kernel) ?_
  refine b_if_eq (tgt := 33) dX12_readAnd_12 (by decide) (fun h12 => ?_) (fun h12 => ?_)
  · have e12 := b2i_0 h12
    refine b_vret rfl (by decide) dX12_readAnd_33 ?_
    exact hq h1 F1 R
  · have e12 := b2i_1 h12
    exact absurd (of_decide_eq_true e12).1 hbd
theorem c_X12_readExpr0 {f : Nat → Nat} {n d : Nat} (hB : MB0 f n md_X12_readAnd (d + 6) 6) : MBd f n md_X12_readExpression (d + 7) 6 (rE f n 0) := by
  intro E Q X g s hR hlen hq
  refine M.of _ rfl rfl (Nat.le_of_ble_eq_true rfl) ?_
  have hpaf := hR.2.2.1.pa
  have hn := hR.1.2.1
  have hok := hR.2.2.1.ok
  have hkl := tkM_le s.t.k
  have hb5 := hR.2.2.2.2.1
  have hp1 := hok.1
  have hp2 := hok.2.1
  have C62 : ∀ (x2 : Int32) (h1 : G2), FP g h1 → ∀ s1 : MS, RMs h1 f n s1 → s1.bad ≠ 0 → rE f n 0 s = s1 → B E md_X12_readExpression (d + 7) Q X 62 [(0, .ref 84), (1, .int (nI 6)), (2, .int x2)] [] h1 0 := by
    intro x2 h1 F1 s1 R1 hbd hx
    refine b_aload_n dX12_readExpression_62 rfl rfl ?_
    refine b_iload_n dX12_readExpression_63 rfl rfl ?_
    refine b_callV (As := [_]) (st := []) dX12_readExpression_64 lk_X12_277 lm_X12_readAnd lv_X12_readAnd rfl (by decide) rfl rfl rfl (Nat.le_of_ble_eq_true rfl) (Nat.le_refl _) (by decide) ?_
    refine hB _ _ _ _ _ R1 hbd (fun h2 F2 R => ?_)
    refine b_aload_n dX12_readExpression_67 rfl rfl ?_
    refine b_ldcSW (tx := "or") (n := 45) (by decide +kernel) dX12_readExpression_68 ?_
    refine b_callV (As := [_]) (st := []) dX12_readExpression_71 lk_X12_228 lm_X12_is lv_X12_is rfl (by decide) rfl rfl rfl (Nat.le_of_ble_eq_true rfl) (Nat.le_refl _) (by decide) ?_
    refine c_X12_is (d := d + 2) R (q := (45, 2, [111, 114])) (w := [111, 114]) (k := 107) (by decide +kernel) ⟨rfl, rfl, by decide, by decide⟩ (by decide +kernel) ?_
    refine b_if_eq (tgt := 95) dX12_readExpression_74 (by decide) (fun h74 => ?_) (fun h74 => ?_)
    · have e74 := b2i_0 h74
      refine b_vret rfl (by decide) dX12_readExpression_95 ?_
      exact hq h2 (F1.tr F2) (by rw [hx]; exact R)
    · have e74 := b2i_1 h74
      exact absurd (of_decide_eq_true e74).1 hbd
  have C38 : s.bad = 0 → ∀ b : Bool, (b = true ↔ (s.t.k = 2 ∨ 99 ≤ s.t.k ∨ s.t.k = 40)) → B E md_X12_readExpression (d + 7) Q X 38 [(0, .ref 84), (1, .int (nI 6))] [.int (b2i b)] g 0 := by
    intro e4 b hb
    refine b_istore_n (lv' := [(0, _), (1, _), (2, _)]) dX12_readExpression_38 rfl (by decide) rfl rfl ?_
    refine b_iload_n dX12_readExpression_39 rfl rfl ?_
    refine b_if_ne (tgt := 51) dX12_readExpression_40 (by decide) (fun h40 => ?_) (fun h40 => ?_)
    · have e40 := b2i_1 h40
      have hyes := hb.mp e40
      refine b_iload_n dX12_readExpression_51 rfl rfl ?_
      refine b_bipush (v := 6) dX12_readExpression_52 (by decide +kernel) ?_
      refine b_icmp_ne (tgt := 62) dX12_readExpression_54 (by decide) (fun h54 => ?_) (fun h54 => ?_)
      · exact absurd rfl h54
      · refine b_aload_n dX12_readExpression_57 rfl rfl ?_
        refine b_iconst (v := 2) dX12_readExpression_58 (by decide +kernel) ?_
        refine b_callV (As := [_]) (st := []) dX12_readExpression_59 lk_X12_235 lm_X12_wrong lv_X12_wrong rfl (by decide) rfl rfl rfl (Nat.le_of_ble_eq_true rfl) (Nat.le_refl _) (by decide) ?_
        refine c_X12_wrong (k := 2) hR (by decide) (fun h1 F1 R1 => ?_)
        exact C62 _ h1 F1 _ R1 (by rw [wr_ok e4]; exact Nat.succ_ne_zero 1) (by simp only [rE]; rw [if_pos e4, if_pos hyes])
    · have e40 := b2i_0 h40
      refine b_aload_n dX12_readExpression_43 rfl rfl ?_
      refine b_iconst (v := 1) dX12_readExpression_44 (by decide +kernel) ?_
      refine b_callV (As := [_]) (st := []) dX12_readExpression_45 lk_X12_235 lm_X12_wrong lv_X12_wrong rfl (by decide) rfl rfl rfl (Nat.le_of_ble_eq_true rfl) (Nat.le_refl _) (by decide) ?_
      refine c_X12_wrong (k := 1) hR (by decide) (fun h1 F1 R1 => ?_)
      refine b_goto (tgt := 62) dX12_readExpression_48 (by decide) ?_
      exact C62 _ h1 F1 _ R1 (by rw [wr_ok e4]; exact Nat.one_ne_zero) (by simp only [rE]; rw [if_pos e4, if_neg (fun q => by rw [hb.mpr q] at e40; cases e40)])
  refine b_aload_n dX12_readExpression_0 rfl rfl ?_
  refine b_getI lf_X12_214 rfl dX12_readExpression_1 ?_
  refine b_topE (hR.2.2.2.1) ?_
  refine b_if_eq (tgt := 8) dX12_readExpression_4 (by decide) (fun h4 => ?_) (fun h4 => ?_)
  · have e4 : s.bad = 0 := nI_inj (b := 0) (by omega) (by decide) h4
    refine b_aload_n dX12_readExpression_8 rfl rfl ?_
    refine b_getI lf_X12_188 rfl dX12_readExpression_9 ?_
    refine b_topE (hR.2.1.2.2.2.1) ?_
    refine b_iconst (v := 2) dX12_readExpression_12 (by decide +kernel) ?_
    refine b_icmp_eq (tgt := 33) dX12_readExpression_13 (by decide) (fun h13 => ?_) (fun h13 => ?_)
    · have e13 : (tkM s.t.k) = 2 := nI_inj (a := (tkM s.t.k)) (b := 2) (by omega) (by omega) h13
      refine b_iconst (v := 1) dX12_readExpression_33 (by decide +kernel) ?_
      refine b_goto (tgt := 38) dX12_readExpression_34 (by decide) ?_
      exact C38 e4 true ⟨fun _ => Or.inl ((tkM_2 hR.2.2.1).mp e13), fun _ => rfl⟩
    · have e13 : (tkM s.t.k) ≠ 2 := fun q => h13 (congrArg nI q)
      refine b_aload_n dX12_readExpression_16 rfl rfl ?_
      refine b_getI lf_X12_188 rfl dX12_readExpression_17 ?_
      refine b_topE (hR.2.1.2.2.2.1) ?_
      refine b_iconst (v := 1) dX12_readExpression_20 (by decide +kernel) ?_
      refine b_icmp_eq (tgt := 33) dX12_readExpression_21 (by decide) (fun h21 => ?_) (fun h21 => ?_)
      · have e21 : (tkM s.t.k) = 1 := nI_inj (a := (tkM s.t.k)) (b := 1) (by omega) (by omega) h21
        refine b_iconst (v := 1) dX12_readExpression_33 (by decide +kernel) ?_
        refine b_goto (tgt := 38) dX12_readExpression_34 (by decide) ?_
        exact C38 e4 true ⟨fun _ => Or.inr (Or.inl ((tkM_1 hR.2.2.1).mp e21)), fun _ => rfl⟩
      · have e21 : (tkM s.t.k) ≠ 1 := fun q => h21 (congrArg nI q)
        refine b_aload_n dX12_readExpression_24 rfl rfl ?_
        refine b_bipush (v := 40) dX12_readExpression_25 (by decide +kernel) ?_
        refine b_callV (As := [_]) (st := []) dX12_readExpression_27 lk_X12_232 lm_X12_isMarked lv_X12_isMarked rfl (by decide) rfl rfl rfl (Nat.le_of_ble_eq_true rfl) (Nat.le_refl _) (by decide) ?_
        refine c_X12_isMarked hR (k := 40) (by decide) ?_
        refine b_if_eq (tgt := 37) dX12_readExpression_30 (by decide) (fun h30 => ?_) (fun h30 => ?_)
        · have e30 := b2i_0 h30
          refine b_iconst (v := 0) dX12_readExpression_37 (by decide +kernel) ?_
          refine C38 e4 false ⟨(fun q => by cases q), fun q => ?_⟩
          rcases q with q | q | q
          · exact absurd ((tkM_2 hR.2.2.1).mpr q) e13
          · exact absurd ((tkM_1 hR.2.2.1).mpr q) e21
          · rw [decide_eq_true e4, decide_eq_true q] at e30; cases e30
        · have e30 := b2i_1 h30
          refine b_iconst (v := 1) dX12_readExpression_33 (by decide +kernel) ?_
          refine b_goto (tgt := 38) dX12_readExpression_34 (by decide) ?_
          simp only [Bool.and_eq_true, decide_eq_true_eq] at e30
          exact C38 e4 true ⟨fun _ => Or.inr (Or.inr e30.2), fun _ => rfl⟩
  · have e4 : s.bad ≠ 0 := fun q => h4 (by rw [q]; rfl)
    refine b_vret rfl (by decide) dX12_readExpression_7 ?_
    exact hq g (FP.rf g) (by rw [show rE f n 0 s = s from by simp only [rE]; rw [if_neg e4]]; exact hR)
/-- the model's readExpression is the descent's -/
theorem c_X12_rE {f : Nat → Nat} {n : Nat} : ∀ a d : Nat, a ≤ 6 → MBd f n md_X12_readExpression (d + 12 + 6 * a) (6 - a) (rE f n a)
  | 0, d, _ => c_X12_readExpr0 (d := d + 5) (n_X12_readAnd (d := d + 4) (n_X12_readNot (d := d + 3) (by decide) (n_X12_readSum (d := d + 2) (n_X12_readProduct (d := d + 1) (n_X12_readPart (d := d))))))
  | a + 1, d, ha => by
    have i1 := c_X12_rE (f := f) (n := n) a d (by omega)
    rw [show 6 - a = 6 - (a + 1) + 1 by omega, show d + 12 + 6 * a = (d + 6 + 6 * a) + 6 by omega] at i1
    have hA : 6 - (a + 1) < 100 := by omega
    have l7 := Len.part (f := f) (n := n) (rE_len a)
    have l6 := Len.lev (f := f) (n := n) P0_42 l7
    have l5 := Len.lev (f := f) (n := n) P0_43 l6
    have l3 := Len.not (f := f) (n := n) l5
    have l2 := Len.lev (f := f) (n := n) P0_108 l3
    have m7 := c_X12_readPart hA i1
    have m6 := c_X12_readProduct (d := d + 6 + 6 * a + 1) hA m7 l7
    have m5 := c_X12_readSum (d := d + 6 + 6 * a + 2) hA m6 l6
    have m3 := c_X12_readNot (d := d + 6 + 6 * a + 3) hA m5 l5
    have m2 := c_X12_readAnd (d := d + 6 + 6 * a + 4) hA m3 l3
    have m1 := c_X12_readExpression (d := d + 6 + 6 * a + 5) (fn := rE f n (a + 1)) hA m2 l2 (fun s h => by simp only [rE]; rw [if_neg h]) (fun s h h2 => by simp only [rE]; rw [if_pos h, if_neg h2]) (fun s h h2 h3 => absurd h3 (by omega)) (fun s h h2 h3 => by simp only [rE]; rw [if_pos h, if_pos h2])
    rw [show d + 12 + 6 * (a + 1) = d + 6 + 6 * a + 5 + 7 by omega]
    exact m1
