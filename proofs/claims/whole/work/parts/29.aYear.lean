/-- what a year of the model may change -/
def FM (g g2 : G2) : Prop := (∀ z, z ≠ 84 → z ≠ 104 → z ≠ 105 → z ≠ 106 → z ≠ 107 → z ≠ 108 → g2 z = g z) ∧ ∀ j, j ≠ 30 → j ≠ 32 → g2 84 j = g 84 j
theorem FM.rf (g : G2) : FM g g := ⟨fun _ _ _ _ _ _ _ => rfl, fun _ _ _ => rfl⟩
theorem FM.tr {g h k : G2} (h1 : FM g h) (h2 : FM h k) : FM g k := ⟨fun z a b c d e f => (h2.1 z a b c d e f).trans (h1.1 z a b c d e f), fun j a b => (h2.2 j a b).trans (h1.2 j a b)⟩
theorem RMt.fm {g h : G2} {T : TD} (hT : RMt g T) (F : FM g h) : RMt h T := by
  unfold RMt at *
  have e : ∀ z, z ≠ 84 → z < 100 → h z = g z := fun z h1 h2 => F.1 z h1 (by omega) (by omega) (by omega) (by omega) (by omega)
  rw [e 87 (by decide) (by decide), e 88 (by decide) (by decide), e 90 (by decide) (by decide), e 97 (by decide) (by decide), e 94 (by decide) (by decide), e 95 (by decide) (by decide)]
  exact hT
theorem RMl.add {h h3 : G2} {T : TD} {S : LfS} {p : Nat} {x : Int32} (hR : RMl h T S) (hn : l_n S < 400) (a1 : h3 84 32 = nI (l_n S + 1)) (F : FM h h3) (a3 : h3 84 30 = h 84 30) (b1 : ∀ i, i ≠ l_n S → h3 104 i = h 104 i) (b2 : h3 104 (l_n S) = x) (c1 : ∀ i, i ≠ l_n S → h3 105 i = h 105 i) (c2 : h3 105 (l_n S) = nI p) (d1 : ∀ i, i ≠ l_n S → h3 106 i = h 106 i) (d2 : h3 106 (l_n S) = h 84 30) : RMl h3 T (addM S p x) := by
  obtain ⟨r1, r2, r3, r4, r5, r6, r7, r8, r9, r10, r11, r12, r13, r14, r15, r16⟩ := hR
  have f : ∀ z, 99 ≤ z → z ≤ 102 → h3 z = h z := fun z h1 h2 => F.1 z (by omega) (by omega) (by omega) (by omega) (by omega) (by omega)
  refine ⟨a1, by show l_n S + 1 ≤ 400; omega, fun i hi => ?_, fun i hi => ?_, fun i hi => ?_, ?_, ?_, ?_, ?_, ?_, fun q hq => ?_, fun q hq => ?_, ?_, r14, fun i hi => ?_, fun i hi => ?_⟩
  · have hi : i < l_n S + 1 := hi
    rw [addM_0]; by_cases e : i = l_n S
    · rw [if_pos e, e]; exact b2
    · rw [if_neg e, b1 i e]; exact r3 i (by omega)
  · have hi : i < l_n S + 1 := hi
    rw [addM_1]; by_cases e : i = l_n S
    · rw [if_pos e, e]; exact c2
    · rw [if_neg e, c1 i e]; exact r4 i (by omega)
  · have hi : i < l_n S + 1 := hi
    rw [addM_2]; by_cases e : i = l_n S
    · rw [if_pos e, e, d2]; exact r6
    · rw [if_neg e, d1 i e]; exact r5 i (by omega)
  · rw [addM_c S p x (by decide), a3]; exact r6
  · rw [addM_c S p x (by decide), F.2 31 (by decide) (by decide)]; exact r7
  · rw [addM_c S p x (by decide), F.2 33 (by decide) (by decide)]; exact r8
  · rw [addM_c S p x (by decide), F.2 34 (by decide) (by decide)]; exact r9
  · rw [addM_c S p x (by decide), F.2 35 (by decide) (by decide)]; exact r10
  · rw [addM_c S p x (by decide), f 99 (by decide) (by decide)]; exact r11 q hq
  · rw [addM_c S p x (by decide), f 100 (by decide) (by decide)]; exact r12 q hq
  · rw [F.2 36 (by decide) (by decide)]; exact r13
  · rw [addM_c S p x (by decide), f 101 (by decide) (by decide)]; exact r15 i hi
  · rw [addM_c S p x (by decide), f 102 (by decide) (by decide)]; exact r16 i hi
theorem RMl.yr {h : G2} {T : TD} {S : LfS} (hR : RMl h T S) : RMl (up2 h 84 30 (h 84 30 + 1)) T (l_n S, l_fn S, up2 (l_g S) 3 0 (l_g S 3 0 + 1)) := by
  obtain ⟨r1, r2, r3, r4, r5, r6, r7, r8, r9, r10, r11, r12, r13, r14, r15, r16⟩ := hR
  have s3 : ∀ c, c ≠ 3 → l_g (l_n S, l_fn S, up2 (l_g S) 3 0 (l_g S 3 0 + 1)) c = l_g S c := fun c hc => up2_f _ _ _ _ hc
  have s4 : ∀ j, l_g (l_n S, l_fn S, up2 (l_g S) 3 0 (l_g S 3 0 + 1)) 3 j = if j = 0 then l_g S 3 0 + 1 else l_g S 3 j := fun j => up2_if _ _ _ _ j
  have f : ∀ z, z ≠ 84 → up2 h 84 30 (h 84 30 + 1) z = h z := fun z hz => up2_f _ _ _ _ hz
  have f2 : ∀ j, j ≠ 30 → up2 h 84 30 (h 84 30 + 1) 84 j = h 84 j := fun j hj => up2_k _ _ _ _ hj
  refine ⟨by rw [f2 _ (by decide)]; exact r1, r2, ?_, ?_, ?_, ?_, ?_, ?_, ?_, ?_, ?_, ?_, by rw [f2 _ (by decide)]; exact r13, r14, ?_, ?_⟩
  · intro i hi; rw [f _ (by decide), s3 0 (by decide)]; exact r3 i hi
  · intro i hi; rw [f _ (by decide), s3 1 (by decide)]; exact r4 i hi
  · intro i hi; rw [f _ (by decide), s3 2 (by decide)]; exact r5 i hi
  · rw [up2_s, s4, if_pos rfl, r6]
  · rw [f2 _ (by decide), s4, if_neg (by decide)]; exact r7
  · rw [f2 _ (by decide), s4, if_neg (by decide)]; exact r8
  · rw [f2 _ (by decide), s4, if_neg (by decide)]; exact r9
  · rw [f2 _ (by decide), s4, if_neg (by decide)]; exact r10
  · intro i hi; rw [f _ (by decide), s3 4 (by decide)]; exact r11 i hi
  · intro i hi; rw [f _ (by decide), s3 5 (by decide)]; exact r12 i hi
  · intro i hi; rw [f _ (by decide), s3 6 (by decide)]; exact r15 i hi
  · intro i hi; rw [f _ (by decide), s3 7 (by decide)]; exact r16 i hi
theorem RMl.z {g h : G2} {T : TD} {S : LfS} (hR : RMl g T S) (hz : ∀ z, z ≠ 107 → z ≠ 108 → h z = g z) : RMl h T S := by
  unfold RMl at *
  rw [hz 84 (by decide) (by decide), hz 104 (by decide) (by decide), hz 105 (by decide) (by decide), hz 106 (by decide) (by decide), hz 99 (by decide) (by decide), hz 100 (by decide) (by decide), hz 101 (by decide) (by decide), hz 102 (by decide) (by decide)]
  exact hR
theorem c_X12_aYear {E : En} {d : Nat} {Q : QT} {X : XT} {g : G2} {T : TD} {S : LfS} {sp : Int32} (hT : RMt g T) (hR : RMl g T S) (oT : okT T) (oS : okS T S) (hsp : g 84 44 = sp) (hq : ∀ g2, FM g g2 → RMl g2 T (yrM T sp S) → Q none g2) : M E md_X12_aYear (d + 4) [.ref 84] g Q X := by
  refine M.of _ rfl rfl (Nat.le_of_ble_eq_true rfl) ?_
  have EX : ∀ h : G2, FM g h → ∀ {S2 : LfS}, RMl h T S2 → S2 = runM T sp S (t_n T) → B E md_X12_aYear (d + 4) Q X 114 [(0, .ref 84)] [] h 0 := by
    intro h hF S2 hR hS
    refine b_aload_n dX12_aYear_114 rfl rfl ?_
    refine b_dup dX12_aYear_115 rfl ?_
    refine b_getI lf_X12_316 rfl dX12_aYear_116 ?_
    refine b_iconst (v := 1) dX12_aYear_119 (by decide +kernel) ?_
    refine b_iadd dX12_aYear_120 ?_
    refine b_putI lf_X12_316 lp_12_30 rfl dX12_aYear_121 ?_
    refine b_vret rfl (by decide) dX12_aYear_124 ?_
    refine hq _ (hF.tr ⟨fun z a _ _ _ _ _ => up2_f _ _ _ _ a, fun j a _ => up2_k _ _ _ _ a⟩) ?_
    rw [hS] at hR
    exact hR.yr
  have LP : ∀ i, i ≤ t_n T → ∀ h : G2, FM g h → RMl h T (runM T sp S i) → B E md_X12_aYear (d + 4) Q X 2 [(0, .ref 84), (1, .int (nI i))] [] h 0 := by
    refine lp_up (fun i hi ih h hF hR => ?_)
    have hT : RMt h T := hT.fm hF
    have hT1 := hT.1
    have hT2 := hT.2.1
    have h400 := hR.2.1
    have hR8 : h 84 33 = l_g (runM T sp S i) 3 2 := hR.2.2.2.2.2.2.2.1
    have hR9 : h 84 34 = l_g (runM T sp S i) 3 3 := hR.2.2.2.2.2.2.2.2.1
    have N65 : i < t_n T → l_n (runM T sp S i) < 400 → ∀ {p : Nat}, ordM T i = p → btI (l_g (runM T sp S i) 3 3) (nI p) = 0 → ∀ h2 : G2, (∀ z, z ≠ 107 → z ≠ 108 → h2 z = h z) → ∀ {x : Int32}, x = nsM T sp (runM T sp S i) p → B E md_X12_aYear (d + 4) Q X 65 [(0, .ref 84), (1, .int (nI i)), (2, .int (nI p)), (3, .int x)] [] h2 0 := by
      intro e hlt p eo hdead h2 hz x hx
      have hR2 : RMl h2 T (runM T sp S i) := hR.z hz
      refine b_aload_n dX12_aYear_65 rfl rfl ?_
      refine b_getR (b := 104) lf_X12_93 rfl rfl dX12_aYear_66 ?_
      refine b_aload_n dX12_aYear_69 rfl rfl ?_
      refine b_getI lf_X12_320 rfl dX12_aYear_70 ?_
      refine b_iload_n dX12_aYear_73 rfl rfl ?_
      refine b_istN (j := (l_n (runM T sp S i))) dX12_aYear_74 (by exact hR2.1) (by show _ < 400; omega) ?_
      refine b_aload_n dX12_aYear_75 rfl rfl ?_
      refine b_getR (b := 105) lf_X12_96 rfl rfl dX12_aYear_76 ?_
      refine b_aload_n dX12_aYear_79 rfl rfl ?_
      refine b_getI lf_X12_320 rfl dX12_aYear_80 ?_
      refine b_iload_n dX12_aYear_83 rfl rfl ?_
      refine b_istN (j := (l_n (runM T sp S i))) dX12_aYear_84 (by rw [up2_a _ _ _ _ (by decide)]; exact hR2.1) (by show _ < 400; omega) ?_
      refine b_aload_n dX12_aYear_85 rfl rfl ?_
      refine b_getR (b := 106) lf_X12_99 rfl rfl dX12_aYear_86 ?_
      refine b_aload_n dX12_aYear_89 rfl rfl ?_
      refine b_getI lf_X12_320 rfl dX12_aYear_90 ?_
      refine b_aload_n dX12_aYear_93 rfl rfl ?_
      refine b_getI lf_X12_316 rfl dX12_aYear_94 ?_
      refine b_istN (j := (l_n (runM T sp S i))) dX12_aYear_97 (by rw [up2_a _ _ _ _ (by decide)]; rw [up2_a _ _ _ _ (by decide)]; exact hR2.1) (by show _ < 400; omega) ?_
      refine b_aload_n dX12_aYear_98 rfl rfl ?_
      refine b_dup dX12_aYear_99 rfl ?_
      refine b_getI lf_X12_320 rfl dX12_aYear_100 ?_
      refine b_iconst (v := 1) dX12_aYear_103 (by decide +kernel) ?_
      refine b_iadd dX12_aYear_104 ?_
      refine b_putI lf_X12_320 lp_12_32 rfl dX12_aYear_105 ?_
      have hR3 : RMl (up2 (up2 (up2 (up2 h2 104 (l_n (runM T sp S i)) x) 105 (l_n (runM T sp S i)) (nI p)) 106 (l_n (runM T sp S i)) (up2 (up2 h2 104 (l_n (runM T sp S i)) x) 105 (l_n (runM T sp S i)) (nI p) 84 30)) 84 32 (up2 (up2 (up2 h2 104 (l_n (runM T sp S i)) x) 105 (l_n (runM T sp S i)) (nI p)) 106 (l_n (runM T sp S i)) (up2 (up2 h2 104 (l_n (runM T sp S i)) x) 105 (l_n (runM T sp S i)) (nI p) 84 30) 84 32 + 1)) T (addM (runM T sp S i) p x) := by
        refine hR2.add hlt ?_ ⟨fun z a b c d e f => ?_, fun j a b => ?_⟩ ?_ (fun j hj => ?_) ?_ (fun j hj => ?_) ?_ (fun j hj => ?_) ?_
        · rw [up2_s, up2_a _ _ _ _ (by decide), up2_a _ _ _ _ (by decide), up2_a _ _ _ _ (by decide), hR2.1]; exact nI_1 _
        · rw [up2_f _ _ _ _ a, up2_f _ _ _ _ d, up2_f _ _ _ _ c, up2_f _ _ _ _ b]
        · rw [up2_k _ _ _ _ b, up2_a _ _ _ _ (by decide), up2_a _ _ _ _ (by decide), up2_a _ _ _ _ (by decide)]
        · rw [up2_k _ _ _ _ (by decide), up2_a _ _ _ _ (by decide), up2_a _ _ _ _ (by decide), up2_a _ _ _ _ (by decide)]
        · rw [up2_a _ _ _ _ (by decide), up2_a _ _ _ _ (by decide), up2_a _ _ _ _ (by decide), up2_k _ _ _ _ hj]
        · rw [up2_a _ _ _ _ (by decide), up2_a _ _ _ _ (by decide), up2_a _ _ _ _ (by decide), up2_s]
        · rw [up2_a _ _ _ _ (by decide), up2_a _ _ _ _ (by decide), up2_k _ _ _ _ hj, up2_a _ _ _ _ (by decide)]
        · rw [up2_a _ _ _ _ (by decide), up2_a _ _ _ _ (by decide), up2_s]
        · rw [up2_a _ _ _ _ (by decide), up2_k _ _ _ _ hj, up2_a _ _ _ _ (by decide), up2_a _ _ _ _ (by decide)]
        · rw [up2_a _ _ _ _ (by decide), up2_s, up2_a _ _ _ _ (by decide), up2_a _ _ _ _ (by decide)]
      have hF3 : FM h (up2 (up2 (up2 (up2 h2 104 (l_n (runM T sp S i)) x) 105 (l_n (runM T sp S i)) (nI p)) 106 (l_n (runM T sp S i)) (up2 (up2 h2 104 (l_n (runM T sp S i)) x) 105 (l_n (runM T sp S i)) (nI p) 84 30)) 84 32 (up2 (up2 (up2 h2 104 (l_n (runM T sp S i)) x) 105 (l_n (runM T sp S i)) (nI p)) 106 (l_n (runM T sp S i)) (up2 (up2 h2 104 (l_n (runM T sp S i)) x) 105 (l_n (runM T sp S i)) (nI p) 84 30) 84 32 + 1)) := by
        refine ⟨fun z a b c d e f => ?_, fun j a b => ?_⟩
        · rw [up2_f _ _ _ _ a, up2_f _ _ _ _ d, up2_f _ _ _ _ c, up2_f _ _ _ _ b]; exact hz z e f
        · rw [up2_k _ _ _ _ b, up2_a _ _ _ _ (by decide), up2_a _ _ _ _ (by decide), up2_a _ _ _ _ (by decide), hz 84 (by decide) (by decide)]
      refine b_incN (j := i) (lv' := [(0, _), (1, _), (2, _), (3, _)]) dX12_aYear_108 rfl rfl (by decide) rfl rfl ?_
      refine b_goto (tgt := 2) dX12_aYear_111 (by decide) ?_
      refine b_take 2 ?_
      exact ih (i + 1) (by omega) (by omega) _ (hF.tr hF3) (by show RMl _ T (stpM T sp _ i); unfold stpM; rw [if_pos ⟨hlt, by rw [eo]; exact hdead⟩, eo, ← hx]; exact hR3)
    refine b_iload_n dX12_aYear_2 rfl rfl ?_
    refine b_aload_n dX12_aYear_3 rfl rfl ?_
    refine b_getR (b := 87) lf_X12_40 rfl rfl dX12_aYear_4 ?_
    refine b_iconst (v := 0) dX12_aYear_7 (by decide +kernel) ?_
    refine b_ildN (j := 0) dX12_aYear_8 (rfl) (by show _ < 10; decide) ?_
    refine b_icmp_ge (tgt := 114) dX12_aYear_9 (by decide) (fun h9 => ?_) (fun h9 => ?_)
    · have e : i = (t_n T) := by have := (nI_leI (by omega) (by omega)).mp (hT1 ▸ h9); omega
      refine b_take 1 ?_
      exact EX h hF hR (by rw [e])
    · have e : i < (t_n T) := by
        rcases Nat.lt_or_ge i (t_n T) with q | q
        · exact q
        · exact absurd (hT1 ▸ (nI_leI (by omega) (by omega)).mpr q) h9
      refine b_aload_n dX12_aYear_12 rfl rfl ?_
      refine b_getR (b := 97) lf_X12_70 rfl rfl dX12_aYear_13 ?_
      refine b_iload_n dX12_aYear_16 rfl rfl ?_
      refine b_ildN (j := i) dX12_aYear_17 (rfl) (by show _ < 8; omega) ?_
      obtain ⟨p, hp, ep0⟩ := oT.2.2 i e
      have eo : ordM T i = p := by unfold ordM; rw [ep0, nI_clamp (by omega)]
      refine b_topE (y := nI p) (by rw [hT.2.2.2.2.2.2.2.2.1 i e]; exact ep0) ?_
      refine b_istore_n (lv' := [(0, _), (1, _), (2, _)]) dX12_aYear_18 rfl (by decide) rfl rfl ?_
      refine b_aload_n dX12_aYear_19 rfl rfl ?_
      refine b_getI lf_X12_326 rfl dX12_aYear_20 ?_
      refine b_iload_n dX12_aYear_23 rfl rfl ?_
      refine b_callS (As := [_, _]) (st := []) dX12_aYear_24 lk_X12_370 lm_X12_isOf ls_X12_isOf rfl rfl (Nat.le_of_ble_eq_true rfl) (Nat.le_refl _) (by decide) ?_
      refine c_X12_isOf ?_
      rw [hR9]
      refine b_if_ne (tgt := 108) dX12_aYear_27 (by decide) (fun h27 => ?_) (fun h27 => ?_)
      · have hd1 := b2i_1 h27
        have hdead : ¬ btI (l_g (runM T sp S i) 3 3) (nI p) = 0 := fun q => by rw [q] at hd1; exact absurd hd1 (by decide)
        refine b_incN (j := i) (lv' := [(0, _), (1, _), (2, _)]) dX12_aYear_108 rfl rfl (by decide) rfl rfl ?_
        refine b_goto (tgt := 2) dX12_aYear_111 (by decide) ?_
        refine b_take 2 ?_
        exact ih (i + 1) (by omega) (by omega) h hF (by show RMl h T (stpM T sp _ i); unfold stpM; rw [if_neg (fun q => by rw [eo] at q; exact hdead q.2)]; exact hR)
      · have hd1 := b2i_0 h27
        have hdead : btI (l_g (runM T sp S i) 3 3) (nI p) = 0 := by
          rcases btI_01 (l_g (runM T sp S i) 3 3) (nI p) with q | q
          · exact q
          · rw [q] at hd1; exact absurd hd1 (by decide)
        refine b_aload_n dX12_aYear_30 rfl rfl ?_
        refine b_getI lf_X12_320 rfl dX12_aYear_31 ?_
        refine b_sipush (v := 400) dX12_aYear_34 (by decide +kernel) ?_
        refine b_icmp_ne (tgt := 43) dX12_aYear_37 (by decide) (fun h37 => ?_) (fun h37 => ?_)
        · have hlt : l_n (runM T sp S i) < 400 := by
            rcases Nat.lt_or_ge (l_n (runM T sp S i)) 400 with q | q
            · exact q
            · exact absurd (by rw [hR.1, show l_n (runM T sp S i) = 400 from by omega]; rfl) h37
          refine b_aload_n dX12_aYear_43 rfl rfl ?_
          refine b_getI lf_X12_323 rfl dX12_aYear_44 ?_
          refine b_iload_n dX12_aYear_47 rfl rfl ?_
          refine b_callS (As := [_, _]) (st := []) dX12_aYear_48 lk_X12_370 lm_X12_isOf ls_X12_isOf rfl rfl (Nat.le_of_ble_eq_true rfl) (Nat.le_refl _) (by decide) ?_
          refine c_X12_isOf ?_
          rw [hR8]
          refine b_if_eq (tgt := 59) dX12_aYear_51 (by decide) (fun h51 => ?_) (fun h51 => ?_)
          · have ha1 := b2i_0 h51
            have haw : (!(btI (l_g (runM T sp S i) 3 2) (nI p) == 0)) = false := by
              rcases btI_01 (l_g (runM T sp S i) 3 2) (nI p) with q | q
              · rw [q]; rfl
              · rw [q] at ha1; exact absurd ha1 (by decide)
            refine b_aload_n dX12_aYear_59 rfl rfl ?_
            refine b_iload_n dX12_aYear_60 rfl rfl ?_
            refine b_callV (As := [_]) (st := []) dX12_aYear_61 lk_X12_373 lm_X12_noteOf lv_X12_noteOf rfl (by decide) rfl rfl rfl (Nat.le_of_ble_eq_true rfl) (Nat.le_refl _) (by decide) ?_
            refine c_X12_noteOf (sp := sp) hT hR oT (okS.run oT oS i hi) hp (by rw [hF.2 44 (by decide) (by decide)]; exact hsp) (fun g2 hg2 => ?_)
            refine b_istore_n (lv' := [(0, _), (1, _), (2, _), (3, _)]) dX12_aYear_64 rfl (by decide) rfl rfl ?_
            exact N65 e hlt eo hdead g2 hg2 (by rw [nsM_no, if_neg (by rw [haw]; decide)])
          · have ha1 := b2i_1 h51
            have haw : (!(btI (l_g (runM T sp S i) 3 2) (nI p) == 0)) = true := by
              rcases btI_01 (l_g (runM T sp S i) 3 2) (nI p) with q | q
              · rw [q] at ha1; exact absurd ha1 (by decide)
              · rw [q]; rfl
            refine b_bipush (v := 12) dX12_aYear_54 (by decide +kernel) ?_
            refine b_goto (tgt := 64) dX12_aYear_56 (by decide) ?_
            refine b_istore_n (lv' := [(0, _), (1, _), (2, _), (3, _)]) dX12_aYear_64 rfl (by decide) rfl rfl ?_
            exact N65 e hlt eo hdead h (fun _ _ _ => rfl) (by rw [nsM_no, if_pos haw])
        · have hfull : l_n (runM T sp S i) = 400 := by rw [hR.1] at h37; exact nI_inj (by omega) (by decide) h37
          refine b_goto (tgt := 108) dX12_aYear_40 (by decide) ?_
          refine b_incN (j := i) (lv' := [(0, _), (1, _), (2, _)]) dX12_aYear_108 rfl rfl (by decide) rfl rfl ?_
          refine b_goto (tgt := 2) dX12_aYear_111 (by decide) ?_
          refine b_take 2 ?_
          exact ih (i + 1) (by omega) (by omega) h hF (by show RMl h T (stpM T sp _ i); unfold stpM; rw [if_neg (fun q => by omega)]; exact hR)
  refine b_iconst (v := 0) dX12_aYear_0 (by decide +kernel) ?_
  refine b_istore_n (lv' := [(0, _), (1, _)]) dX12_aYear_1 rfl (by decide) rfl rfl ?_
  exact LP 0 (Nat.zero_le _) g (FM.rf g) hR
theorem c_X12_goOn {E : En} {d : Nat} {Q : QT} {X : XT} {g : G2} {n : Nat} {T : TD} {S : LfS} {sp : Int32} (hT : RMt g T) (hR : RMl g T S) (oT : okT T) (oS : okS T S) (hsp : g 84 44 = sp) (hn : n ≤ 20) (hq : ∀ g2, FM g g2 → RMl g2 T (yrsM T sp S n) → Q none g2) : M E md_X12_goOn (d + 5) [.ref 84, .int (nI n)] g Q X := by
  refine M.of _ rfl rfl (Nat.le_of_ble_eq_true rfl) ?_
  have LP : ∀ i, i ≤ n → ∀ h : G2, FM g h → RMl h T (yrsM T sp S i) → B E md_X12_goOn (d + 5) Q X 2 [(0, .ref 84), (1, .int (nI n)), (2, .int (nI i))] [] h 0 := by
    refine lp_up (fun i hi ih h hF hR => ?_)
    refine b_iload_n dX12_goOn_2 rfl rfl ?_
    refine b_iload_n dX12_goOn_3 rfl rfl ?_
    refine b_icmp_ge (tgt := 17) dX12_goOn_4 (by decide) (fun h4 => ?_) (fun h4 => ?_)
    · have e : i = n := by have := (nI_leI (by omega) (by omega)).mp h4; omega
      subst e
      refine b_vret rfl (by decide) dX12_goOn_17 ?_
      exact hq h hF hR
    · have e : i < n := by
        rcases Nat.lt_or_ge i n with q | q
        · exact q
        · exact absurd ((nI_leI (by omega) (by omega)).mpr q) h4
      refine b_aload_n dX12_goOn_7 rfl rfl ?_
      refine b_callV (As := []) (st := []) dX12_goOn_8 lk_X12_376 lm_X12_aYear lv_X12_aYear rfl (by decide) rfl rfl rfl (Nat.le_of_ble_eq_true rfl) (Nat.le_refl _) (by decide) ?_
      refine c_X12_aYear (sp := sp) (hT.fm hF) hR oT (okS.yrs oT oS i) (by rw [hF.2 44 (by decide) (by decide)]; exact hsp) (fun g2 F2 hR2 => ?_)
      refine b_incN (j := i) (lv' := [(0, _), (1, _), (2, _)]) dX12_goOn_11 rfl rfl (by decide) rfl rfl ?_
      refine b_goto (tgt := 2) dX12_goOn_14 (by decide) ?_
      exact ih (i + 1) (by omega) (by omega) g2 (hF.tr F2) hR2
  refine b_iconst (v := 0) dX12_goOn_0 (by decide +kernel) ?_
  refine b_istore_n (lv' := [(0, _), (1, _), (2, _)]) dX12_goOn_1 rfl (by decide) rfl rfl ?_
  exact LP 0 (Nat.zero_le _) g (FM.rf g) hR
