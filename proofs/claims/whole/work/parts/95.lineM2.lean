theorem RWr.feud {g h : G2} {s : TxS} {t : Tk} {a b : Nat} (hW : RWr g s) (e2 : h 92 = upd (g 92) (6 + s.nf) (nI a)) (e3 : h 93 = upd (g 93) (6 + s.nf) (nI b)) (e6 : h 87 6 = nI (s.nf + 1)) (e7 : ∀ i, i ≠ 6 → i ≠ 9 → h 87 i = g 87 i) (e8 : ∀ z, 88 ≤ z → z ≤ 91 → h z = g z) (e9 : h 94 = g 94) : RWr h (t, s.np, s.nf + 1, s.no, s.dk, s.dt, s.ds, s.c, uN (uN s.H 7 s.nf a) 8 s.nf b) := by
  obtain ⟨a1, a2, a3, a4, a5, a6, a7⟩ := hW
  have hR : ∀ r p, r ≠ 7 → r ≠ 8 → uN (uN s.H 7 s.nf a) 8 s.nf b r p = s.H r p := fun r p e1 e2 => by rw [uN_r _ _ _ _ e2, uN_r _ _ _ _ e1]
  refine ⟨by rw [e7 5 (by decide) (by decide)]; exact a1, e6, by rw [e7 7 (by decide) (by decide)]; exact a3, ?_, fun p hp => ?_, fun i hi => ?_, fun i hi => ?_⟩
  · show h 87 8 = nI (uN (uN s.H 7 s.nf a) 8 s.nf b 9 0)
    rw [hR 9 0 (by decide) (by decide), e7 8 (by decide) (by decide)]; exact a4
  · show h 88 (8 + p) = nI (uN (uN s.H 7 s.nf a) 8 s.nf b 0 p) ∧ h 89 (8 + p) = nI (uN (uN s.H 7 s.nf a) 8 s.nf b 5 p) ∧ h 90 (8 + p) = nI (uN (uN s.H 7 s.nf a) 8 s.nf b 1 p) ∧ h 91 (8 + p) = nI (uN (uN s.H 7 s.nf a) 8 s.nf b 6 p)
    rw [hR _ _ (by decide) (by decide), hR _ _ (by decide) (by decide), hR _ _ (by decide) (by decide), hR _ _ (by decide) (by decide), e8 88 (by decide) (by decide), e8 89 (by decide) (by decide), e8 90 (by decide) (by decide), e8 91 (by decide) (by decide)]
    exact a5 p hp
  · have hi : i < s.nf + 1 := hi
    show h 92 (6 + i) = nI (uN (uN s.H 7 s.nf a) 8 s.nf b 7 i) ∧ h 93 (6 + i) = nI (uN (uN s.H 7 s.nf a) 8 s.nf b 8 i)
    rw [e2, e3, uN_r _ _ _ _ (show 7 ≠ 8 by decide)]
    by_cases q : i = s.nf
    · rw [q, uN_s, uN_s, upd_s, upd_s]; exact ⟨rfl, rfl⟩
    · rw [uN_j _ _ _ _ q, uN_j _ _ _ _ q, uN_r _ _ _ _ (by decide), upd_k _ _ (by omega), upd_k _ _ (by omega)]; exact a6 i (by omega)
  · show h 94 (24 + i) = nI (uN (uN s.H 7 s.nf a) 8 s.nf b 4 i)
    rw [hR _ _ (by decide) (by decide), e9]; exact a7 i hi
theorem c_X12_sayFeud {E : En} {d : Nat} {Q : QT} {X : XT} {g : G2} {f : Nat → Nat} {n : Nat} {s : TxS} (hM : RMr g f n s) (hO : okLs f n s) (hq : LMq Q f n g (lnF f n s)) : M E md_X12_sayFeud (d + 3) [.ref 84] g Q X := by
  refine M.of _ rfl rfl (Nat.le_of_ble_eq_true rfl) ?_
  have h8 := hO.2.1
  have h6 := hO.2.2.1
  refine b_aload_n dX12_sayFeud_0 rfl rfl ?_
  refine b_iconst (v := 1) dX12_sayFeud_1 (by decide +kernel) ?_
  refine b_bipush (v := 6) dX12_sayFeud_2 (by decide +kernel) ?_
  refine b_callV (As := [_, _]) (st := []) dX12_sayFeud_4 lk_X12_282 lm_X12_another lv_X12_another rfl (by decide) rfl rfl rfl (Nat.le_of_ble_eq_true rfl) (Nat.le_refl _) (by decide) ?_
  refine c_X12_another (s := (s.t, 0, 0, s.c)) (w := 1) (m := 6) (k := s.nf) hM.1 rfl (by decide) (by decide) hM.2.2.1 (by omega) (fun c1 h1 F1 R1 => ?_) (fun c1 h1 F1 R1 => ?_)
  · have W1 := hM.2.fp F1
    have R1 : RMs h1 f n (nxt f n s.t.af, 0, 0, s.c) := R1
    have hlt : 6 + s.nf < 12 := by omega
    have hLM := lnF_M (f := f) (n := n) (s := s) (by omega)
    have i1 : isTk f n (MS.t (nxt f n s.t.af, 0, 0, s.c)) := hO.1.nx
    generalize es1 : ((nxt f n s.t.af, 0, 0, s.c) : MS) = s1 at R1 hLM i1
    refine b_if_ne (tgt := 11) dX12_sayFeud_7 (by decide) (fun h7 => ?_) (fun h7 => ?_)
    · refine b_aload_n dX12_sayFeud_11 rfl rfl ?_
      refine b_callV (As := []) (st := []) dX12_sayFeud_12 lk_X12_286 lm_X12_personNow lv_X12_personNow rfl (by decide) rfl rfl rfl (Nat.le_of_ble_eq_true rfl) (Nat.le_refl _) (by decide) ?_
      have K27 : ∀ h, FP h1 h → RMs h f n (adB f n (pnM s.np s1)) → B E md_X12_sayFeud (d + 3) Q X 27 [(0, .ref 84), (1, .int (nI (pnV s.np s1)))] [] h 0 := by
        intro h F R
        have F0 := F
        have F2 := FP.rf h1
        refine b_aload_n dX12_sayFeud_27 rfl rfl ?_
        refine b_callV (As := []) (st := []) dX12_sayFeud_28 lk_X12_286 lm_X12_personNow lv_X12_personNow rfl (by decide) rfl rfl rfl (Nat.le_of_ble_eq_true rfl) (Nat.le_refl _) (by decide) ?_
        refine c_X12_personNow (np := s.np) R (W1.fp F).1 h8 (fun h4 F4 R4 => ?_)
        have R4 : RMs h4 f n (mF4 f n s.np s1) := R4
        have W4 := (W1.fp F).fp F4
        have hb6 := R4.2.2.2.2.1
        have ha9 : (pnV s.np s1) ≤ 9999 := pnV_le f i1
        have hb9 : (pnV s.np (adB f n (pnM s.np s1))) ≤ 9999 := pnV_le f R.2.2.1
        refine b_istore_n (lv' := [(0, _), (1, _), (2, _)]) dX12_sayFeud_31 rfl (by decide) rfl rfl ?_
        refine b_iload_n dX12_sayFeud_32 rfl rfl ?_
        refine b_iload_n dX12_sayFeud_33 rfl rfl ?_
        refine b_icmp_ne (tgt := 41) dX12_sayFeud_34 (by decide) (fun h34 => ?_) (fun h34 => ?_)
        · have e34 : ((pnV s.np s1)) ≠ ((pnV s.np (adB f n (pnM s.np s1)))) := fun q => h34 (congrArg nI q)
          refine b_iconst (v := 0) dX12_sayFeud_41 (by decide +kernel) ?_
          refine b_istore_n (lv' := [(0, _), (1, _), (2, _), (3, _)]) dX12_sayFeud_42 rfl (by decide) rfl rfl ?_
          refine b_bipush (v := 6) dX12_sayFeud_43 (by decide +kernel) ?_
          refine b_istore (lv' := [(0, _), (1, _), (2, _), (3, _), (4, _)]) dX12_sayFeud_45 (by decide) rfl rfl ?_
          have K149 : ∀ (h : G2) (i : Nat) (z : Int32), FP h4 h → RMs h f n (mF6 f n s.np (fun a b => (a == b) || anyN (fdN s.H a b) s.nf) s1) → B E md_X12_sayFeud (d + 3) Q X 149 [(0, .ref 84), (1, .int (nI (pnV s.np s1))), (2, .int (nI (pnV s.np (adB f n (pnM s.np s1))))), (3, .int z), (4, .int (nI (6 + i)))] [] h 0 := by
            intro h i z F R
            have e6 : h 87 6 = nI s.nf := (W4.fp F).2.1
            have F := (F0.tr F4).tr F
            refine b_aload_n dX12_sayFeud_149 rfl rfl ?_
            refine b_getR (b := 92) lf_X12_55 rfl rfl dX12_sayFeud_150 ?_
            refine b_bipush (v := 6) dX12_sayFeud_153 (by decide +kernel) ?_
            refine b_aload_n dX12_sayFeud_155 rfl rfl ?_
            refine b_getR (b := 87) lf_X12_40 rfl rfl dX12_sayFeud_156 ?_
            refine b_bipush (v := 6) dX12_sayFeud_159 (by decide +kernel) ?_
            refine b_ildN (j := 6) dX12_sayFeud_161 (rfl) (by show _ < 10; omega) ?_
            refine b_topE (e6) ?_
            refine b_iadd dX12_sayFeud_162 ?_
            refine b_topE (nI_add 6 s.nf) ?_
            refine b_iload_n dX12_sayFeud_163 rfl rfl ?_
            refine b_istN (j := (6 + s.nf)) dX12_sayFeud_164 (rfl) (by show _ < 12; exact hlt) ?_
            refine b_aload_n dX12_sayFeud_165 rfl rfl ?_
            refine b_getR (b := 93) lf_X12_58 rfl rfl dX12_sayFeud_166 ?_
            refine b_bipush (v := 6) dX12_sayFeud_169 (by decide +kernel) ?_
            refine b_aload_n dX12_sayFeud_171 rfl rfl ?_
            refine b_getR (b := 87) lf_X12_40 rfl rfl dX12_sayFeud_172 ?_
            refine b_bipush (v := 6) dX12_sayFeud_175 (by decide +kernel) ?_
            refine b_ildN (j := 6) dX12_sayFeud_177 (rfl) (by show _ < 10; omega) ?_
            refine b_topE (y := nI s.nf) (by rw [up2_a _ _ _ _ (by decide)]; exact e6) ?_
            refine b_iadd dX12_sayFeud_178 ?_
            refine b_topE (nI_add 6 s.nf) ?_
            refine b_iload_n dX12_sayFeud_179 rfl rfl ?_
            refine b_istN (j := (6 + s.nf)) dX12_sayFeud_180 (rfl) (by show _ < 12; exact hlt) ?_
            refine b_aload_n dX12_sayFeud_181 rfl rfl ?_
            refine b_getR (b := 87) lf_X12_40 rfl rfl dX12_sayFeud_182 ?_
            refine b_bipush (v := 6) dX12_sayFeud_185 (by decide +kernel) ?_
            refine b_dup2 dX12_sayFeud_187 rfl rfl ?_
            refine b_ildN (j := 6) dX12_sayFeud_188 (rfl) (by show _ < 10; omega) ?_
            refine b_topE (y := nI s.nf) (by rw [up2_a _ _ _ _ (by decide), up2_a _ _ _ _ (by decide)]; exact e6) ?_
            refine b_iconst (v := 1) dX12_sayFeud_189 (by decide +kernel) ?_
            refine b_iadd dX12_sayFeud_190 ?_
            refine b_topE (nI_add s.nf 1) ?_
            refine b_istN (j := 6) dX12_sayFeud_191 (rfl) (by show _ < 10; omega) ?_
            refine b_vret rfl (by decide) dX12_sayFeud_192 ?_
            have eF := F1.tr (F2.tr F)
            have hF : FMl g (up2 (up2 (up2 h 92 (6 + s.nf) (nI (pnV s.np s1))) 93 (6 + s.nf) (nI (pnV s.np (adB f n (pnM s.np s1))))) 87 6 (nI (s.nf + 1))) := (((FMl.fp eF).tr (FMl.up (by decide) (by decide) (Nat.le_add_right 6 _))).tr (FMl.up (by decide) (by decide) (Nat.le_add_right 6 _))).tr (FMl.up (by decide) (by decide) (by decide))
            have R7 : RMs (up2 (up2 (up2 h 92 (6 + s.nf) (nI (pnV s.np s1))) 93 (6 + s.nf) (nI (pnV s.np (adB f n (pnM s.np s1))))) 87 6 (nI (s.nf + 1))) f n (mF6 f n s.np (fun a b => (a == b) || anyN (fdN s.H a b) s.nf) s1) := ((R.up (by decide) (by decide) (by decide) (fun e => absurd e (by decide))).up (by decide) (by decide) (by decide) (fun e => absurd e (by decide))).up (by decide) (by decide) (by decide) (fun _ => by decide)
            rcases hLM with ⟨l1, l2, l3⟩ | ⟨l1, va, vb, l2, l3, l5, l6⟩
            · exact hq.2 _ l1 hF ⟨_, l2, l3, R7⟩
            · refine hq.1 _ l1 hF ?_
              rw [l5]
              rw [l6] at R7
              refine ⟨R7, ?_⟩
              rw [← l2, ← l3]
              refine RWr.feud hM.2 ?_ ?_ (up2_s _ _ _ _) (fun i a b => ?_) (fun z a b => ?_) ?_
              · rw [up2_f _ _ _ _ (by decide), up2_f _ _ _ _ (by decide), up2_u, eF.1 92 (by decide) (by decide) (by decide)]
              · rw [up2_f _ _ _ _ (by decide), up2_u, up2_f _ _ _ _ (by decide), eF.1 93 (by decide) (by decide) (by decide)]
              · rw [up2_k _ _ _ _ a, up2_a _ _ _ _ (by decide), up2_a _ _ _ _ (by decide), eF.2.2.1 i b]
              · rw [up2_f _ _ _ _ (by omega), up2_f _ _ _ _ (by omega), up2_f _ _ _ _ (by omega), eF.1 z (by omega) (by omega) (by omega)]
              · rw [up2_f _ _ _ _ (by decide), up2_f _ _ _ _ (by decide), up2_f _ _ _ _ (by decide), eF.1 94 (by decide) (by decide) (by decide)]
          have K138 : ∀ (h : G2) (s5 : MS) (i : Nat) (z : Int32), FP h4 h → RMs h f n s5 → adB f n s5 = (mF6 f n s.np (fun a b => (a == b) || anyN (fdN s.H a b) s.nf) s1) → B E md_X12_sayFeud (d + 3) Q X 138 [(0, .ref 84), (1, .int (nI (pnV s.np s1))), (2, .int (nI (pnV s.np (adB f n (pnM s.np s1))))), (3, .int z), (4, .int (nI (6 + i)))] [] h 0 := by
            intro h s5 i z F R e5
            have hb7 := R.2.2.2.2.1
            refine b_aload_n dX12_sayFeud_138 rfl rfl ?_
            refine b_getI lf_X12_214 rfl dX12_sayFeud_139 ?_
            refine b_topE (R.2.2.2.1) ?_
            refine b_if_ne (tgt := 149) dX12_sayFeud_142 (by decide) (fun h142 => ?_) (fun h142 => ?_)
            · have e142 : s5.bad ≠ 0 := fun q => h142 (by rw [q]; rfl)
              exact K149 h i z F (by rw [← e5, adB_b e142]; exact R)
            · have e142 : s5.bad = 0 := nI_inj (b := 0) (by omega) (by decide) h142
              refine b_aload_n dX12_sayFeud_145 rfl rfl ?_
              refine b_callV (As := []) (st := []) dX12_sayFeud_146 lk_X12_239 lm_X12_stepOn lv_X12_stepOn rfl (by decide) rfl rfl rfl (Nat.le_of_ble_eq_true rfl) (Nat.le_refl _) (by decide) ?_
              refine c_X12_stepOn R.1 R.2.1.1 R.2.2.1.ok.1 (fun h6 F6 T6 => ?_)
              exact K149 h6 i z (F.tr F6.fp) (by rw [← e5, show adB f n s5 = adv f n s5 from if_pos e142]; exact R.adv F6 T6)
          have L : ∀ i, i ≤ s.nf → B E md_X12_sayFeud (d + 3) Q X 47 [(0, .ref 84), (1, .int (nI (pnV s.np s1))), (2, .int (nI (pnV s.np (adB f n (pnM s.np s1))))), (3, .int (b2i (((pnV s.np s1) == (pnV s.np (adB f n (pnM s.np s1)))) || anyN (fdN s.H (pnV s.np s1) (pnV s.np (adB f n (pnM s.np s1)))) i))), (4, .int (nI (6 + i)))] [] h4 0 := by
            refine lp_up (fun i hi ih => ?_)
            refine b_iload dX12_sayFeud_47 rfl ?_
            refine b_bipush (v := 6) dX12_sayFeud_49 (by decide +kernel) ?_
            refine b_aload_n dX12_sayFeud_51 rfl rfl ?_
            refine b_getR (b := 87) lf_X12_40 rfl rfl dX12_sayFeud_52 ?_
            refine b_bipush (v := 6) dX12_sayFeud_55 (by decide +kernel) ?_
            refine b_ildN (j := 6) dX12_sayFeud_57 (rfl) (by show _ < 10; omega) ?_
            refine b_topE (W4.2.1) ?_
            refine b_iadd dX12_sayFeud_58 ?_
            refine b_topE (nI_add 6 s.nf) ?_
            refine b_icmp_ge (tgt := 122) dX12_sayFeud_59 (by decide) (fun h59 => ?_) (fun h59 => ?_)
            · have e59 : ((6 + s.nf)) ≤ ((6 + i)) := nn_le (a := ((6 + s.nf))) (b := ((6 + i))) (by omega) (by omega) h59
              have z : i = s.nf := by omega
              subst z
              refine b_aload_n dX12_sayFeud_122 rfl rfl ?_
              refine b_getI lf_X12_214 rfl dX12_sayFeud_123 ?_
              refine b_topE (R4.2.2.2.1) ?_
              refine b_if_ne (tgt := 138) dX12_sayFeud_126 (by decide) (fun h126 => ?_) (fun h126 => ?_)
              · have e126 : ((mF4 f n s.np s1).bad) ≠ 0 := fun q => h126 (by rw [q]; rfl)
                exact K138 h4 _ s.nf _ (FP.rf h4) R4 (by unfold mF6; rw [if_neg (fun q => e126 q.1)])
              · have e126 : ((mF4 f n s.np s1).bad) = 0 := nI_inj (b := 0) (by omega) (by decide) h126
                refine b_iload_n dX12_sayFeud_129 rfl rfl ?_
                refine b_if_eq (tgt := 138) dX12_sayFeud_130 (by decide) (fun h130 => ?_) (fun h130 => ?_)
                · have e130 := b2i_0 h130
                  exact K138 h4 _ s.nf _ (FP.rf h4) R4 (by unfold mF6; rw [if_neg (fun q => by have := q.2.symm.trans e130; cases this)])
                · have e130 := b2i_1 h130
                  refine b_aload_n dX12_sayFeud_133 rfl rfl ?_
                  refine b_iconst (v := 4) dX12_sayFeud_134 (by decide +kernel) ?_
                  refine b_callV (As := [_]) (st := []) dX12_sayFeud_135 lk_X12_235 lm_X12_wrong lv_X12_wrong rfl (by decide) rfl rfl rfl (Nat.le_of_ble_eq_true rfl) (Nat.le_refl _) (by decide) ?_
                  refine c_X12_wrong (k := 4) R4 (by decide) (fun h5 F5 R5 => ?_)
                  exact K138 h5 _ s.nf _ F5 R5 (by unfold mF6; rw [if_pos ⟨e126, e130⟩])
            · have e59 : ((6 + i)) < ((6 + s.nf)) := nn_nle (a := ((6 + s.nf))) (b := ((6 + i))) (by omega) (by omega) h59
              have hHi := hO.2.2.2.2.2.2.1 i (by omega)
              refine b_iload_n dX12_sayFeud_62 rfl rfl ?_
              refine b_if_ne (tgt := 110) dX12_sayFeud_63 (by decide) (fun h63 => ?_) (fun h63 => ?_)
              · have e63 := b2i_1 h63
                refine b_iconst (v := 1) dX12_sayFeud_110 (by decide +kernel) ?_
                refine b_goto (tgt := 115) dX12_sayFeud_111 (by decide) ?_
                refine b_istore_n (lv' := [(0, _), (1, _), (2, _), (3, _), (4, _)]) dX12_sayFeud_115 rfl (by decide) rfl rfl ?_
                refine b_incN (j := (6 + i)) (lv' := [(0, _), (1, _), (2, _), (3, _), (4, _)]) dX12_sayFeud_116 rfl rfl (by decide) rfl rfl ?_
                refine b_goto (tgt := 47) dX12_sayFeud_119 (by decide) ?_
                have hz : (((pnV s.np s1) == (pnV s.np (adB f n (pnM s.np s1)))) || anyN (fdN s.H (pnV s.np s1) (pnV s.np (adB f n (pnM s.np s1)))) (i + 1)) = true := by rw [show (((pnV s.np s1) == (pnV s.np (adB f n (pnM s.np s1)))) || anyN (fdN s.H (pnV s.np s1) (pnV s.np (adB f n (pnM s.np s1)))) (i + 1)) = (((pnV s.np s1) == (pnV s.np (adB f n (pnM s.np s1)))) || (anyN (fdN s.H (pnV s.np s1) (pnV s.np (adB f n (pnM s.np s1)))) i || fdN s.H (pnV s.np s1) (pnV s.np (adB f n (pnM s.np s1))) i)) from rfl, ← Bool.or_assoc, e63, Bool.true_or]
                have y := ih (i + 1) (by omega) (by omega)
                rw [hz] at y
                exact y
              · have e63 := b2i_0 h63
                refine b_aload_n dX12_sayFeud_66 rfl rfl ?_
                refine b_getR (b := 92) lf_X12_55 rfl rfl dX12_sayFeud_67 ?_
                refine b_iload dX12_sayFeud_70 rfl ?_
                refine b_ildN (j := (6 + i)) dX12_sayFeud_72 (rfl) (by show _ < 12; omega) ?_
                refine b_topE (y := nI ((s.H 7 i))) ((W4.2.2.2.2.2.1 i (by omega)).1) ?_
                refine b_iload_n dX12_sayFeud_73 rfl rfl ?_
                refine b_icmp_ne (tgt := 88) dX12_sayFeud_74 (by decide) (fun h74 => ?_) (fun h74 => ?_)
                · have e74 : ((s.H 7 i)) ≠ ((pnV s.np s1)) := fun q => h74 (congrArg nI q)
                  refine b_aload_n dX12_sayFeud_88 rfl rfl ?_
                  refine b_getR (b := 92) lf_X12_55 rfl rfl dX12_sayFeud_89 ?_
                  refine b_iload dX12_sayFeud_92 rfl ?_
                  refine b_ildN (j := (6 + i)) dX12_sayFeud_94 (rfl) (by show _ < 12; omega) ?_
                  refine b_topE (y := nI ((s.H 7 i))) ((W4.2.2.2.2.2.1 i (by omega)).1) ?_
                  refine b_iload_n dX12_sayFeud_95 rfl rfl ?_
                  refine b_icmp_ne (tgt := 114) dX12_sayFeud_96 (by decide) (fun h96 => ?_) (fun h96 => ?_)
                  · have e96 : ((s.H 7 i)) ≠ ((pnV s.np (adB f n (pnM s.np s1)))) := fun q => h96 (congrArg nI q)
                    refine b_iconst (v := 0) dX12_sayFeud_114 (by decide +kernel) ?_
                    refine b_istore_n (lv' := [(0, _), (1, _), (2, _), (3, _), (4, _)]) dX12_sayFeud_115 rfl (by decide) rfl rfl ?_
                    refine b_incN (j := (6 + i)) (lv' := [(0, _), (1, _), (2, _), (3, _), (4, _)]) dX12_sayFeud_116 rfl rfl (by decide) rfl rfl ?_
                    refine b_goto (tgt := 47) dX12_sayFeud_119 (by decide) ?_
                    have hfd : fdN s.H (pnV s.np s1) (pnV s.np (adB f n (pnM s.np s1))) i = false := by
                      unfold fdN; simp only [Bool.or_eq_false_iff, Bool.and_eq_false_iff, beq_eq_false_iff_ne]; omega
                    have hz : (((pnV s.np s1) == (pnV s.np (adB f n (pnM s.np s1)))) || anyN (fdN s.H (pnV s.np s1) (pnV s.np (adB f n (pnM s.np s1)))) (i + 1)) = false := by rw [show (((pnV s.np s1) == (pnV s.np (adB f n (pnM s.np s1)))) || anyN (fdN s.H (pnV s.np s1) (pnV s.np (adB f n (pnM s.np s1)))) (i + 1)) = (((pnV s.np s1) == (pnV s.np (adB f n (pnM s.np s1)))) || (anyN (fdN s.H (pnV s.np s1) (pnV s.np (adB f n (pnM s.np s1)))) i || fdN s.H (pnV s.np s1) (pnV s.np (adB f n (pnM s.np s1))) i)) from rfl, ← Bool.or_assoc, hfd, e63]; rfl
                    have y := ih (i + 1) (by omega) (by omega)
                    rw [hz] at y
                    exact y
                  · have e96 : ((s.H 7 i)) = ((pnV s.np (adB f n (pnM s.np s1)))) := nI_inj (a := ((s.H 7 i))) (b := ((pnV s.np (adB f n (pnM s.np s1))))) (by omega) (by omega) h96
                    refine b_aload_n dX12_sayFeud_99 rfl rfl ?_
                    refine b_getR (b := 93) lf_X12_58 rfl rfl dX12_sayFeud_100 ?_
                    refine b_iload dX12_sayFeud_103 rfl ?_
                    refine b_ildN (j := (6 + i)) dX12_sayFeud_105 (rfl) (by show _ < 12; omega) ?_
                    refine b_topE (y := nI ((s.H 8 i))) ((W4.2.2.2.2.2.1 i (by omega)).2) ?_
                    refine b_iload_n dX12_sayFeud_106 rfl rfl ?_
                    refine b_icmp_ne (tgt := 114) dX12_sayFeud_107 (by decide) (fun h107 => ?_) (fun h107 => ?_)
                    · have e107 : ((s.H 8 i)) ≠ ((pnV s.np s1)) := fun q => h107 (congrArg nI q)
                      refine b_iconst (v := 0) dX12_sayFeud_114 (by decide +kernel) ?_
                      refine b_istore_n (lv' := [(0, _), (1, _), (2, _), (3, _), (4, _)]) dX12_sayFeud_115 rfl (by decide) rfl rfl ?_
                      refine b_incN (j := (6 + i)) (lv' := [(0, _), (1, _), (2, _), (3, _), (4, _)]) dX12_sayFeud_116 rfl rfl (by decide) rfl rfl ?_
                      refine b_goto (tgt := 47) dX12_sayFeud_119 (by decide) ?_
                      have hfd : fdN s.H (pnV s.np s1) (pnV s.np (adB f n (pnM s.np s1))) i = false := by
                        unfold fdN; simp only [Bool.or_eq_false_iff, Bool.and_eq_false_iff, beq_eq_false_iff_ne]; omega
                      have hz : (((pnV s.np s1) == (pnV s.np (adB f n (pnM s.np s1)))) || anyN (fdN s.H (pnV s.np s1) (pnV s.np (adB f n (pnM s.np s1)))) (i + 1)) = false := by rw [show (((pnV s.np s1) == (pnV s.np (adB f n (pnM s.np s1)))) || anyN (fdN s.H (pnV s.np s1) (pnV s.np (adB f n (pnM s.np s1)))) (i + 1)) = (((pnV s.np s1) == (pnV s.np (adB f n (pnM s.np s1)))) || (anyN (fdN s.H (pnV s.np s1) (pnV s.np (adB f n (pnM s.np s1)))) i || fdN s.H (pnV s.np s1) (pnV s.np (adB f n (pnM s.np s1))) i)) from rfl, ← Bool.or_assoc, hfd, e63]; rfl
                      have y := ih (i + 1) (by omega) (by omega)
                      rw [hz] at y
                      exact y
                    · have e107 : ((s.H 8 i)) = ((pnV s.np s1)) := nI_inj (a := ((s.H 8 i))) (b := ((pnV s.np s1))) (by omega) (by omega) h107
                      refine b_iconst (v := 1) dX12_sayFeud_110 (by decide +kernel) ?_
                      refine b_goto (tgt := 115) dX12_sayFeud_111 (by decide) ?_
                      refine b_istore_n (lv' := [(0, _), (1, _), (2, _), (3, _), (4, _)]) dX12_sayFeud_115 rfl (by decide) rfl rfl ?_
                      refine b_incN (j := (6 + i)) (lv' := [(0, _), (1, _), (2, _), (3, _), (4, _)]) dX12_sayFeud_116 rfl rfl (by decide) rfl rfl ?_
                      refine b_goto (tgt := 47) dX12_sayFeud_119 (by decide) ?_
                      have hfd : fdN s.H (pnV s.np s1) (pnV s.np (adB f n (pnM s.np s1))) i = true := by
                        unfold fdN; simp only [Bool.or_eq_true, Bool.and_eq_true, beq_iff_eq]; omega
                      have hz : (((pnV s.np s1) == (pnV s.np (adB f n (pnM s.np s1)))) || anyN (fdN s.H (pnV s.np s1) (pnV s.np (adB f n (pnM s.np s1)))) (i + 1)) = true := by rw [show (((pnV s.np s1) == (pnV s.np (adB f n (pnM s.np s1)))) || anyN (fdN s.H (pnV s.np s1) (pnV s.np (adB f n (pnM s.np s1)))) (i + 1)) = (((pnV s.np s1) == (pnV s.np (adB f n (pnM s.np s1)))) || (anyN (fdN s.H (pnV s.np s1) (pnV s.np (adB f n (pnM s.np s1)))) i || fdN s.H (pnV s.np s1) (pnV s.np (adB f n (pnM s.np s1))) i)) from rfl, ← Bool.or_assoc, hfd, Bool.or_true]
                      have y := ih (i + 1) (by omega) (by omega)
                      rw [hz] at y
                      exact y
                · have e74 : ((s.H 7 i)) = ((pnV s.np s1)) := nI_inj (a := ((s.H 7 i))) (b := ((pnV s.np s1))) (by omega) (by omega) h74
                  refine b_aload_n dX12_sayFeud_77 rfl rfl ?_
                  refine b_getR (b := 93) lf_X12_58 rfl rfl dX12_sayFeud_78 ?_
                  refine b_iload dX12_sayFeud_81 rfl ?_
                  refine b_ildN (j := (6 + i)) dX12_sayFeud_83 (rfl) (by show _ < 12; omega) ?_
                  refine b_topE (y := nI ((s.H 8 i))) ((W4.2.2.2.2.2.1 i (by omega)).2) ?_
                  refine b_iload_n dX12_sayFeud_84 rfl rfl ?_
                  refine b_icmp_eq (tgt := 110) dX12_sayFeud_85 (by decide) (fun h85 => ?_) (fun h85 => ?_)
                  · have e85 : ((s.H 8 i)) = ((pnV s.np (adB f n (pnM s.np s1)))) := nI_inj (a := ((s.H 8 i))) (b := ((pnV s.np (adB f n (pnM s.np s1))))) (by omega) (by omega) h85
                    refine b_iconst (v := 1) dX12_sayFeud_110 (by decide +kernel) ?_
                    refine b_goto (tgt := 115) dX12_sayFeud_111 (by decide) ?_
                    refine b_istore_n (lv' := [(0, _), (1, _), (2, _), (3, _), (4, _)]) dX12_sayFeud_115 rfl (by decide) rfl rfl ?_
                    refine b_incN (j := (6 + i)) (lv' := [(0, _), (1, _), (2, _), (3, _), (4, _)]) dX12_sayFeud_116 rfl rfl (by decide) rfl rfl ?_
                    refine b_goto (tgt := 47) dX12_sayFeud_119 (by decide) ?_
                    have hfd : fdN s.H (pnV s.np s1) (pnV s.np (adB f n (pnM s.np s1))) i = true := by
                      unfold fdN; simp only [Bool.or_eq_true, Bool.and_eq_true, beq_iff_eq]; omega
                    have hz : (((pnV s.np s1) == (pnV s.np (adB f n (pnM s.np s1)))) || anyN (fdN s.H (pnV s.np s1) (pnV s.np (adB f n (pnM s.np s1)))) (i + 1)) = true := by rw [show (((pnV s.np s1) == (pnV s.np (adB f n (pnM s.np s1)))) || anyN (fdN s.H (pnV s.np s1) (pnV s.np (adB f n (pnM s.np s1)))) (i + 1)) = (((pnV s.np s1) == (pnV s.np (adB f n (pnM s.np s1)))) || (anyN (fdN s.H (pnV s.np s1) (pnV s.np (adB f n (pnM s.np s1)))) i || fdN s.H (pnV s.np s1) (pnV s.np (adB f n (pnM s.np s1))) i)) from rfl, ← Bool.or_assoc, hfd, Bool.or_true]
                    have y := ih (i + 1) (by omega) (by omega)
                    rw [hz] at y
                    exact y
                  · have e85 : ((s.H 8 i)) ≠ ((pnV s.np (adB f n (pnM s.np s1)))) := fun q => h85 (congrArg nI q)
                    refine b_aload_n dX12_sayFeud_88 rfl rfl ?_
                    refine b_getR (b := 92) lf_X12_55 rfl rfl dX12_sayFeud_89 ?_
                    refine b_iload dX12_sayFeud_92 rfl ?_
                    refine b_ildN (j := (6 + i)) dX12_sayFeud_94 (rfl) (by show _ < 12; omega) ?_
                    refine b_topE (y := nI ((s.H 7 i))) ((W4.2.2.2.2.2.1 i (by omega)).1) ?_
                    refine b_iload_n dX12_sayFeud_95 rfl rfl ?_
                    refine b_icmp_ne (tgt := 114) dX12_sayFeud_96 (by decide) (fun h96 => ?_) (fun h96 => ?_)
                    · have e96 : ((s.H 7 i)) ≠ ((pnV s.np (adB f n (pnM s.np s1)))) := fun q => h96 (congrArg nI q)
                      refine b_iconst (v := 0) dX12_sayFeud_114 (by decide +kernel) ?_
                      refine b_istore_n (lv' := [(0, _), (1, _), (2, _), (3, _), (4, _)]) dX12_sayFeud_115 rfl (by decide) rfl rfl ?_
                      refine b_incN (j := (6 + i)) (lv' := [(0, _), (1, _), (2, _), (3, _), (4, _)]) dX12_sayFeud_116 rfl rfl (by decide) rfl rfl ?_
                      refine b_goto (tgt := 47) dX12_sayFeud_119 (by decide) ?_
                      have hfd : fdN s.H (pnV s.np s1) (pnV s.np (adB f n (pnM s.np s1))) i = false := by
                        unfold fdN; simp only [Bool.or_eq_false_iff, Bool.and_eq_false_iff, beq_eq_false_iff_ne]; omega
                      have hz : (((pnV s.np s1) == (pnV s.np (adB f n (pnM s.np s1)))) || anyN (fdN s.H (pnV s.np s1) (pnV s.np (adB f n (pnM s.np s1)))) (i + 1)) = false := by rw [show (((pnV s.np s1) == (pnV s.np (adB f n (pnM s.np s1)))) || anyN (fdN s.H (pnV s.np s1) (pnV s.np (adB f n (pnM s.np s1)))) (i + 1)) = (((pnV s.np s1) == (pnV s.np (adB f n (pnM s.np s1)))) || (anyN (fdN s.H (pnV s.np s1) (pnV s.np (adB f n (pnM s.np s1)))) i || fdN s.H (pnV s.np s1) (pnV s.np (adB f n (pnM s.np s1))) i)) from rfl, ← Bool.or_assoc, hfd, e63]; rfl
                      have y := ih (i + 1) (by omega) (by omega)
                      rw [hz] at y
                      exact y
                    · have e96 : ((s.H 7 i)) = ((pnV s.np (adB f n (pnM s.np s1)))) := nI_inj (a := ((s.H 7 i))) (b := ((pnV s.np (adB f n (pnM s.np s1))))) (by omega) (by omega) h96
                      refine b_aload_n dX12_sayFeud_99 rfl rfl ?_
                      refine b_getR (b := 93) lf_X12_58 rfl rfl dX12_sayFeud_100 ?_
                      refine b_iload dX12_sayFeud_103 rfl ?_
                      refine b_ildN (j := (6 + i)) dX12_sayFeud_105 (rfl) (by show _ < 12; omega) ?_
                      refine b_topE (y := nI ((s.H 8 i))) ((W4.2.2.2.2.2.1 i (by omega)).2) ?_
                      refine b_iload_n dX12_sayFeud_106 rfl rfl ?_
                      refine b_icmp_ne (tgt := 114) dX12_sayFeud_107 (by decide) (fun h107 => ?_) (fun h107 => ?_)
                      · have e107 : ((s.H 8 i)) ≠ ((pnV s.np s1)) := fun q => h107 (congrArg nI q)
                        refine b_iconst (v := 0) dX12_sayFeud_114 (by decide +kernel) ?_
                        refine b_istore_n (lv' := [(0, _), (1, _), (2, _), (3, _), (4, _)]) dX12_sayFeud_115 rfl (by decide) rfl rfl ?_
                        refine b_incN (j := (6 + i)) (lv' := [(0, _), (1, _), (2, _), (3, _), (4, _)]) dX12_sayFeud_116 rfl rfl (by decide) rfl rfl ?_
                        refine b_goto (tgt := 47) dX12_sayFeud_119 (by decide) ?_
                        have hfd : fdN s.H (pnV s.np s1) (pnV s.np (adB f n (pnM s.np s1))) i = false := by
                          unfold fdN; simp only [Bool.or_eq_false_iff, Bool.and_eq_false_iff, beq_eq_false_iff_ne]; omega
                        have hz : (((pnV s.np s1) == (pnV s.np (adB f n (pnM s.np s1)))) || anyN (fdN s.H (pnV s.np s1) (pnV s.np (adB f n (pnM s.np s1)))) (i + 1)) = false := by rw [show (((pnV s.np s1) == (pnV s.np (adB f n (pnM s.np s1)))) || anyN (fdN s.H (pnV s.np s1) (pnV s.np (adB f n (pnM s.np s1)))) (i + 1)) = (((pnV s.np s1) == (pnV s.np (adB f n (pnM s.np s1)))) || (anyN (fdN s.H (pnV s.np s1) (pnV s.np (adB f n (pnM s.np s1)))) i || fdN s.H (pnV s.np s1) (pnV s.np (adB f n (pnM s.np s1))) i)) from rfl, ← Bool.or_assoc, hfd, e63]; rfl
                        have y := ih (i + 1) (by omega) (by omega)
                        rw [hz] at y
                        exact y
                      · have e107 : ((s.H 8 i)) = ((pnV s.np s1)) := nI_inj (a := ((s.H 8 i))) (b := ((pnV s.np s1))) (by omega) (by omega) h107
                        refine b_iconst (v := 1) dX12_sayFeud_110 (by decide +kernel) ?_
                        refine b_goto (tgt := 115) dX12_sayFeud_111 (by decide) ?_
                        refine b_istore_n (lv' := [(0, _), (1, _), (2, _), (3, _), (4, _)]) dX12_sayFeud_115 rfl (by decide) rfl rfl ?_
                        refine b_incN (j := (6 + i)) (lv' := [(0, _), (1, _), (2, _), (3, _), (4, _)]) dX12_sayFeud_116 rfl rfl (by decide) rfl rfl ?_
                        refine b_goto (tgt := 47) dX12_sayFeud_119 (by decide) ?_
                        have hfd : fdN s.H (pnV s.np s1) (pnV s.np (adB f n (pnM s.np s1))) i = true := by
                          unfold fdN; simp only [Bool.or_eq_true, Bool.and_eq_true, beq_iff_eq]; omega
                        have hz : (((pnV s.np s1) == (pnV s.np (adB f n (pnM s.np s1)))) || anyN (fdN s.H (pnV s.np s1) (pnV s.np (adB f n (pnM s.np s1)))) (i + 1)) = true := by rw [show (((pnV s.np s1) == (pnV s.np (adB f n (pnM s.np s1)))) || anyN (fdN s.H (pnV s.np s1) (pnV s.np (adB f n (pnM s.np s1)))) (i + 1)) = (((pnV s.np s1) == (pnV s.np (adB f n (pnM s.np s1)))) || (anyN (fdN s.H (pnV s.np s1) (pnV s.np (adB f n (pnM s.np s1)))) i || fdN s.H (pnV s.np s1) (pnV s.np (adB f n (pnM s.np s1))) i)) from rfl, ← Bool.or_assoc, hfd, Bool.or_true]
                        have y := ih (i + 1) (by omega) (by omega)
                        rw [hz] at y
                        exact y
          have hz : (((pnV s.np s1) == (pnV s.np (adB f n (pnM s.np s1)))) || anyN (fdN s.H (pnV s.np s1) (pnV s.np (adB f n (pnM s.np s1)))) 0) = false := by rw [show ((pnV s.np s1) == (pnV s.np (adB f n (pnM s.np s1)))) = false from beq_eq_false_iff_ne.mpr e34]; rfl
          have y := L 0 (Nat.zero_le _)
          rw [hz] at y
          exact y
        · have e34 : ((pnV s.np s1)) = ((pnV s.np (adB f n (pnM s.np s1)))) := nI_inj (a := ((pnV s.np s1))) (b := ((pnV s.np (adB f n (pnM s.np s1))))) (by omega) (by omega) h34
          refine b_iconst (v := 1) dX12_sayFeud_37 (by decide +kernel) ?_
          refine b_goto (tgt := 42) dX12_sayFeud_38 (by decide) ?_
          refine b_istore_n (lv' := [(0, _), (1, _), (2, _), (3, _)]) dX12_sayFeud_42 rfl (by decide) rfl rfl ?_
          refine b_bipush (v := 6) dX12_sayFeud_43 (by decide +kernel) ?_
          refine b_istore (lv' := [(0, _), (1, _), (2, _), (3, _), (4, _)]) dX12_sayFeud_45 (by decide) rfl rfl ?_
          have K149 : ∀ (h : G2) (i : Nat) (z : Int32), FP h4 h → RMs h f n (mF6 f n s.np (fun a b => (a == b) || anyN (fdN s.H a b) s.nf) s1) → B E md_X12_sayFeud (d + 3) Q X 149 [(0, .ref 84), (1, .int (nI (pnV s.np s1))), (2, .int (nI (pnV s.np (adB f n (pnM s.np s1))))), (3, .int z), (4, .int (nI (6 + i)))] [] h 0 := by
            intro h i z F R
            have e6 : h 87 6 = nI s.nf := (W4.fp F).2.1
            have F := (F0.tr F4).tr F
            refine b_aload_n dX12_sayFeud_149 rfl rfl ?_
            refine b_getR (b := 92) lf_X12_55 rfl rfl dX12_sayFeud_150 ?_
            refine b_bipush (v := 6) dX12_sayFeud_153 (by decide +kernel) ?_
            refine b_aload_n dX12_sayFeud_155 rfl rfl ?_
            refine b_getR (b := 87) lf_X12_40 rfl rfl dX12_sayFeud_156 ?_
            refine b_bipush (v := 6) dX12_sayFeud_159 (by decide +kernel) ?_
            refine b_ildN (j := 6) dX12_sayFeud_161 (rfl) (by show _ < 10; omega) ?_
            refine b_topE (e6) ?_
            refine b_iadd dX12_sayFeud_162 ?_
            refine b_topE (nI_add 6 s.nf) ?_
            refine b_iload_n dX12_sayFeud_163 rfl rfl ?_
            refine b_istN (j := (6 + s.nf)) dX12_sayFeud_164 (rfl) (by show _ < 12; exact hlt) ?_
            refine b_aload_n dX12_sayFeud_165 rfl rfl ?_
            refine b_getR (b := 93) lf_X12_58 rfl rfl dX12_sayFeud_166 ?_
            refine b_bipush (v := 6) dX12_sayFeud_169 (by decide +kernel) ?_
            refine b_aload_n dX12_sayFeud_171 rfl rfl ?_
            refine b_getR (b := 87) lf_X12_40 rfl rfl dX12_sayFeud_172 ?_
            refine b_bipush (v := 6) dX12_sayFeud_175 (by decide +kernel) ?_
            refine b_ildN (j := 6) dX12_sayFeud_177 (rfl) (by show _ < 10; omega) ?_
            refine b_topE (y := nI s.nf) (by rw [up2_a _ _ _ _ (by decide)]; exact e6) ?_
            refine b_iadd dX12_sayFeud_178 ?_
            refine b_topE (nI_add 6 s.nf) ?_
            refine b_iload_n dX12_sayFeud_179 rfl rfl ?_
            refine b_istN (j := (6 + s.nf)) dX12_sayFeud_180 (rfl) (by show _ < 12; exact hlt) ?_
            refine b_aload_n dX12_sayFeud_181 rfl rfl ?_
            refine b_getR (b := 87) lf_X12_40 rfl rfl dX12_sayFeud_182 ?_
            refine b_bipush (v := 6) dX12_sayFeud_185 (by decide +kernel) ?_
            refine b_dup2 dX12_sayFeud_187 rfl rfl ?_
            refine b_ildN (j := 6) dX12_sayFeud_188 (rfl) (by show _ < 10; omega) ?_
            refine b_topE (y := nI s.nf) (by rw [up2_a _ _ _ _ (by decide), up2_a _ _ _ _ (by decide)]; exact e6) ?_
            refine b_iconst (v := 1) dX12_sayFeud_189 (by decide +kernel) ?_
            refine b_iadd dX12_sayFeud_190 ?_
            refine b_topE (nI_add s.nf 1) ?_
            refine b_istN (j := 6) dX12_sayFeud_191 (rfl) (by show _ < 10; omega) ?_
            refine b_vret rfl (by decide) dX12_sayFeud_192 ?_
            have eF := F1.tr (F2.tr F)
            have hF : FMl g (up2 (up2 (up2 h 92 (6 + s.nf) (nI (pnV s.np s1))) 93 (6 + s.nf) (nI (pnV s.np (adB f n (pnM s.np s1))))) 87 6 (nI (s.nf + 1))) := (((FMl.fp eF).tr (FMl.up (by decide) (by decide) (Nat.le_add_right 6 _))).tr (FMl.up (by decide) (by decide) (Nat.le_add_right 6 _))).tr (FMl.up (by decide) (by decide) (by decide))
            have R7 : RMs (up2 (up2 (up2 h 92 (6 + s.nf) (nI (pnV s.np s1))) 93 (6 + s.nf) (nI (pnV s.np (adB f n (pnM s.np s1))))) 87 6 (nI (s.nf + 1))) f n (mF6 f n s.np (fun a b => (a == b) || anyN (fdN s.H a b) s.nf) s1) := ((R.up (by decide) (by decide) (by decide) (fun e => absurd e (by decide))).up (by decide) (by decide) (by decide) (fun e => absurd e (by decide))).up (by decide) (by decide) (by decide) (fun _ => by decide)
            rcases hLM with ⟨l1, l2, l3⟩ | ⟨l1, va, vb, l2, l3, l5, l6⟩
            · exact hq.2 _ l1 hF ⟨_, l2, l3, R7⟩
            · refine hq.1 _ l1 hF ?_
              rw [l5]
              rw [l6] at R7
              refine ⟨R7, ?_⟩
              rw [← l2, ← l3]
              refine RWr.feud hM.2 ?_ ?_ (up2_s _ _ _ _) (fun i a b => ?_) (fun z a b => ?_) ?_
              · rw [up2_f _ _ _ _ (by decide), up2_f _ _ _ _ (by decide), up2_u, eF.1 92 (by decide) (by decide) (by decide)]
              · rw [up2_f _ _ _ _ (by decide), up2_u, up2_f _ _ _ _ (by decide), eF.1 93 (by decide) (by decide) (by decide)]
              · rw [up2_k _ _ _ _ a, up2_a _ _ _ _ (by decide), up2_a _ _ _ _ (by decide), eF.2.2.1 i b]
              · rw [up2_f _ _ _ _ (by omega), up2_f _ _ _ _ (by omega), up2_f _ _ _ _ (by omega), eF.1 z (by omega) (by omega) (by omega)]
              · rw [up2_f _ _ _ _ (by decide), up2_f _ _ _ _ (by decide), up2_f _ _ _ _ (by decide), eF.1 94 (by decide) (by decide) (by decide)]
          have K138 : ∀ (h : G2) (s5 : MS) (i : Nat) (z : Int32), FP h4 h → RMs h f n s5 → adB f n s5 = (mF6 f n s.np (fun a b => (a == b) || anyN (fdN s.H a b) s.nf) s1) → B E md_X12_sayFeud (d + 3) Q X 138 [(0, .ref 84), (1, .int (nI (pnV s.np s1))), (2, .int (nI (pnV s.np (adB f n (pnM s.np s1))))), (3, .int z), (4, .int (nI (6 + i)))] [] h 0 := by
            intro h s5 i z F R e5
            have hb7 := R.2.2.2.2.1
            refine b_aload_n dX12_sayFeud_138 rfl rfl ?_
            refine b_getI lf_X12_214 rfl dX12_sayFeud_139 ?_
            refine b_topE (R.2.2.2.1) ?_
            refine b_if_ne (tgt := 149) dX12_sayFeud_142 (by decide) (fun h142 => ?_) (fun h142 => ?_)
            · have e142 : s5.bad ≠ 0 := fun q => h142 (by rw [q]; rfl)
              exact K149 h i z F (by rw [← e5, adB_b e142]; exact R)
            · have e142 : s5.bad = 0 := nI_inj (b := 0) (by omega) (by decide) h142
              refine b_aload_n dX12_sayFeud_145 rfl rfl ?_
              refine b_callV (As := []) (st := []) dX12_sayFeud_146 lk_X12_239 lm_X12_stepOn lv_X12_stepOn rfl (by decide) rfl rfl rfl (Nat.le_of_ble_eq_true rfl) (Nat.le_refl _) (by decide) ?_
              refine c_X12_stepOn R.1 R.2.1.1 R.2.2.1.ok.1 (fun h6 F6 T6 => ?_)
              exact K149 h6 i z (F.tr F6.fp) (by rw [← e5, show adB f n s5 = adv f n s5 from if_pos e142]; exact R.adv F6 T6)
          have L : ∀ i, i ≤ s.nf → B E md_X12_sayFeud (d + 3) Q X 47 [(0, .ref 84), (1, .int (nI (pnV s.np s1))), (2, .int (nI (pnV s.np (adB f n (pnM s.np s1))))), (3, .int (b2i (((pnV s.np s1) == (pnV s.np (adB f n (pnM s.np s1)))) || anyN (fdN s.H (pnV s.np s1) (pnV s.np (adB f n (pnM s.np s1)))) i))), (4, .int (nI (6 + i)))] [] h4 0 := by
            refine lp_up (fun i hi ih => ?_)
            refine b_iload dX12_sayFeud_47 rfl ?_
            refine b_bipush (v := 6) dX12_sayFeud_49 (by decide +kernel) ?_
            refine b_aload_n dX12_sayFeud_51 rfl rfl ?_
            refine b_getR (b := 87) lf_X12_40 rfl rfl dX12_sayFeud_52 ?_
            refine b_bipush (v := 6) dX12_sayFeud_55 (by decide +kernel) ?_
            refine b_ildN (j := 6) dX12_sayFeud_57 (rfl) (by show _ < 10; omega) ?_
            refine b_topE (W4.2.1) ?_
            refine b_iadd dX12_sayFeud_58 ?_
            refine b_topE (nI_add 6 s.nf) ?_
            refine b_icmp_ge (tgt := 122) dX12_sayFeud_59 (by decide) (fun h59 => ?_) (fun h59 => ?_)
            · have e59 : ((6 + s.nf)) ≤ ((6 + i)) := nn_le (a := ((6 + s.nf))) (b := ((6 + i))) (by omega) (by omega) h59
              have z : i = s.nf := by omega
              subst z
              refine b_aload_n dX12_sayFeud_122 rfl rfl ?_
              refine b_getI lf_X12_214 rfl dX12_sayFeud_123 ?_
              refine b_topE (R4.2.2.2.1) ?_
              refine b_if_ne (tgt := 138) dX12_sayFeud_126 (by decide) (fun h126 => ?_) (fun h126 => ?_)
              · have e126 : ((mF4 f n s.np s1).bad) ≠ 0 := fun q => h126 (by rw [q]; rfl)
                exact K138 h4 _ s.nf _ (FP.rf h4) R4 (by unfold mF6; rw [if_neg (fun q => e126 q.1)])
              · have e126 : ((mF4 f n s.np s1).bad) = 0 := nI_inj (b := 0) (by omega) (by decide) h126
                refine b_iload_n dX12_sayFeud_129 rfl rfl ?_
                refine b_if_eq (tgt := 138) dX12_sayFeud_130 (by decide) (fun h130 => ?_) (fun h130 => ?_)
                · have e130 := b2i_0 h130
                  exact K138 h4 _ s.nf _ (FP.rf h4) R4 (by unfold mF6; rw [if_neg (fun q => by have := q.2.symm.trans e130; cases this)])
                · have e130 := b2i_1 h130
                  refine b_aload_n dX12_sayFeud_133 rfl rfl ?_
                  refine b_iconst (v := 4) dX12_sayFeud_134 (by decide +kernel) ?_
                  refine b_callV (As := [_]) (st := []) dX12_sayFeud_135 lk_X12_235 lm_X12_wrong lv_X12_wrong rfl (by decide) rfl rfl rfl (Nat.le_of_ble_eq_true rfl) (Nat.le_refl _) (by decide) ?_
                  refine c_X12_wrong (k := 4) R4 (by decide) (fun h5 F5 R5 => ?_)
                  exact K138 h5 _ s.nf _ F5 R5 (by unfold mF6; rw [if_pos ⟨e126, e130⟩])
            · have e59 : ((6 + i)) < ((6 + s.nf)) := nn_nle (a := ((6 + s.nf))) (b := ((6 + i))) (by omega) (by omega) h59
              have hHi := hO.2.2.2.2.2.2.1 i (by omega)
              refine b_iload_n dX12_sayFeud_62 rfl rfl ?_
              refine b_if_ne (tgt := 110) dX12_sayFeud_63 (by decide) (fun h63 => ?_) (fun h63 => ?_)
              · have e63 := b2i_1 h63
                refine b_iconst (v := 1) dX12_sayFeud_110 (by decide +kernel) ?_
                refine b_goto (tgt := 115) dX12_sayFeud_111 (by decide) ?_
                refine b_istore_n (lv' := [(0, _), (1, _), (2, _), (3, _), (4, _)]) dX12_sayFeud_115 rfl (by decide) rfl rfl ?_
                refine b_incN (j := (6 + i)) (lv' := [(0, _), (1, _), (2, _), (3, _), (4, _)]) dX12_sayFeud_116 rfl rfl (by decide) rfl rfl ?_
                refine b_goto (tgt := 47) dX12_sayFeud_119 (by decide) ?_
                have hz : (((pnV s.np s1) == (pnV s.np (adB f n (pnM s.np s1)))) || anyN (fdN s.H (pnV s.np s1) (pnV s.np (adB f n (pnM s.np s1)))) (i + 1)) = true := by rw [show (((pnV s.np s1) == (pnV s.np (adB f n (pnM s.np s1)))) || anyN (fdN s.H (pnV s.np s1) (pnV s.np (adB f n (pnM s.np s1)))) (i + 1)) = (((pnV s.np s1) == (pnV s.np (adB f n (pnM s.np s1)))) || (anyN (fdN s.H (pnV s.np s1) (pnV s.np (adB f n (pnM s.np s1)))) i || fdN s.H (pnV s.np s1) (pnV s.np (adB f n (pnM s.np s1))) i)) from rfl, ← Bool.or_assoc, e63, Bool.true_or]
                have y := ih (i + 1) (by omega) (by omega)
                rw [hz] at y
                exact y
              · have e63 := b2i_0 h63
                refine b_aload_n dX12_sayFeud_66 rfl rfl ?_
                refine b_getR (b := 92) lf_X12_55 rfl rfl dX12_sayFeud_67 ?_
                refine b_iload dX12_sayFeud_70 rfl ?_
                refine b_ildN (j := (6 + i)) dX12_sayFeud_72 (rfl) (by show _ < 12; omega) ?_
                refine b_topE (y := nI ((s.H 7 i))) ((W4.2.2.2.2.2.1 i (by omega)).1) ?_
                refine b_iload_n dX12_sayFeud_73 rfl rfl ?_
                refine b_icmp_ne (tgt := 88) dX12_sayFeud_74 (by decide) (fun h74 => ?_) (fun h74 => ?_)
                · have e74 : ((s.H 7 i)) ≠ ((pnV s.np s1)) := fun q => h74 (congrArg nI q)
                  refine b_aload_n dX12_sayFeud_88 rfl rfl ?_
                  refine b_getR (b := 92) lf_X12_55 rfl rfl dX12_sayFeud_89 ?_
                  refine b_iload dX12_sayFeud_92 rfl ?_
                  refine b_ildN (j := (6 + i)) dX12_sayFeud_94 (rfl) (by show _ < 12; omega) ?_
                  refine b_topE (y := nI ((s.H 7 i))) ((W4.2.2.2.2.2.1 i (by omega)).1) ?_
                  refine b_iload_n dX12_sayFeud_95 rfl rfl ?_
                  refine b_icmp_ne (tgt := 114) dX12_sayFeud_96 (by decide) (fun h96 => ?_) (fun h96 => ?_)
                  · have e96 : ((s.H 7 i)) ≠ ((pnV s.np (adB f n (pnM s.np s1)))) := fun q => h96 (congrArg nI q)
                    refine b_iconst (v := 0) dX12_sayFeud_114 (by decide +kernel) ?_
                    refine b_istore_n (lv' := [(0, _), (1, _), (2, _), (3, _), (4, _)]) dX12_sayFeud_115 rfl (by decide) rfl rfl ?_
                    refine b_incN (j := (6 + i)) (lv' := [(0, _), (1, _), (2, _), (3, _), (4, _)]) dX12_sayFeud_116 rfl rfl (by decide) rfl rfl ?_
                    refine b_goto (tgt := 47) dX12_sayFeud_119 (by decide) ?_
                    have hfd : fdN s.H (pnV s.np s1) (pnV s.np (adB f n (pnM s.np s1))) i = false := by
                      unfold fdN; simp only [Bool.or_eq_false_iff, Bool.and_eq_false_iff, beq_eq_false_iff_ne]; omega
                    have hz : (((pnV s.np s1) == (pnV s.np (adB f n (pnM s.np s1)))) || anyN (fdN s.H (pnV s.np s1) (pnV s.np (adB f n (pnM s.np s1)))) (i + 1)) = false := by rw [show (((pnV s.np s1) == (pnV s.np (adB f n (pnM s.np s1)))) || anyN (fdN s.H (pnV s.np s1) (pnV s.np (adB f n (pnM s.np s1)))) (i + 1)) = (((pnV s.np s1) == (pnV s.np (adB f n (pnM s.np s1)))) || (anyN (fdN s.H (pnV s.np s1) (pnV s.np (adB f n (pnM s.np s1)))) i || fdN s.H (pnV s.np s1) (pnV s.np (adB f n (pnM s.np s1))) i)) from rfl, ← Bool.or_assoc, hfd, e63]; rfl
                    have y := ih (i + 1) (by omega) (by omega)
                    rw [hz] at y
                    exact y
                  · have e96 : ((s.H 7 i)) = ((pnV s.np (adB f n (pnM s.np s1)))) := nI_inj (a := ((s.H 7 i))) (b := ((pnV s.np (adB f n (pnM s.np s1))))) (by omega) (by omega) h96
                    refine b_aload_n dX12_sayFeud_99 rfl rfl ?_
                    refine b_getR (b := 93) lf_X12_58 rfl rfl dX12_sayFeud_100 ?_
                    refine b_iload dX12_sayFeud_103 rfl ?_
                    refine b_ildN (j := (6 + i)) dX12_sayFeud_105 (rfl) (by show _ < 12; omega) ?_
                    refine b_topE (y := nI ((s.H 8 i))) ((W4.2.2.2.2.2.1 i (by omega)).2) ?_
                    refine b_iload_n dX12_sayFeud_106 rfl rfl ?_
                    refine b_icmp_ne (tgt := 114) dX12_sayFeud_107 (by decide) (fun h107 => ?_) (fun h107 => ?_)
                    · have e107 : ((s.H 8 i)) ≠ ((pnV s.np s1)) := fun q => h107 (congrArg nI q)
                      refine b_iconst (v := 0) dX12_sayFeud_114 (by decide +kernel) ?_
                      refine b_istore_n (lv' := [(0, _), (1, _), (2, _), (3, _), (4, _)]) dX12_sayFeud_115 rfl (by decide) rfl rfl ?_
                      refine b_incN (j := (6 + i)) (lv' := [(0, _), (1, _), (2, _), (3, _), (4, _)]) dX12_sayFeud_116 rfl rfl (by decide) rfl rfl ?_
                      refine b_goto (tgt := 47) dX12_sayFeud_119 (by decide) ?_
                      have hfd : fdN s.H (pnV s.np s1) (pnV s.np (adB f n (pnM s.np s1))) i = false := by
                        unfold fdN; simp only [Bool.or_eq_false_iff, Bool.and_eq_false_iff, beq_eq_false_iff_ne]; omega
                      have hz : (((pnV s.np s1) == (pnV s.np (adB f n (pnM s.np s1)))) || anyN (fdN s.H (pnV s.np s1) (pnV s.np (adB f n (pnM s.np s1)))) (i + 1)) = false := by rw [show (((pnV s.np s1) == (pnV s.np (adB f n (pnM s.np s1)))) || anyN (fdN s.H (pnV s.np s1) (pnV s.np (adB f n (pnM s.np s1)))) (i + 1)) = (((pnV s.np s1) == (pnV s.np (adB f n (pnM s.np s1)))) || (anyN (fdN s.H (pnV s.np s1) (pnV s.np (adB f n (pnM s.np s1)))) i || fdN s.H (pnV s.np s1) (pnV s.np (adB f n (pnM s.np s1))) i)) from rfl, ← Bool.or_assoc, hfd, e63]; rfl
                      have y := ih (i + 1) (by omega) (by omega)
                      rw [hz] at y
                      exact y
                    · have e107 : ((s.H 8 i)) = ((pnV s.np s1)) := nI_inj (a := ((s.H 8 i))) (b := ((pnV s.np s1))) (by omega) (by omega) h107
                      refine b_iconst (v := 1) dX12_sayFeud_110 (by decide +kernel) ?_
                      refine b_goto (tgt := 115) dX12_sayFeud_111 (by decide) ?_
                      refine b_istore_n (lv' := [(0, _), (1, _), (2, _), (3, _), (4, _)]) dX12_sayFeud_115 rfl (by decide) rfl rfl ?_
                      refine b_incN (j := (6 + i)) (lv' := [(0, _), (1, _), (2, _), (3, _), (4, _)]) dX12_sayFeud_116 rfl rfl (by decide) rfl rfl ?_
                      refine b_goto (tgt := 47) dX12_sayFeud_119 (by decide) ?_
                      have hfd : fdN s.H (pnV s.np s1) (pnV s.np (adB f n (pnM s.np s1))) i = true := by
                        unfold fdN; simp only [Bool.or_eq_true, Bool.and_eq_true, beq_iff_eq]; omega
                      have hz : (((pnV s.np s1) == (pnV s.np (adB f n (pnM s.np s1)))) || anyN (fdN s.H (pnV s.np s1) (pnV s.np (adB f n (pnM s.np s1)))) (i + 1)) = true := by rw [show (((pnV s.np s1) == (pnV s.np (adB f n (pnM s.np s1)))) || anyN (fdN s.H (pnV s.np s1) (pnV s.np (adB f n (pnM s.np s1)))) (i + 1)) = (((pnV s.np s1) == (pnV s.np (adB f n (pnM s.np s1)))) || (anyN (fdN s.H (pnV s.np s1) (pnV s.np (adB f n (pnM s.np s1)))) i || fdN s.H (pnV s.np s1) (pnV s.np (adB f n (pnM s.np s1))) i)) from rfl, ← Bool.or_assoc, hfd, Bool.or_true]
                      have y := ih (i + 1) (by omega) (by omega)
                      rw [hz] at y
                      exact y
                · have e74 : ((s.H 7 i)) = ((pnV s.np s1)) := nI_inj (a := ((s.H 7 i))) (b := ((pnV s.np s1))) (by omega) (by omega) h74
                  refine b_aload_n dX12_sayFeud_77 rfl rfl ?_
                  refine b_getR (b := 93) lf_X12_58 rfl rfl dX12_sayFeud_78 ?_
                  refine b_iload dX12_sayFeud_81 rfl ?_
                  refine b_ildN (j := (6 + i)) dX12_sayFeud_83 (rfl) (by show _ < 12; omega) ?_
                  refine b_topE (y := nI ((s.H 8 i))) ((W4.2.2.2.2.2.1 i (by omega)).2) ?_
                  refine b_iload_n dX12_sayFeud_84 rfl rfl ?_
                  refine b_icmp_eq (tgt := 110) dX12_sayFeud_85 (by decide) (fun h85 => ?_) (fun h85 => ?_)
                  · have e85 : ((s.H 8 i)) = ((pnV s.np (adB f n (pnM s.np s1)))) := nI_inj (a := ((s.H 8 i))) (b := ((pnV s.np (adB f n (pnM s.np s1))))) (by omega) (by omega) h85
                    refine b_iconst (v := 1) dX12_sayFeud_110 (by decide +kernel) ?_
                    refine b_goto (tgt := 115) dX12_sayFeud_111 (by decide) ?_
                    refine b_istore_n (lv' := [(0, _), (1, _), (2, _), (3, _), (4, _)]) dX12_sayFeud_115 rfl (by decide) rfl rfl ?_
                    refine b_incN (j := (6 + i)) (lv' := [(0, _), (1, _), (2, _), (3, _), (4, _)]) dX12_sayFeud_116 rfl rfl (by decide) rfl rfl ?_
                    refine b_goto (tgt := 47) dX12_sayFeud_119 (by decide) ?_
                    have hfd : fdN s.H (pnV s.np s1) (pnV s.np (adB f n (pnM s.np s1))) i = true := by
                      unfold fdN; simp only [Bool.or_eq_true, Bool.and_eq_true, beq_iff_eq]; omega
                    have hz : (((pnV s.np s1) == (pnV s.np (adB f n (pnM s.np s1)))) || anyN (fdN s.H (pnV s.np s1) (pnV s.np (adB f n (pnM s.np s1)))) (i + 1)) = true := by rw [show (((pnV s.np s1) == (pnV s.np (adB f n (pnM s.np s1)))) || anyN (fdN s.H (pnV s.np s1) (pnV s.np (adB f n (pnM s.np s1)))) (i + 1)) = (((pnV s.np s1) == (pnV s.np (adB f n (pnM s.np s1)))) || (anyN (fdN s.H (pnV s.np s1) (pnV s.np (adB f n (pnM s.np s1)))) i || fdN s.H (pnV s.np s1) (pnV s.np (adB f n (pnM s.np s1))) i)) from rfl, ← Bool.or_assoc, hfd, Bool.or_true]
                    have y := ih (i + 1) (by omega) (by omega)
                    rw [hz] at y
                    exact y
                  · have e85 : ((s.H 8 i)) ≠ ((pnV s.np (adB f n (pnM s.np s1)))) := fun q => h85 (congrArg nI q)
                    refine b_aload_n dX12_sayFeud_88 rfl rfl ?_
                    refine b_getR (b := 92) lf_X12_55 rfl rfl dX12_sayFeud_89 ?_
                    refine b_iload dX12_sayFeud_92 rfl ?_
                    refine b_ildN (j := (6 + i)) dX12_sayFeud_94 (rfl) (by show _ < 12; omega) ?_
                    refine b_topE (y := nI ((s.H 7 i))) ((W4.2.2.2.2.2.1 i (by omega)).1) ?_
                    refine b_iload_n dX12_sayFeud_95 rfl rfl ?_
                    refine b_icmp_ne (tgt := 114) dX12_sayFeud_96 (by decide) (fun h96 => ?_) (fun h96 => ?_)
                    · have e96 : ((s.H 7 i)) ≠ ((pnV s.np (adB f n (pnM s.np s1)))) := fun q => h96 (congrArg nI q)
                      refine b_iconst (v := 0) dX12_sayFeud_114 (by decide +kernel) ?_
                      refine b_istore_n (lv' := [(0, _), (1, _), (2, _), (3, _), (4, _)]) dX12_sayFeud_115 rfl (by decide) rfl rfl ?_
                      refine b_incN (j := (6 + i)) (lv' := [(0, _), (1, _), (2, _), (3, _), (4, _)]) dX12_sayFeud_116 rfl rfl (by decide) rfl rfl ?_
                      refine b_goto (tgt := 47) dX12_sayFeud_119 (by decide) ?_
                      have hfd : fdN s.H (pnV s.np s1) (pnV s.np (adB f n (pnM s.np s1))) i = false := by
                        unfold fdN; simp only [Bool.or_eq_false_iff, Bool.and_eq_false_iff, beq_eq_false_iff_ne]; omega
                      have hz : (((pnV s.np s1) == (pnV s.np (adB f n (pnM s.np s1)))) || anyN (fdN s.H (pnV s.np s1) (pnV s.np (adB f n (pnM s.np s1)))) (i + 1)) = false := by rw [show (((pnV s.np s1) == (pnV s.np (adB f n (pnM s.np s1)))) || anyN (fdN s.H (pnV s.np s1) (pnV s.np (adB f n (pnM s.np s1)))) (i + 1)) = (((pnV s.np s1) == (pnV s.np (adB f n (pnM s.np s1)))) || (anyN (fdN s.H (pnV s.np s1) (pnV s.np (adB f n (pnM s.np s1)))) i || fdN s.H (pnV s.np s1) (pnV s.np (adB f n (pnM s.np s1))) i)) from rfl, ← Bool.or_assoc, hfd, e63]; rfl
                      have y := ih (i + 1) (by omega) (by omega)
                      rw [hz] at y
                      exact y
                    · have e96 : ((s.H 7 i)) = ((pnV s.np (adB f n (pnM s.np s1)))) := nI_inj (a := ((s.H 7 i))) (b := ((pnV s.np (adB f n (pnM s.np s1))))) (by omega) (by omega) h96
                      refine b_aload_n dX12_sayFeud_99 rfl rfl ?_
                      refine b_getR (b := 93) lf_X12_58 rfl rfl dX12_sayFeud_100 ?_
                      refine b_iload dX12_sayFeud_103 rfl ?_
                      refine b_ildN (j := (6 + i)) dX12_sayFeud_105 (rfl) (by show _ < 12; omega) ?_
                      refine b_topE (y := nI ((s.H 8 i))) ((W4.2.2.2.2.2.1 i (by omega)).2) ?_
                      refine b_iload_n dX12_sayFeud_106 rfl rfl ?_
                      refine b_icmp_ne (tgt := 114) dX12_sayFeud_107 (by decide) (fun h107 => ?_) (fun h107 => ?_)
                      · have e107 : ((s.H 8 i)) ≠ ((pnV s.np s1)) := fun q => h107 (congrArg nI q)
                        refine b_iconst (v := 0) dX12_sayFeud_114 (by decide +kernel) ?_
                        refine b_istore_n (lv' := [(0, _), (1, _), (2, _), (3, _), (4, _)]) dX12_sayFeud_115 rfl (by decide) rfl rfl ?_
                        refine b_incN (j := (6 + i)) (lv' := [(0, _), (1, _), (2, _), (3, _), (4, _)]) dX12_sayFeud_116 rfl rfl (by decide) rfl rfl ?_
                        refine b_goto (tgt := 47) dX12_sayFeud_119 (by decide) ?_
                        have hfd : fdN s.H (pnV s.np s1) (pnV s.np (adB f n (pnM s.np s1))) i = false := by
                          unfold fdN; simp only [Bool.or_eq_false_iff, Bool.and_eq_false_iff, beq_eq_false_iff_ne]; omega
                        have hz : (((pnV s.np s1) == (pnV s.np (adB f n (pnM s.np s1)))) || anyN (fdN s.H (pnV s.np s1) (pnV s.np (adB f n (pnM s.np s1)))) (i + 1)) = false := by rw [show (((pnV s.np s1) == (pnV s.np (adB f n (pnM s.np s1)))) || anyN (fdN s.H (pnV s.np s1) (pnV s.np (adB f n (pnM s.np s1)))) (i + 1)) = (((pnV s.np s1) == (pnV s.np (adB f n (pnM s.np s1)))) || (anyN (fdN s.H (pnV s.np s1) (pnV s.np (adB f n (pnM s.np s1)))) i || fdN s.H (pnV s.np s1) (pnV s.np (adB f n (pnM s.np s1))) i)) from rfl, ← Bool.or_assoc, hfd, e63]; rfl
                        have y := ih (i + 1) (by omega) (by omega)
                        rw [hz] at y
                        exact y
                      · have e107 : ((s.H 8 i)) = ((pnV s.np s1)) := nI_inj (a := ((s.H 8 i))) (b := ((pnV s.np s1))) (by omega) (by omega) h107
                        refine b_iconst (v := 1) dX12_sayFeud_110 (by decide +kernel) ?_
                        refine b_goto (tgt := 115) dX12_sayFeud_111 (by decide) ?_
                        refine b_istore_n (lv' := [(0, _), (1, _), (2, _), (3, _), (4, _)]) dX12_sayFeud_115 rfl (by decide) rfl rfl ?_
                        refine b_incN (j := (6 + i)) (lv' := [(0, _), (1, _), (2, _), (3, _), (4, _)]) dX12_sayFeud_116 rfl rfl (by decide) rfl rfl ?_
                        refine b_goto (tgt := 47) dX12_sayFeud_119 (by decide) ?_
                        have hfd : fdN s.H (pnV s.np s1) (pnV s.np (adB f n (pnM s.np s1))) i = true := by
                          unfold fdN; simp only [Bool.or_eq_true, Bool.and_eq_true, beq_iff_eq]; omega
                        have hz : (((pnV s.np s1) == (pnV s.np (adB f n (pnM s.np s1)))) || anyN (fdN s.H (pnV s.np s1) (pnV s.np (adB f n (pnM s.np s1)))) (i + 1)) = true := by rw [show (((pnV s.np s1) == (pnV s.np (adB f n (pnM s.np s1)))) || anyN (fdN s.H (pnV s.np s1) (pnV s.np (adB f n (pnM s.np s1)))) (i + 1)) = (((pnV s.np s1) == (pnV s.np (adB f n (pnM s.np s1)))) || (anyN (fdN s.H (pnV s.np s1) (pnV s.np (adB f n (pnM s.np s1)))) i || fdN s.H (pnV s.np s1) (pnV s.np (adB f n (pnM s.np s1))) i)) from rfl, ← Bool.or_assoc, hfd, Bool.or_true]
                        have y := ih (i + 1) (by omega) (by omega)
                        rw [hz] at y
                        exact y
          have hz : (((pnV s.np s1) == (pnV s.np (adB f n (pnM s.np s1)))) || anyN (fdN s.H (pnV s.np s1) (pnV s.np (adB f n (pnM s.np s1)))) 0) = true := by rw [show ((pnV s.np s1) == (pnV s.np (adB f n (pnM s.np s1)))) = true from beq_iff_eq.mpr e34]; rfl
          have y := L 0 (Nat.zero_le _)
          rw [hz] at y
          exact y
      refine c_X12_personNow (np := s.np) R1 W1.1 h8 (fun h2 F2 R2 => ?_)
      have hb6 := R2.2.2.2.2.1
      refine b_istore_n (lv' := [(0, _), (1, _)]) dX12_sayFeud_15 rfl (by decide) rfl rfl ?_
      refine b_aload_n dX12_sayFeud_16 rfl rfl ?_
      refine b_getI lf_X12_214 rfl dX12_sayFeud_17 ?_
      refine b_topE (R2.2.2.2.1) ?_
      refine b_if_ne (tgt := 27) dX12_sayFeud_20 (by decide) (fun h20 => ?_) (fun h20 => ?_)
      · have e20 : ((pnM s.np s1).bad) ≠ 0 := fun q => h20 (by rw [q]; rfl)
        exact K27 h2 F2 (by rw [adB_b e20]; exact R2)
      · have e20 : ((pnM s.np s1).bad) = 0 := nI_inj (b := 0) (by omega) (by decide) h20
        refine b_aload_n dX12_sayFeud_23 rfl rfl ?_
        refine b_callV (As := []) (st := []) dX12_sayFeud_24 lk_X12_239 lm_X12_stepOn lv_X12_stepOn rfl (by decide) rfl rfl rfl (Nat.le_of_ble_eq_true rfl) (Nat.le_refl _) (by decide) ?_
        refine c_X12_stepOn R2.1 R2.2.1.1 R2.2.2.1.ok.1 (fun h3 F3 T3 => ?_)
        exact K27 h3 (F2.tr F3.fp) (by rw [show adB f n (pnM s.np s1) = adv f n (pnM s.np s1) from if_pos e20]; exact R2.adv F3 T3)
    · exact absurd h7 (by decide)
  · have z : lnF f n s = (2, s.t.pl, s) := by unfold lnF; rw [if_pos (by omega)]
    rw [z] at hq
    rw [wr_z] at R1
    refine b_if_ne (tgt := 11) dX12_sayFeud_7 (by decide) (fun h7 => ?_) (fun h7 => ?_)
    · exact absurd rfl h7
    · refine b_vret rfl (by decide) dX12_sayFeud_10 ?_
      exact hq.2 h1 (Nat.succ_ne_zero 1) (FMl.fp F1) ⟨_, rfl, rfl, R1⟩
