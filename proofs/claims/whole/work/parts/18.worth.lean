theorem stm_short {op : Int32} : ∀ {s : List Int32}, s.length ≤ 1 → (match s with | y :: z :: r => apC op z y :: r | s => s) = s
  | [], _ => rfl
  | [_], _ => rfl
  | _ :: _ :: _, h => absurd h (by simp)
theorem c_X8_worth {E : En} {d : Nat} {Q : QT} {X : XT} {g : G2} {a b t n p : Nat} (ha : is_rule a) (hb : is_life b) (ht : is_town t) (hp : p < 8) (hn : g a 1 = nI n) (h6 : n ≤ 600) (hq : ∀ g2, (∀ z, z ≠ a + 2 → g2 z = g z) → Q (some (.int (botS (evC (vlC g b t p) (g (a + 1)) n)))) g2) : M E md_X8_worth (d + 1) [.ref a, .ref t, .ref b, .int (nI p)] g Q X := by
  refine M.of _ rfl rfl (Nat.le_of_ble_eq_true rfl) ?_
  have hbr : b ≠ a + 2 ∧ b + 5 ≠ a + 2 ∧ b + 4 ≠ a + 2 ∧ b + 6 ≠ a + 2 ∧ t + 1 ≠ a + 2 := by unfold is_rule is_life is_town at *; omega
  have L : ∀ i, i ≤ n → ∀ h : G2, (∀ z, z ≠ a + 2 → h z = g z) → ∀ s : List Int32, s = evC (vlC g b t p) (g (a + 1)) i → rpS (h (a + 2)) s → s.length ≤ 64 → B E md_X8_worth (d + 1) Q X 6 [(0, .ref a), (1, .ref t), (2, .ref b), (3, .int (nI p)), (4, .int (nI s.length)), (5, .int (nI i))] [] h 0 := by
    refine lp_up (fun i hi ih h hb1 s hsE hs2 hs3 => ?_)
    have hn1 : h a 1 = nI n := by rw [hb1 a (by omega)]; exact hn
    have hc1 : h (a + 1) i = (g (a + 1) i) := by rw [hb1 (a + 1) (by omega)]
    have K : i < n → ∀ (s2 : List Int32) (h2 : G2), s2 = stC (vlC g b t p) (g (a + 1) i) s → (∀ z, z ≠ a + 2 → h2 z = g z) → rpS (h2 (a + 2)) s2 → s2.length ≤ 64 → B E md_X8_worth (d + 1) Q X 160 [(0, .ref a), (1, .ref t), (2, .ref b), (3, .int (nI p)), (4, .int (nI s2.length)), (5, .int (nI i)), (6, .int (g (a + 1) i))] [] h2 0 := by
      intro hin s2 h2 he hb2 hr2 hl2
      refine b_incN (j := i) (lv' := [(0, _), (1, _), (2, _), (3, _), (4, _), (5, _), (6, _)]) dX8_worth_160 rfl rfl (by decide) rfl rfl ?_
      refine b_goto (tgt := 6) dX8_worth_163 (by decide) ?_
      refine b_take 6 ?_
      exact ih (i + 1) (by omega) (by omega) h2 hb2 s2 (by rw [evC, ← hsE]; exact he) hr2 hl2
    refine b_iload dX8_worth_6 rfl ?_
    refine b_aload_n dX8_worth_8 rfl rfl ?_
    refine b_getI lf_X8_15 (rule_c ha) dX8_worth_9 ?_
    refine b_icmp_ge (tgt := 166) dX8_worth_12 (by decide) (fun h12 => ?_) (fun h12 => ?_)
    · have e : i = n := by have := (nI_leI (by omega) (by omega)).mp (hn1 ▸ h12); omega
      subst e
      refine b_iload dX8_worth_166 rfl ?_
      refine b_if_le (tgt := 180) dX8_worth_168 (by decide) (fun h168 => ?_) (fun h168 => ?_)
      · have hs0 : s = [] := by
          cases s with
          | nil => rfl
          | cons y r => exact absurd h168 (nI_nle (by simp) (by omega))
        refine b_iconst (v := 0) dX8_worth_180 (by decide +kernel) ?_
        refine b_iret rfl (by decide) dX8_worth_181 ?_
        have e9 := hq h hb1
        rw [← hsE, hs0] at e9
        exact e9
      · have hs0 : s ≠ [] := by
          intro q
          rw [q] at h168
          exact absurd (show nI 0 ≤ 0 from by decide +kernel) h168
        refine b_aload_n dX8_worth_171 rfl rfl ?_
        refine b_getR (b := (a + 2)) lf_X8_19 (rule_c ha) (rule_r2 ha) dX8_worth_172 ?_
        refine b_iconst (v := 0) dX8_worth_175 (by decide +kernel) ?_
        refine b_ildN (j := 0) dX8_worth_176 (rfl) (by rw [(rule_n2 ha)]; omega) ?_
        refine b_goto (tgt := 181) dX8_worth_177 (by decide) ?_
        refine b_iret rfl (by decide) dX8_worth_181 ?_
        rw [rpS_bot hs2 hs0, hsE]; exact hq h hb1
    · have e : i < n := by
        rcases Nat.lt_or_ge i n with q | q
        · exact q
        · exact absurd (hn1 ▸ (nI_leI (by omega) (by omega)).mpr q) h12
      refine b_aload_n dX8_worth_15 rfl rfl ?_
      refine b_getR (b := (a + 1)) lf_X8_9 (rule_c ha) (rule_r0 ha) dX8_worth_16 ?_
      refine b_iload dX8_worth_19 rfl ?_
      refine b_ildN (j := i) dX8_worth_21 (rfl) (by rw [(rule_n1 ha)]; omega) ?_
      refine b_topE (y := (g (a + 1) i)) hc1 ?_
      refine b_istore (lv' := [(0, _), (1, _), (2, _), (3, _), (4, _), (5, _), (6, _)]) dX8_worth_22 (by decide) rfl rfl ?_
      refine b_iload dX8_worth_24 rfl ?_
      refine b_if_ge (tgt := 37) dX8_worth_26 (by decide) (fun h26 => ?_) (fun h26 => ?_)
      · have hx : 0 ≤ (g (a + 1) i) := h26
        refine b_iload dX8_worth_37 rfl ?_
        refine b_aload_n dX8_worth_39 rfl rfl ?_
        refine b_getR (b := (a + 2)) lf_X8_19 (rule_c ha) (rule_r2 ha) dX8_worth_40 ?_
        refine b_ilen (n := 64) dX8_worth_43 (rule_n2 ha) (by decide) ?_
        refine b_icmp_ge (tgt := 160) dX8_worth_44 (by decide) (fun h44 => ?_) (fun h44 => ?_)
        · have hl64 : ¬ s.length < 64 := fun q => absurd ((nI_leI (a := 64) (by decide) (by omega)).mp h44) (by omega)
          exact K e s h (by unfold stC; rw [if_pos hx, if_neg hl64]) hb1 hs2 hs3
        · have hl64 : s.length < 64 := by
            rcases Nat.lt_or_ge s.length 64 with q | q
            · exact q
            · exact absurd ((nI_leI (a := 64) (by decide) (by omega)).mpr q) h44
          refine b_aload_n dX8_worth_47 rfl rfl ?_
          refine b_getR (b := (a + 2)) lf_X8_19 (rule_c ha) (rule_r2 ha) dX8_worth_48 ?_
          refine b_iload dX8_worth_51 rfl ?_
          refine b_iload dX8_worth_53 rfl ?_
          refine b_if_lt (tgt := 63) dX8_worth_55 (by decide) (fun h55 => ?_) (fun h55 => ?_)
          · exact absurd hx (Int32.not_le.mpr h55)
          · refine b_iload dX8_worth_58 rfl ?_
            refine b_goto (tgt := 72) dX8_worth_60 (by decide) ?_
            refine b_istN (j := s.length) dX8_worth_72 (rfl) (by rw [(rule_n2 ha)]; omega) ?_
            refine b_incN (j := s.length) (lv' := [(0, _), (1, _), (2, _), (3, _), (4, _), (5, _), (6, _)]) dX8_worth_73 rfl rfl (by decide) rfl rfl ?_
            refine b_goto (tgt := 160) dX8_worth_76 (by decide) ?_
            exact K e ((g (a + 1) i) :: s) _ (by unfold stC; rw [if_pos hx, if_pos hl64]) (fun z hz => by rw [up2_f _ _ _ _ hz]; exact hb1 z hz) ⟨by rw [up2_s], rpS_cg hs2 (fun j hj => up2_k _ _ _ _ (by omega))⟩ (by simp only [List.length_cons]; omega)
      · have hx : ¬ 0 ≤ (g (a + 1) i) := h26
        refine b_iload dX8_worth_29 rfl ?_
        refine b_ineg dX8_worth_31 ?_
        refine b_bipush (v := 110) dX8_worth_32 (by decide +kernel) ?_
        refine b_icmp_lt (tgt := 79) dX8_worth_34 (by decide) (fun h34 => ?_) (fun h34 => ?_)
        · have hy : ¬ 110 ≤ -(g (a + 1) i) := Int32.not_le.mpr h34
          refine b_iload dX8_worth_79 rfl ?_
          refine b_bipush (v := (-109)) dX8_worth_81 (by decide +kernel) ?_
          refine b_icmp_ne (tgt := 120) dX8_worth_83 (by decide) (fun h83 => ?_) (fun h83 => ?_)
          · have hz : ¬ (g (a + 1) i) = -109 := h83
            refine b_iload dX8_worth_120 rfl ?_
            refine b_iconst (v := 1) dX8_worth_122 (by decide +kernel) ?_
            refine b_icmp_le (tgt := 160) dX8_worth_123 (by decide) (fun h123 => ?_) (fun h123 => ?_)
            · have hsh : s.length ≤ 1 := (nI_leI (b := 1) (by omega) (by decide)).mp h123
              exact K e s h (by unfold stC; rw [if_neg hx, if_neg hy, if_neg hz]; exact (stm_short hsh).symm) hb1 hs2 hs3
            · obtain ⟨y, z, r, hs0⟩ : ∃ y z r, s = y :: z :: r := by
                cases s with
                | nil => exact absurd (show nI 0 ≤ 1 from by decide +kernel) h123
                | cons y r =>
                  cases r with
                  | nil => exact absurd (show nI 1 ≤ 1 from by decide +kernel) h123
                  | cons z r => exact ⟨y, z, r, rfl⟩
              have hlen : s.length = r.length + 2 := by rw [hs0]; rfl
              have hr : rpS (h (a + 2)) r := by rw [hs0] at hs2; exact hs2.2.2
              have hyv : h (a + 2) (r.length + 1) = y := by rw [hs0] at hs2; exact hs2.1
              have hzv : h (a + 2) r.length = z := by rw [hs0] at hs2; exact hs2.2.1
              refine b_decN (j := (r.length + 1)) (lv' := [(0, _), (1, _), (2, _), (3, _), (4, _), (5, _), (6, _)]) dX8_worth_126 rfl (by rw [hlen]) (by decide) rfl rfl ?_
              refine b_aload_n dX8_worth_129 rfl rfl ?_
              refine b_getR (b := (a + 2)) lf_X8_19 (rule_c ha) (rule_r2 ha) dX8_worth_130 ?_
              refine b_iload dX8_worth_133 rfl ?_
              refine b_iconst (v := 1) dX8_worth_135 (by decide +kernel) ?_
              refine b_isub dX8_worth_136 ?_
              refine b_iload dX8_worth_137 rfl ?_
              refine b_ineg dX8_worth_139 ?_
              refine b_aload_n dX8_worth_140 rfl rfl ?_
              refine b_getR (b := (a + 2)) lf_X8_19 (rule_c ha) (rule_r2 ha) dX8_worth_141 ?_
              refine b_iload dX8_worth_144 rfl ?_
              refine b_iconst (v := 1) dX8_worth_146 (by decide +kernel) ?_
              refine b_isub dX8_worth_147 ?_
              refine b_ildN (j := r.length) dX8_worth_148 (nI_pred _) (by rw [(rule_n2 ha)]; omega) ?_
              refine b_aload_n dX8_worth_149 rfl rfl ?_
              refine b_getR (b := (a + 2)) lf_X8_19 (rule_c ha) (rule_r2 ha) dX8_worth_150 ?_
              refine b_iload dX8_worth_153 rfl ?_
              refine b_ildN (j := (r.length + 1)) dX8_worth_155 (rfl) (by rw [(rule_n2 ha)]; omega) ?_
              refine b_callS (As := [_, _, _]) (st := [_, _]) dX8_worth_156 lk_X8_28 lm_X8_apply ls_X8_apply rfl rfl (Nat.le_of_ble_eq_true rfl) (Nat.le_refl _) (by decide) ?_
              refine c_X8_apply ?_
              have hv : apC (-(g (a + 1) i)) (h (a + 2) r.length) (h (a + 2) (r.length + 1)) = apC (-(g (a + 1) i)) z y := by rw [hyv, hzv]
              refine b_istN (j := r.length) dX8_worth_159 (nI_pred _) (by rw [(rule_n2 ha)]; omega) ?_
              exact K e (apC (-(g (a + 1) i)) z y :: r) _ (by unfold stC; rw [if_neg hx, if_neg hy, if_neg hz, hs0]) (fun z hz => by rw [up2_f _ _ _ _ hz]; exact hb1 z hz) ⟨by rw [up2_s]; exact hv, rpS_cg hr (fun j hj => up2_k _ _ _ _ (by omega))⟩ (by simp only [List.length_cons] at *; omega)
          · have hz : (g (a + 1) i) = -109 := h83
            refine b_iload dX8_worth_86 rfl ?_
            refine b_if_le (tgt := 160) dX8_worth_88 (by decide) (fun h88 => ?_) (fun h88 => ?_)
            · have hs0 : s = [] := by
                cases s with
                | nil => rfl
                | cons y r => exact absurd h88 (nI_nle (by simp) (by omega))
              exact K e s h (by unfold stC; rw [if_neg hx, if_neg hy, if_pos hz, hs0]) hb1 hs2 hs3
            · obtain ⟨y, r, hs0⟩ : ∃ y r, s = y :: r := by
                cases s with
                | nil => exact absurd (show nI 0 ≤ 0 from by decide +kernel) h88
                | cons y r => exact ⟨y, r, rfl⟩
              have hlen : s.length = r.length + 1 := by rw [hs0]; rfl
              have hr : rpS (h (a + 2)) r := by rw [hs0] at hs2; exact hs2.2
              have hyv : h (a + 2) r.length = y := by rw [hs0] at hs2; exact hs2.1
              refine b_aload_n dX8_worth_91 rfl rfl ?_
              refine b_getR (b := (a + 2)) lf_X8_19 (rule_c ha) (rule_r2 ha) dX8_worth_92 ?_
              refine b_iload dX8_worth_95 rfl ?_
              refine b_iconst (v := 1) dX8_worth_97 (by decide +kernel) ?_
              refine b_isub dX8_worth_98 ?_
              refine b_aload_n dX8_worth_99 rfl rfl ?_
              refine b_getR (b := (a + 2)) lf_X8_19 (rule_c ha) (rule_r2 ha) dX8_worth_100 ?_
              refine b_iload dX8_worth_103 rfl ?_
              refine b_iconst (v := 1) dX8_worth_105 (by decide +kernel) ?_
              refine b_isub dX8_worth_106 ?_
              refine b_ildN (j := r.length) dX8_worth_107 (by rw [hlen]; exact nI_pred _) (by rw [(rule_n2 ha)]; omega) ?_
              refine b_if_ne (tgt := 115) dX8_worth_108 (by decide) (fun h108 => ?_) (fun h108 => ?_)
              · have hy0 : ¬ y = 0 := by rw [← hyv]; exact h108
                refine b_iconst (v := 0) dX8_worth_115 (by decide +kernel) ?_
                refine b_istN (j := r.length) dX8_worth_116 (by rw [hlen]; exact nI_pred _) (by rw [(rule_n2 ha)]; omega) ?_
                rw [hlen]
                refine b_goto (tgt := 160) dX8_worth_117 (by decide) ?_
                exact K e (0 :: r) _ (by unfold stC; rw [if_neg hx, if_neg hy, if_pos hz, hs0]; simp only [hy0, if_false]) (fun z hz => by rw [up2_f _ _ _ _ hz]; exact hb1 z hz) ⟨by rw [up2_s], rpS_cg hr (fun j hj => up2_k _ _ _ _ (by omega))⟩ (by simp only [List.length_cons] at *; omega)
              · have hy0 : y = 0 := by rw [← hyv]; exact h108
                refine b_iconst (v := 1) dX8_worth_111 (by decide +kernel) ?_
                refine b_goto (tgt := 116) dX8_worth_112 (by decide) ?_
                refine b_istN (j := r.length) dX8_worth_116 (by rw [hlen]; exact nI_pred _) (by rw [(rule_n2 ha)]; omega) ?_
                rw [hlen]
                refine b_goto (tgt := 160) dX8_worth_117 (by decide) ?_
                exact K e (1 :: r) _ (by unfold stC; rw [if_neg hx, if_neg hy, if_pos hz, hs0]; simp only [hy0, if_true]) (fun z hz => by rw [up2_f _ _ _ _ hz]; exact hb1 z hz) ⟨by rw [up2_s], rpS_cg hr (fun j hj => up2_k _ _ _ _ (by omega))⟩ (by simp only [List.length_cons] at *; omega)
        · have hy : 110 ≤ -(g (a + 1) i) := Int32.not_lt.mp h34
          refine b_iload dX8_worth_37 rfl ?_
          refine b_aload_n dX8_worth_39 rfl rfl ?_
          refine b_getR (b := (a + 2)) lf_X8_19 (rule_c ha) (rule_r2 ha) dX8_worth_40 ?_
          refine b_ilen (n := 64) dX8_worth_43 (rule_n2 ha) (by decide) ?_
          refine b_icmp_ge (tgt := 160) dX8_worth_44 (by decide) (fun h44 => ?_) (fun h44 => ?_)
          · have hl64 : ¬ s.length < 64 := fun q => absurd ((nI_leI (a := 64) (by decide) (by omega)).mp h44) (by omega)
            exact K e s h (by unfold stC; rw [if_neg hx, if_pos hy, if_neg hl64]) hb1 hs2 hs3
          · have hl64 : s.length < 64 := by
              rcases Nat.lt_or_ge s.length 64 with q | q
              · exact q
              · exact absurd ((nI_leI (a := 64) (by decide) (by omega)).mpr q) h44
            refine b_aload_n dX8_worth_47 rfl rfl ?_
            refine b_getR (b := (a + 2)) lf_X8_19 (rule_c ha) (rule_r2 ha) dX8_worth_48 ?_
            refine b_iload dX8_worth_51 rfl ?_
            refine b_iload dX8_worth_53 rfl ?_
            refine b_if_lt (tgt := 63) dX8_worth_55 (by decide) (fun h55 => ?_) (fun h55 => ?_)
            · refine b_aload_n dX8_worth_63 rfl rfl ?_
              refine b_iload dX8_worth_64 rfl ?_
              refine b_ineg dX8_worth_66 ?_
              refine b_aload_n dX8_worth_67 rfl rfl ?_
              refine b_iload_n dX8_worth_68 rfl rfl ?_
              refine b_callV (As := [_, _, _]) (st := [_, _]) dX8_worth_69 lk_X8_22 lm_X5_valueOf lv_X5_valueOf (life_c hb) (by decide) rfl rfl rfl (Nat.le_of_ble_eq_true rfl) (Nat.le_refl _) (by decide) ?_
              refine c_X5_valueOf hb ht hp ?_
              have hv : vlC h b t p (-(g (a + 1) i)) = vlC g b t p (-(g (a + 1) i)) := by unfold vlC; rw [hb1 b hbr.1, hb1 (b + 5) hbr.2.1, hb1 (b + 4) hbr.2.2.1, hb1 (b + 6) hbr.2.2.2.1, hb1 (t + 1) hbr.2.2.2.2]
              refine b_istN (j := s.length) dX8_worth_72 (rfl) (by rw [(rule_n2 ha)]; omega) ?_
              refine b_incN (j := s.length) (lv' := [(0, _), (1, _), (2, _), (3, _), (4, _), (5, _), (6, _)]) dX8_worth_73 rfl rfl (by decide) rfl rfl ?_
              refine b_goto (tgt := 160) dX8_worth_76 (by decide) ?_
              exact K e ((vlC g b t p) (-(g (a + 1) i)) :: s) _ (by unfold stC; rw [if_neg hx, if_pos hy, if_pos hl64]) (fun z hz => by rw [up2_f _ _ _ _ hz]; exact hb1 z hz) ⟨by rw [up2_s]; exact hv, rpS_cg hs2 (fun j hj => up2_k _ _ _ _ (by omega))⟩ (by simp only [List.length_cons]; omega)
            · exact absurd (Int32.not_lt.mp h55) hx
  refine b_iconst (v := 0) dX8_worth_0 (by decide +kernel) ?_
  refine b_istore (lv' := [(0, _), (1, _), (2, _), (3, _), (4, _)]) dX8_worth_1 (by decide) rfl rfl ?_
  refine b_iconst (v := 0) dX8_worth_3 (by decide +kernel) ?_
  refine b_istore (lv' := [(0, _), (1, _), (2, _), (3, _), (4, _), (5, _)]) dX8_worth_4 (by decide) rfl rfl ?_
  exact L 0 (Nat.zero_le _) g (fun z _ => rfl) [] rfl trivial (by simp)
