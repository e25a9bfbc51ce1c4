/-- the rule's parts find what they need on the stack -/
def wfE (ask c : Nat → Int32) (n : Nat) : Prop := (∀ k, k < n → (-20 < c k → (evM ask c k).length < 64 ∧ (¬ 0 ≤ c k → ∃ j, j < 7 ∧ -1 - c k = nI j)) ∧ (c k = -28 → 1 ≤ (evM ask c k).length) ∧ (¬ -20 < c k → ¬ c k = -28 → 2 ≤ (evM ask c k).length)) ∧ (0 < n → evM ask c n ≠ [])
theorem evM_cg {ask ask2 c : Nat → Int32} {n : Nat} (hw : wfE ask c n) (h : ∀ j, j < 7 → ask j = ask2 j) : ∀ k, k ≤ n → evM ask c k = evM ask2 c k := by
  intro k
  induction k with
  | zero => intro _; rfl
  | succ k ih =>
    intro hk
    rw [evM, evM, ← ih (by omega)]
    unfold stM
    by_cases h1 : -20 < c k
    · rw [if_pos h1, if_pos h1]
      by_cases h2 : 0 ≤ c k
      · rw [if_pos h2, if_pos h2]
      · obtain ⟨j, hj, e⟩ := ((hw.1 k (by omega)).1 h1).2 h2
        rw [if_neg h2, if_neg h2, e, nI_clamp (by omega), h j hj]
    · rw [if_neg h1, if_neg h1]
theorem evM_len {ask c : Nat → Int32} {n : Nat} (hw : wfE ask c n) : ∀ k, k ≤ n → (evM ask c k).length ≤ 64 := by
  intro k
  induction k with
  | zero => intro _; simp [evM]
  | succ k ih =>
    intro hk
    have h1 := ih (by omega)
    obtain ⟨w1, w2, w3⟩ := hw.1 k (by omega)
    rw [evM]
    unfold stM
    by_cases h2 : -20 < c k
    · rw [if_pos h2, List.length_cons]; have := (w1 h2).1; omega
    · rw [if_neg h2]
      by_cases h3 : c k = -28
      · rw [if_pos h3]
        generalize evM ask c k = s at *
        cases s with
        | nil => exact h1
        | cons y r => exact h1
      · rw [if_neg h3]
        generalize evM ask c k = s at *
        match s, h1 with
        | [], h => exact h
        | [y], h => exact h
        | y :: z :: r, h => simp only [List.length_cons] at h ⊢; omega
theorem c_X12_valueNow {E : En} {d : Nat} {Q : QT} {X : XT} {g : G2} {n : Nat} (hn : g 87 4 = nI n) (h6 : n ≤ 600) (hn0 : 0 < n) (hw : wfE (g 107) (g 95) n) (hq : ∀ g2, (∀ z, z ≠ 108 → g2 z = g z) → Q (some (.int (botS (evM (g 107) (g 95) n)))) g2) : M E md_X12_valueNow (d + 1) [.ref 84] g Q X := by
  refine M.of _ rfl rfl (Nat.le_of_ble_eq_true rfl) ?_
  have LP : ∀ i, i ≤ n → ∀ h : G2, (∀ z, z ≠ 108 → h z = g z) → ∀ s : List Int32, s = evM (g 107) (g 95) i → rpS (h 108) s → B E md_X12_valueNow (d + 1) Q X 4 [(0, .ref 84), (1, .int (nI s.length)), (2, .int (nI i))] [] h 0 := by
    refine lp_up (fun i hi ih h hb1 s hsE hs2 => ?_)
    have hn1 : h 87 4 = nI n := by rw [hb1 87 (by decide)]; exact hn
    have hc1 : h 95 i = (g 95 i) := by rw [hb1 95 (by decide)]
    have hs3 : s.length ≤ 64 := by rw [hsE]; exact evM_len hw i hi
    have K : i < n → ∀ (s2 : List Int32) (h2 : G2), s2 = stM (g 107) (g 95 i) s → (∀ z, z ≠ 108 → h2 z = g z) → rpS (h2 108) s2 → B E md_X12_valueNow (d + 1) Q X 117 [(0, .ref 84), (1, .int (nI s2.length)), (2, .int (nI i)), (3, .int (g 95 i))] [] h2 0 := by
      intro hin s2 h2 he hb2 hr2
      refine b_incN (j := i) (lv' := [(0, _), (1, _), (2, _), (3, _)]) dX12_valueNow_117 rfl rfl (by decide) rfl rfl ?_
      refine b_goto (tgt := 4) dX12_valueNow_120 (by decide) ?_
      refine b_take 3 ?_
      exact ih (i + 1) (by omega) (by omega) h2 hb2 s2 (by rw [evM, ← hsE]; exact he) hr2
    refine b_iload_n dX12_valueNow_4 rfl rfl ?_
    refine b_aload_n dX12_valueNow_5 rfl rfl ?_
    refine b_getR (b := 87) lf_X12_40 rfl rfl dX12_valueNow_6 ?_
    refine b_iconst (v := 4) dX12_valueNow_9 (by decide +kernel) ?_
    refine b_ildN (j := 4) dX12_valueNow_10 (rfl) (by show _ < 10; decide) ?_
    refine b_icmp_ge (tgt := 123) dX12_valueNow_11 (by decide) (fun h11 => ?_) (fun h11 => ?_)
    · have e : i = n := by have := (nI_leI (by omega) (by omega)).mp (hn1 ▸ h11); omega
      subst e
      refine b_aload_n dX12_valueNow_123 rfl rfl ?_
      refine b_getR (b := 108) lf_X12_105 rfl rfl dX12_valueNow_124 ?_
      refine b_iconst (v := 0) dX12_valueNow_127 (by decide +kernel) ?_
      refine b_ildN (j := 0) dX12_valueNow_128 (rfl) (by show _ < 64; decide) ?_
      refine b_iret rfl (by decide) dX12_valueNow_129 ?_
      rw [rpS_bot hs2 (by rw [hsE]; exact hw.2 hn0), hsE]
      exact hq h hb1
    · have e : i < n := by
        rcases Nat.lt_or_ge i n with q | q
        · exact q
        · exact absurd (hn1 ▸ (nI_leI (by omega) (by omega)).mpr q) h11
      obtain ⟨w1, w2, w3⟩ := hw.1 i e
      rw [← hsE] at w1 w2 w3
      refine b_aload_n dX12_valueNow_14 rfl rfl ?_
      refine b_getR (b := 95) lf_X12_64 rfl rfl dX12_valueNow_15 ?_
      refine b_iload_n dX12_valueNow_18 rfl rfl ?_
      refine b_ildN (j := i) dX12_valueNow_19 (rfl) (by show _ < 1200; omega) ?_
      refine b_topE (y := (g 95 i)) hc1 ?_
      refine b_istore_n (lv' := [(0, _), (1, _), (2, _), (3, _)]) dX12_valueNow_20 rfl (by decide) rfl rfl ?_
      refine b_iload_n dX12_valueNow_21 rfl rfl ?_
      refine b_bipush (v := (-20)) dX12_valueNow_22 (by decide +kernel) ?_
      refine b_icmp_le (tgt := 55) dX12_valueNow_24 (by decide) (fun h24 => ?_) (fun h24 => ?_)
      · have hx : ¬ -20 < (g 95 i) := Int32.not_lt.mpr h24
        refine b_iload_n dX12_valueNow_55 rfl rfl ?_
        refine b_bipush (v := (-28)) dX12_valueNow_56 (by decide +kernel) ?_
        refine b_icmp_ne (tgt := 88) dX12_valueNow_58 (by decide) (fun h58 => ?_) (fun h58 => ?_)
        · have hz : ¬ (g 95 i) = -28 := h58
          have hs9 := w3 hx hz
          obtain ⟨y, z, r, hs0⟩ : ∃ y z r, s = y :: z :: r := by
            match s, hs9 with
            | y :: z :: r, _ => exact ⟨y, z, r, rfl⟩
          have hlen : s.length = r.length + 2 := by rw [hs0]; rfl
          have hr : rpS (h 108) r := by rw [hs0] at hs2; exact hs2.2.2
          have hyv : h 108 (r.length + 1) = y := by rw [hs0] at hs2; exact hs2.1
          have hzv : h 108 r.length = z := by rw [hs0] at hs2; exact hs2.2.1
          refine b_decN (j := (r.length + 1)) (lv' := [(0, _), (1, _), (2, _), (3, _)]) dX12_valueNow_88 rfl (by rw [hlen]) (by decide) rfl rfl ?_
          refine b_aload_n dX12_valueNow_91 rfl rfl ?_
          refine b_getR (b := 108) lf_X12_105 rfl rfl dX12_valueNow_92 ?_
          refine b_iload_n dX12_valueNow_95 rfl rfl ?_
          refine b_iconst (v := 1) dX12_valueNow_96 (by decide +kernel) ?_
          refine b_isub dX12_valueNow_97 ?_
          refine b_iload_n dX12_valueNow_98 rfl rfl ?_
          refine b_aload_n dX12_valueNow_99 rfl rfl ?_
          refine b_getR (b := 108) lf_X12_105 rfl rfl dX12_valueNow_100 ?_
          refine b_iload_n dX12_valueNow_103 rfl rfl ?_
          refine b_iconst (v := 1) dX12_valueNow_104 (by decide +kernel) ?_
          refine b_isub dX12_valueNow_105 ?_
          refine b_ildN (j := r.length) dX12_valueNow_106 (nI_pred _) (by show _ < 64; omega) ?_
          refine b_aload_n dX12_valueNow_107 rfl rfl ?_
          refine b_getR (b := 108) lf_X12_105 rfl rfl dX12_valueNow_108 ?_
          refine b_iload_n dX12_valueNow_111 rfl rfl ?_
          refine b_ildN (j := (r.length + 1)) dX12_valueNow_112 (rfl) (by show _ < 64; omega) ?_
          refine b_callS (As := [_, _, _]) (st := [_, _]) dX12_valueNow_113 lk_X12_348 lm_X12_reckon ls_X12_reckon rfl rfl (Nat.le_of_ble_eq_true rfl) (Nat.le_refl _) (by decide) ?_
          refine c_X12_reckon ?_
          have hv : rknM (g 95 i) (h 108 r.length) (h 108 (r.length + 1)) = rknM (g 95 i) z y := by rw [hyv, hzv]
          refine b_istN (j := r.length) dX12_valueNow_116 (nI_pred _) (by show _ < 64; omega) ?_
          exact K e (rknM (g 95 i) z y :: r) _ (by unfold stM; rw [if_neg hx, if_neg hz, hs0]) (fun z hz => by rw [up2_f _ _ _ _ hz]; exact hb1 z hz) ⟨by rw [up2_s]; exact hv, rpS_cg hr (fun j hj => up2_k _ _ _ _ (by omega))⟩
        · have hz : (g 95 i) = -28 := h58
          have hs9 := w2 hz
          obtain ⟨y, r, hs0⟩ : ∃ y r, s = y :: r := by
            match s, hs9 with
            | y :: r, _ => exact ⟨y, r, rfl⟩
          have hlen : s.length = r.length + 1 := by rw [hs0]; rfl
          have hr : rpS (h 108) r := by rw [hs0] at hs2; exact hs2.2
          have hyv : h 108 r.length = y := by rw [hs0] at hs2; exact hs2.1
          refine b_aload_n dX12_valueNow_61 rfl rfl ?_
          refine b_getR (b := 108) lf_X12_105 rfl rfl dX12_valueNow_62 ?_
          refine b_iload_n dX12_valueNow_65 rfl rfl ?_
          refine b_iconst (v := 1) dX12_valueNow_66 (by decide +kernel) ?_
          refine b_isub dX12_valueNow_67 ?_
          refine b_aload_n dX12_valueNow_68 rfl rfl ?_
          refine b_getR (b := 108) lf_X12_105 rfl rfl dX12_valueNow_69 ?_
          refine b_iload_n dX12_valueNow_72 rfl rfl ?_
          refine b_iconst (v := 1) dX12_valueNow_73 (by decide +kernel) ?_
          refine b_isub dX12_valueNow_74 ?_
          refine b_ildN (j := r.length) dX12_valueNow_75 (by rw [hlen]; exact nI_pred _) (by show _ < 64; omega) ?_
          refine b_if_eq (tgt := 83) dX12_valueNow_76 (by decide) (fun h76 => ?_) (fun h76 => ?_)
          · have hy0 : y = 0 := by rw [← hyv]; exact h76
            refine b_iconst (v := 1) dX12_valueNow_83 (by decide +kernel) ?_
            refine b_istN (j := r.length) dX12_valueNow_84 (by rw [hlen]; exact nI_pred _) (by show _ < 64; omega) ?_
            rw [hlen]
            refine b_goto (tgt := 117) dX12_valueNow_85 (by decide) ?_
            exact K e (1 :: r) _ (by unfold stM; rw [if_neg hx, if_pos hz, hs0]; simp only [hy0, if_true]) (fun z hz => by rw [up2_f _ _ _ _ hz]; exact hb1 z hz) ⟨by rw [up2_s], rpS_cg hr (fun j hj => up2_k _ _ _ _ (by omega))⟩
          · have hy0 : ¬ y = 0 := by rw [← hyv]; exact h76
            refine b_iconst (v := 0) dX12_valueNow_79 (by decide +kernel) ?_
            refine b_goto (tgt := 84) dX12_valueNow_80 (by decide) ?_
            refine b_istN (j := r.length) dX12_valueNow_84 (by rw [hlen]; exact nI_pred _) (by show _ < 64; omega) ?_
            rw [hlen]
            refine b_goto (tgt := 117) dX12_valueNow_85 (by decide) ?_
            exact K e (0 :: r) _ (by unfold stM; rw [if_neg hx, if_pos hz, hs0]; simp only [hy0, if_false]) (fun z hz => by rw [up2_f _ _ _ _ hz]; exact hb1 z hz) ⟨by rw [up2_s], rpS_cg hr (fun j hj => up2_k _ _ _ _ (by omega))⟩
      · have hx : -20 < (g 95 i) := Int32.not_le.mp h24
        obtain ⟨hl64, w4⟩ := w1 hx
        refine b_aload_n dX12_valueNow_27 rfl rfl ?_
        refine b_getR (b := 108) lf_X12_105 rfl rfl dX12_valueNow_28 ?_
        refine b_iload_n dX12_valueNow_31 rfl rfl ?_
        refine b_iload_n dX12_valueNow_32 rfl rfl ?_
        refine b_if_lt (tgt := 40) dX12_valueNow_33 (by decide) (fun h33 => ?_) (fun h33 => ?_)
        · have h0 : ¬ 0 ≤ (g 95 i) := Int32.not_le.mpr h33
          obtain ⟨j, hj, hj2⟩ := w4 h0
          refine b_aload_n dX12_valueNow_40 rfl rfl ?_
          refine b_getR (b := 107) lf_X12_102 rfl rfl dX12_valueNow_41 ?_
          refine b_iconst (v := (-1)) dX12_valueNow_44 (by decide +kernel) ?_
          refine b_iload_n dX12_valueNow_45 rfl rfl ?_
          refine b_isub dX12_valueNow_46 ?_
          refine b_ildN (j := j) dX12_valueNow_47 (hj2) (by show _ < 7; omega) ?_
          refine b_istN (j := s.length) dX12_valueNow_48 (rfl) (by show _ < 64; omega) ?_
          refine b_incN (j := s.length) (lv' := [(0, _), (1, _), (2, _), (3, _)]) dX12_valueNow_49 rfl rfl (by decide) rfl rfl ?_
          refine b_goto (tgt := 117) dX12_valueNow_52 (by decide) ?_
          exact K e (g 107 (-1 - (g 95 i)).toNatClampNeg :: s) _ (by unfold stM; rw [if_pos hx, if_neg h0]) (fun z hz => by rw [up2_f _ _ _ _ hz]; exact hb1 z hz) ⟨by rw [up2_s, hj2, nI_clamp (by omega), hb1 107 (by decide)], rpS_cg hs2 (fun j hj => up2_k _ _ _ _ (by omega))⟩
        · have h0 : 0 ≤ (g 95 i) := Int32.not_lt.mp h33
          refine b_iload_n dX12_valueNow_36 rfl rfl ?_
          refine b_goto (tgt := 48) dX12_valueNow_37 (by decide) ?_
          refine b_istN (j := s.length) dX12_valueNow_48 (rfl) (by show _ < 64; omega) ?_
          refine b_incN (j := s.length) (lv' := [(0, _), (1, _), (2, _), (3, _)]) dX12_valueNow_49 rfl rfl (by decide) rfl rfl ?_
          refine b_goto (tgt := 117) dX12_valueNow_52 (by decide) ?_
          exact K e ((g 95 i) :: s) _ (by unfold stM; rw [if_pos hx, if_pos h0]) (fun z hz => by rw [up2_f _ _ _ _ hz]; exact hb1 z hz) ⟨by rw [up2_s], rpS_cg hs2 (fun j hj => up2_k _ _ _ _ (by omega))⟩
  refine b_iconst (v := 0) dX12_valueNow_0 (by decide +kernel) ?_
  refine b_istore_n (lv' := [(0, _), (1, _)]) dX12_valueNow_1 rfl (by decide) rfl rfl ?_
  refine b_iconst (v := 0) dX12_valueNow_2 (by decide +kernel) ?_
  refine b_istore_n (lv' := [(0, _), (1, _), (2, _)]) dX12_valueNow_3 rfl (by decide) rfl rfl ?_
  exact LP 0 (Nat.zero_le _) g (fun z _ => rfl) [] rfl trivial
