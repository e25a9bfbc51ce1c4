theorem c_X12_isAsHeard {E : En} {d : Nat} {Q : QT} {X : XT} {g : G2} {T : TD} {F : FS} {sp : Int32} (hR : RMl g T (f_S F)) (hT : RMt g T) (oT : okT T) (oF : okF T F) (hn : g 84 38 = nI (f_nh F)) (hH : RMh g 113 114 F) (hsp : g 84 44 = sp) (hq : ∀ h, RMl h T (f_S F) → (∀ y, (y < 84 ∨ (85 ≤ y ∧ y ≤ 98) ∨ y = 103 ∨ y = 112 ∨ y = 113 ∨ y = 114 ∨ 116 ≤ y) → h y = g y) → (∀ j, (j < 30 ∨ 36 < j) → h 84 j = g 84 j) → Q (some (.int (b2i (heB T F sp)))) h) : M E md_X12_isAsHeard (d + 6) [.ref 84] g Q X := by
  refine M.of _ rfl rfl (Nat.le_of_ble_eq_true rfl) ?_
  refine b_aload_n dX12_isAsHeard_0 rfl rfl ?_
  refine b_aload_n dX12_isAsHeard_1 rfl rfl ?_
  refine b_getR (b := 115) lf_X12_129 rfl rfl dX12_isAsHeard_2 ?_
  refine b_iconst (v := 0) dX12_isAsHeard_5 (by decide +kernel) ?_
  refine b_callV (As := [_, _]) (st := []) dX12_isAsHeard_6 lk_X12_387 lm_X12_pack lv_X12_pack rfl (by decide) rfl rfl rfl (Nat.le_of_ble_eq_true rfl) (Nat.le_refl _) (by decide) ?_
  refine c_X12_pack (z := 115) (n := 35) (f := 0) rfl (by decide) (by decide) (by decide) (fun h1 pF _ pk => ?_)
  have rk := RPk.of hT.le hR pk
  have hR1 := hR.ofZ (by decide) pF
  have EN : ∀ h, RMl h T (yrsM T sp (f_S F) 20) → FM h1 h → ∀ b, heB T F sp = b → ∀ x, B E md_X12_isAsHeard (d + 6) Q X 76 [(0, .ref 84), (1, .int (b2i b)), (2, .int x)] [] h 0 := by
    intro h hR2 fm b hb x
    subst hb
    have hb : True := trivial
    refine b_aload_n dX12_isAsHeard_76 rfl rfl ?_
    refine b_aload_n dX12_isAsHeard_77 rfl rfl ?_
    refine b_getR (b := 115) lf_X12_129 rfl rfl dX12_isAsHeard_78 ?_
    refine b_iconst (v := 0) dX12_isAsHeard_81 (by decide +kernel) ?_
    refine b_callV (As := [_, _]) (st := []) dX12_isAsHeard_82 lk_X12_416 lm_X12_unpack lv_X12_unpack rfl (by decide) rfl rfl rfl (Nat.le_of_ble_eq_true rfl) (Nat.le_refl _) (by decide) ?_
    refine c_X12_unpack (z := 115) (n := 35) (f := 0) rfl (by decide) (by decide) (by decide) (fun h3 uF u84 uk => ?_)
    have hR3 : RMl h3 T (f_S F) := RMl.back hT.le oF.S.1 oF.S.2.2.2.2 (by rw [fm.1 115 (by decide) (by decide) (by decide) (by decide) (by decide) (by decide)]; exact rk) hR2 (yrsM_pre T sp (f_S F) 20) uF uk
    refine b_iload_n dX12_isAsHeard_85 rfl rfl ?_
    refine b_zret (b2i_01 _) rfl (by decide) dX12_isAsHeard_86 ?_
    exact hq h3 hR3 (fun y hy => by rw [uF y (by omega) (by omega) (by omega) (by omega) (by omega), fm.1 y (by omega) (by omega) (by omega) (by omega) (by omega) (by omega), pF y (by omega)]) (fun j hj => by rw [u84 j (by omega), fm.2 j (by omega) (by omega), pF 84 (by decide)])
  have EX : ∀ h, RMl h T (yrsM T sp (f_S F) 20) → FM h1 h → ∀ x, heB T F sp = false → B E md_X12_isAsHeard (d + 6) Q X 19 [(0, .ref 84), (1, .int 0), (2, .int x)] [] h 0 := by
    intro h hR2 fm x hb
    refine b_iload_n dX12_isAsHeard_19 rfl rfl ?_
    refine b_aload_n dX12_isAsHeard_20 rfl rfl ?_
    refine b_getI lf_X12_341 rfl dX12_isAsHeard_21 ?_
    refine b_icmp_ge (tgt := 76) dX12_isAsHeard_24 (by decide) (fun _ => EN h hR2 fm false hb _) (fun _ => ?_)
    refine b_iload_n dX12_isAsHeard_27 rfl rfl ?_
    refine b_if_eq (tgt := 76) dX12_isAsHeard_28 (by decide) (fun _ => EN h hR2 fm false hb _) (fun q => absurd rfl q)
  have h8n := oF.2.1
  have LP : ∀ i, i ≤ f_nh F → ∀ h, RMl h T (yrsM T sp (f_S F) 20) → FM h1 h → anyN (fun i => !(decide (f_g F 0 i < nI (l_n (yrsM T sp (f_S F) 20))) && l_g (yrsM T sp (f_S F) 20) 0 (f_g F 0 i).toNatClampNeg == f_g F 1 i)) i = false → B E md_X12_isAsHeard (d + 6) Q X 19 [(0, .ref 84), (1, .int 1), (2, .int (nI i))] [] h 0 := by
    refine lp_up (fun i hi ih h hR2 fm hF => ?_)
    have h5 := hR2.le
    refine b_iload_n dX12_isAsHeard_19 rfl rfl ?_
    refine b_aload_n dX12_isAsHeard_20 rfl rfl ?_
    refine b_getI lf_X12_341 rfl dX12_isAsHeard_21 ?_
    refine b_topE (y := nI (f_nh F)) (by rw [fm.2 38 (by decide) (by decide), pF 84 (by decide)]; exact hn) ?_
    refine b_icmp_ge (tgt := 76) dX12_isAsHeard_24 (by decide) (fun h24 => ?_) (fun h24 => ?_)
    · have e24 : (f_nh F) ≤ i := nn_le (a := (f_nh F)) (b := i) (by omega) (by omega) h24
      have e : i = f_nh F := by omega
      subst e
      exact EN h hR2 fm true (by unfold heB; rw [hF]; rfl) _
    · have e24 : i < (f_nh F) := nn_nle (a := (f_nh F)) (b := i) (by omega) (by omega) h24
      refine b_iload_n dX12_isAsHeard_27 rfl rfl ?_
      refine b_if_eq (tgt := 76) dX12_isAsHeard_28 (by decide) (fun h28 => ?_) (fun h28 => ?_)
      · exact absurd h28 (by decide)
      · refine b_aload_n dX12_isAsHeard_31 rfl rfl ?_
        refine b_getR (b := 113) lf_X12_123 rfl rfl dX12_isAsHeard_32 ?_
        refine b_iload_n dX12_isAsHeard_35 rfl rfl ?_
        obtain ⟨p, p1, p2⟩ := oF.2.2.2.2 i (by omega)
        have e1 : h 113 i = nI p := by rw [fm.1 113 (by decide) (by decide) (by decide) (by decide) (by decide) (by decide), pF 113 (by decide), hH.1 i (by omega)]; exact p2
        refine b_ildN (j := i) dX12_isAsHeard_36 (rfl) (by show _ < 8; omega) ?_
        refine b_topE (y := nI p) (e1) ?_
        refine b_aload_n dX12_isAsHeard_37 rfl rfl ?_
        refine b_getI lf_X12_320 rfl dX12_isAsHeard_38 ?_
        refine b_topE (y := nI (l_n (yrsM T sp (f_S F) 20))) (hR2.n) ?_
        refine b_icmp_ge (tgt := 68) dX12_isAsHeard_41 (by decide) (fun h41 => ?_) (fun h41 => ?_)
        · have e41 : (l_n (yrsM T sp (f_S F) 20)) ≤ p := nn_le (a := (l_n (yrsM T sp (f_S F) 20))) (b := p) (by omega) (by omega) h41
          refine b_iconst (v := 0) dX12_isAsHeard_68 (by decide +kernel) ?_
          refine b_istore_n (lv' := [(0, _), (1, _), (2, _)]) dX12_isAsHeard_69 rfl (by decide) rfl rfl ?_
          refine b_incN (j := i) (lv' := [(0, _), (1, _), (2, _)]) dX12_isAsHeard_70 rfl rfl (by decide) rfl rfl ?_
          refine b_goto (tgt := 19) dX12_isAsHeard_73 (by decide) ?_
          have hb : heB T F sp = false := by
            unfold heB; rw [anyN_t (P := (fun i => !(decide (f_g F 0 i < nI (l_n (yrsM T sp (f_S F) 20))) && l_g (yrsM T sp (f_S F) 20) 0 (f_g F 0 i).toNatClampNeg == f_g F 1 i))) (i := i) (by omega) (by rw [p2, decide_eq_false (nI_nlt e41 (by omega))]; rfl)]; rfl
          exact EX h hR2 fm _ hb
        · have e41 : p < (l_n (yrsM T sp (f_S F) 20)) := nn_nle (a := (l_n (yrsM T sp (f_S F) 20))) (b := p) (by omega) (by omega) h41
          refine b_aload_n dX12_isAsHeard_44 rfl rfl ?_
          refine b_getR (b := 104) lf_X12_93 rfl rfl dX12_isAsHeard_45 ?_
          refine b_aload_n dX12_isAsHeard_48 rfl rfl ?_
          refine b_getR (b := 113) lf_X12_123 rfl rfl dX12_isAsHeard_49 ?_
          refine b_iload_n dX12_isAsHeard_52 rfl rfl ?_
          refine b_ildN (j := i) dX12_isAsHeard_53 (rfl) (by show _ < 8; omega) ?_
          refine b_topE (y := nI p) (e1) ?_
          refine b_ildN (j := p) dX12_isAsHeard_54 (rfl) (by show _ < 400; omega) ?_
          refine b_topE (hR2.sg p e41) ?_
          refine b_aload_n dX12_isAsHeard_55 rfl rfl ?_
          refine b_getR (b := 114) lf_X12_126 rfl rfl dX12_isAsHeard_56 ?_
          refine b_iload_n dX12_isAsHeard_59 rfl rfl ?_
          refine b_ildN (j := i) dX12_isAsHeard_60 (rfl) (by show _ < 8; omega) ?_
          refine b_topE (y := f_g F 1 i) (by rw [fm.1 114 (by decide) (by decide) (by decide) (by decide) (by decide) (by decide), pF 114 (by decide)]; exact hH.2 i (by omega)) ?_
          refine b_icmp_ne (tgt := 68) dX12_isAsHeard_61 (by decide) (fun h61 => ?_) (fun h61 => ?_)
          · refine b_iconst (v := 0) dX12_isAsHeard_68 (by decide +kernel) ?_
            refine b_istore_n (lv' := [(0, _), (1, _), (2, _)]) dX12_isAsHeard_69 rfl (by decide) rfl rfl ?_
            refine b_incN (j := i) (lv' := [(0, _), (1, _), (2, _)]) dX12_isAsHeard_70 rfl rfl (by decide) rfl rfl ?_
            refine b_goto (tgt := 19) dX12_isAsHeard_73 (by decide) ?_
            have hb : heB T F sp = false := by
              unfold heB; rw [anyN_t (P := (fun i => !(decide (f_g F 0 i < nI (l_n (yrsM T sp (f_S F) 20))) && l_g (yrsM T sp (f_S F) 20) 0 (f_g F 0 i).toNatClampNeg == f_g F 1 i))) (i := i) (by omega) (by rw [p2, nI_cl (by omega), beq_eq_false_iff_ne.mpr h61]; simp)]; rfl
            exact EX h hR2 fm _ hb
          · refine b_iconst (v := 1) dX12_isAsHeard_64 (by decide +kernel) ?_
            refine b_goto (tgt := 69) dX12_isAsHeard_65 (by decide) ?_
            refine b_istore_n (lv' := [(0, _), (1, _), (2, _)]) dX12_isAsHeard_69 rfl (by decide) rfl rfl ?_
            refine b_incN (j := i) (lv' := [(0, _), (1, _), (2, _)]) dX12_isAsHeard_70 rfl rfl (by decide) rfl rfl ?_
            refine b_goto (tgt := 19) dX12_isAsHeard_73 (by decide) ?_
            exact ih (i + 1) (by omega) (by omega) h hR2 fm (anyN_f hF (by rw [p2, nI_cl (by omega), decide_eq_true (nI_lt e41 (by omega)), show (l_g (yrsM T sp (f_S F) 20) 0 p == f_g F 1 i) = true by rw [beq_iff_eq]; exact h61]; rfl))
  refine b_aload_n dX12_isAsHeard_9 rfl rfl ?_
  refine b_bipush (v := 20) dX12_isAsHeard_10 (by decide +kernel) ?_
  refine b_callV (As := [_]) (st := []) dX12_isAsHeard_12 lk_X12_399 lm_X12_goOn lv_X12_goOn rfl (by decide) rfl rfl rfl (Nat.le_of_ble_eq_true rfl) (Nat.le_refl _) (by decide) ?_
  refine c_X12_goOn (n := 20) (sp := sp) (hT.fd (FD.ofZ (z := 115) (by decide) pF)) hR1 oT oF.S.1 (by rw [pF 84 (by decide)]; exact hsp) (by decide) (fun h2 fm hR2 => ?_)
  refine b_iconst (v := 1) dX12_isAsHeard_15 (by decide +kernel) ?_
  refine b_istore_n (lv' := [(0, _), (1, _)]) dX12_isAsHeard_16 rfl (by decide) rfl rfl ?_
  refine b_iconst (v := 0) dX12_isAsHeard_17 (by decide +kernel) ?_
  refine b_istore_n (lv' := [(0, _), (1, _), (2, _)]) dX12_isAsHeard_18 rfl (by decide) rfl rfl ?_
  exact LP 0 (Nat.zero_le _) h2 hR2 fm rfl
def stN (hs : Nat → Bool) : Nat → Nat
  | 0 => 0
  | k + 1 => if hs k then stN hs k + 2 ^ k else stN hs k
theorem stN_lt (hs : Nat → Bool) : ∀ k, stN hs k < 2 ^ k
  | 0 => by rw [stN]; decide
  | k + 1 => by rw [stN, Nat.pow_succ]; have := stN_lt hs k; split <;> omega
theorem or_tab : ∀ k, k < 8 → ∀ m, m < 2 ^ k → nI m ||| sbI (nI k) = nI (m + 2 ^ k) ∧ pcN (m + 2 ^ k) = pcN m + 1 ∧ (∀ p, p < 8 → btI (nI (m + 2 ^ k)) (nI p) = if p = k then 1 else btI (nI m) (nI p)) := by decide +kernel
theorem stN_pc (hs : Nat → Bool) : ∀ k, k ≤ 8 → pcN (stN hs k) = cntN hs k
  | 0, _ => rfl
  | k + 1, h => by
    rw [stN, cntN, ← stN_pc hs k (by omega)]
    by_cases e : hs k = true
    · rw [if_pos e, if_pos e]; exact (or_tab k (by omega) _ (stN_lt hs k)).2.1
    · rw [if_neg e, if_neg e]; rfl
theorem stN_bt (hs : Nat → Bool) : ∀ k, k ≤ 8 → ∀ p, p < 8 → (btI (nI (stN hs k)) (nI p) == 1) = (decide (p < k) && hs p)
  | 0, _, p, hp => by rw [stN, decide_eq_false (by omega)]; exact (show ∀ p, p < 8 → (btI (nI 0) (nI p) == 1) = (false && hs p) from fun p hp => by rw [Bool.false_and]; exact (show ∀ p, p < 8 → (btI (nI 0) (nI p) == 1) = false from by decide +kernel) p hp) p hp
  | k + 1, h, p, hp => by
    rw [stN]
    have ih := stN_bt hs k (by omega) p hp
    by_cases e : hs k = true
    · rw [if_pos e, (or_tab k (by omega) _ (stN_lt hs k)).2.2 p hp]
      by_cases e2 : p = k
      · subst e2; rw [if_pos rfl, decide_eq_true (by omega), e]; rfl
      · rw [if_neg e2, ih]
        by_cases e3 : p < k
        · rw [decide_eq_true e3, decide_eq_true (by omega)]
        · rw [decide_eq_false e3, decide_eq_false (by omega)]
    · rw [if_neg e, ih]
      by_cases e2 : p = k
      · subst e2; rw [Bool.eq_false_iff.mpr e, Bool.and_false, Bool.and_false]
      · by_cases e3 : p < k
        · rw [decide_eq_true e3, decide_eq_true (by omega)]
        · rw [decide_eq_false e3, decide_eq_false (by omega)]
def FX (g h : G2) : Prop := (∀ y, (y < 84 ∨ (85 ≤ y ∧ y ≤ 98) ∨ y = 103 ∨ y = 112 ∨ y = 113 ∨ y = 114 ∨ 116 ≤ y) → h y = g y) ∧ ∀ j, (j < 30 ∨ 36 < j) → j ≠ 44 → h 84 j = g 84 j
theorem FX.rf (g : G2) : FX g g := ⟨fun _ _ => rfl, fun _ _ _ => rfl⟩
theorem FX.tr {g h k : G2} (h1 : FX g h) (h2 : FX h k) : FX g k := ⟨fun y q => (h2.1 y q).trans (h1.1 y q), fun j q r => (h2.2 j q r).trans (h1.2 j q r)⟩
theorem FX.fd {g h : G2} (f : FX g h) (e : h 84 44 = g 84 44) : FD g h := ⟨fun y q => f.1 y (by omega), fun j q => by
  by_cases z : j = 44
  · subst z; exact e
  · exact f.2 j (by omega) z⟩
theorem FX.tm {g h : G2} {T : TD} (f : FX g h) (hT : RMt g T) : RMt h T := hT.cg (fun z h1 h2 => f.1 z (by omega))
theorem RMl.f44 {g : G2} {T : TD} {S : LfS} {x : Int32} (hR : RMl g T S) : RMl (up2 g 84 44 x) T S := hR.cg (fun j h1 h2 => up2_k _ _ _ _ (by omega)) (fun z h1 h2 h3 => up2_f _ _ _ _ (by omega))
theorem FX.f44 (g : G2) (x : Int32) : FX g (up2 g 84 44 x) := ⟨fun y q => up2_f _ _ _ _ (by omega), fun j _ q => up2_k _ _ _ _ q⟩
theorem c_X12_spies {E : En} {d : Nat} {Q : QT} {X : XT} {g : G2} {T : TD} {F : FS} (hR : RMl g T (f_S F)) (hT : RMt g T) (oT : okT T) (oF : okF T F) (hn : g 84 38 = nI (f_nh F)) (hH : RMh g 113 114 F) (hq : ∀ h, RMl h T (f_S F) → FX g h → h 84 44 = -1 → Q (some (.int (nI (stN (hsB T F) (t_n T))))) h) : M E md_X12_spies (d + 7) [.ref 84] g Q X := by
  refine M.of _ rfl rfl (Nat.le_of_ble_eq_true rfl) ?_
  have h8 := hT.le
  have LP : ∀ p, p ≤ t_n T → ∀ h, RMl h T (f_S F) → FX g h → B E md_X12_spies (d + 7) Q X 4 [(0, .ref 84), (1, .int (nI (stN (hsB T F) p))), (2, .int (nI p))] [] h 0 := by
    refine lp_up (fun p hp ih h hR1 fx => ?_)
    refine b_iload_n dX12_spies_4 rfl rfl ?_
    refine b_aload_n dX12_spies_5 rfl rfl ?_
    refine b_getR (b := 87) lf_X12_40 rfl rfl dX12_spies_6 ?_
    refine b_iconst (v := 0) dX12_spies_9 (by decide +kernel) ?_
    refine b_ildN (j := 0) dX12_spies_10 (rfl) (by show _ < 10; omega) ?_
    refine b_topE (y := nI (t_n T)) ((fx.tm hT).n) ?_
    refine b_icmp_ge (tgt := 42) dX12_spies_11 (by decide) (fun h11 => ?_) (fun h11 => ?_)
    · have e11 : (t_n T) ≤ p := nn_le (a := (t_n T)) (b := p) (by omega) (by omega) h11
      have e : p = t_n T := by omega
      subst e
      refine b_aload_n dX12_spies_42 rfl rfl ?_
      refine b_iconst (v := (-1)) dX12_spies_43 (by decide +kernel) ?_
      refine b_putI lf_X12_108 lp_12_44 rfl dX12_spies_44 ?_
      refine b_iload_n dX12_spies_47 rfl rfl ?_
      refine b_iret rfl (by decide) dX12_spies_48 ?_
      exact hq _ hR1.f44 (fx.tr (FX.f44 h (-1))) (up2_s _ _ _ _)
    · have e11 : p < (t_n T) := nn_nle (a := (t_n T)) (b := p) (by omega) (by omega) h11
      refine b_aload_n dX12_spies_14 rfl rfl ?_
      refine b_iload_n dX12_spies_15 rfl rfl ?_
      refine b_putI lf_X12_108 lp_12_44 rfl dX12_spies_16 ?_
      refine b_iload_n dX12_spies_19 rfl rfl ?_
      refine b_aload_n dX12_spies_20 rfl rfl ?_
      refine b_callV (As := []) (st := [_]) dX12_spies_21 lk_X12_477 lm_X12_isAsHeard lv_X12_isAsHeard rfl (by decide) rfl rfl rfl (Nat.le_of_ble_eq_true rfl) (Nat.le_refl _) (by decide) ?_
      refine c_X12_isAsHeard (sp := nI p) hR1.f44 ((FX.f44 h (nI p)).tm (fx.tm hT)) oT oF (by rw [up2_k _ _ _ _ (by decide), fx.2 38 (by decide) (by decide)]; exact hn) (RMh.cg hH (by rw [up2_f _ _ _ _ (by decide), fx.1 113 (by decide)]) (by rw [up2_f _ _ _ _ (by decide), fx.1 114 (by decide)])) (up2_s _ _ _ _) (fun h2 hR2 i1 i2 => ?_)
      refine b_if_eq (tgt := 33) dX12_spies_24 (by decide) (fun h24 => ?_) (fun h24 => ?_)
      · have e24 := b2i_0 h24
        refine b_iconst (v := 0) dX12_spies_33 (by decide +kernel) ?_
        refine b_ior dX12_spies_34 ?_
        refine b_istore_n (lv' := [(0, _), (1, _), (2, _)]) dX12_spies_35 rfl (by decide) rfl rfl ?_
        refine b_incN (j := p) (lv' := [(0, _), (1, _), (2, _)]) dX12_spies_36 rfl rfl (by decide) rfl rfl ?_
        refine b_goto (tgt := 4) dX12_spies_39 (by decide) ?_
        have z := ih (p + 1) (by omega) (by omega) h2 hR2 (fx.tr ((FX.f44 h (nI p)).tr ⟨i1, fun j j1 _ => i2 j j1⟩))
        rw [stN, if_neg (by unfold hsB; rw [e24]; decide)] at z
        rw [show nI (stN (hsB T F) p) = nI (stN (hsB T F) p) ||| 0 from Int32.or_zero.symm] at z
        exact z
      · have e24 := b2i_1 h24
        refine b_iconst (v := 1) dX12_spies_27 (by decide +kernel) ?_
        refine b_iload_n dX12_spies_28 rfl rfl ?_
        refine b_ishl dX12_spies_29 ?_
        refine b_goto (tgt := 34) dX12_spies_30 (by decide) ?_
        refine b_ior dX12_spies_34 ?_
        refine b_istore_n (lv' := [(0, _), (1, _), (2, _)]) dX12_spies_35 rfl (by decide) rfl rfl ?_
        refine b_incN (j := p) (lv' := [(0, _), (1, _), (2, _)]) dX12_spies_36 rfl rfl (by decide) rfl rfl ?_
        refine b_goto (tgt := 4) dX12_spies_39 (by decide) ?_
        have z := ih (p + 1) (by omega) (by omega) h2 hR2 (fx.tr ((FX.f44 h (nI p)).tr ⟨i1, fun j j1 _ => i2 j j1⟩))
        rw [stN, if_pos (show hsB T F p = true from e24)] at z
        rw [← (or_tab p (by omega) _ (stN_lt (hsB T F) p)).1] at z
        exact z
  refine b_iconst (v := 0) dX12_spies_0 (by decide +kernel) ?_
  refine b_istore_n (lv' := [(0, _), (1, _)]) dX12_spies_1 rfl (by decide) rfl rfl ?_
  refine b_iconst (v := 0) dX12_spies_2 (by decide +kernel) ?_
  refine b_istore_n (lv' := [(0, _), (1, _), (2, _)]) dX12_spies_3 rfl (by decide) rfl rfl ?_
  exact LP 0 (Nat.zero_le _) g hR (FX.rf g)
theorem st_zero {hs : Nat → Bool} {n : Nat} (h8 : n ≤ 8) (h : ∀ j, 0 ≤ j → j < 0 + n → hs j = false) : stN hs n = 0 := by
  have key : ∀ k, k ≤ n → stN hs k = 0 := by
    intro k
    induction k with
    | zero => exact fun _ => rfl
    | succ k ih => exact fun hk => by rw [stN, if_neg (by rw [h k (Nat.zero_le _) (by omega)]; decide)]; exact ih (by omega)
  exact key n (Nat.le_refl _)
theorem c_X12_spy {E : En} {d : Nat} {Q : QT} {X : XT} {g : G2} {T : TD} {F : FS} (hM : RMf g T F) (hT : RMt g T) (oT : okT T) (oF : okF T F) (hsp : g 84 44 = -1) {w : Int32} (hq : ∀ h, FD g h → RMl h T (f_S F) → h 84 2 = nI (spyM T F w).1 → Q (some (.int (spyM T F w).2)) h) : M E md_X12_spy (d + 8) [.ref 84, .int w] g Q X := by
  refine M.of _ rfl rfl (Nat.le_of_ble_eq_true rfl) ?_
  refine b_aload_n dX12_spy_0 rfl rfl ?_
  refine b_iconst (v := 0) dX12_spy_1 (by decide +kernel) ?_
  refine b_putI lf_X12_165 lp_12_2 rfl dX12_spy_2 ?_
  have F1 : FD g (up2 g 84 2 0) := FD.code 0
  have c1 : up2 g 84 2 0 84 2 = 0 := up2_s _ _ _ _
  have hM := hM.code (x := 0)
  have hT := hT.code (x := 0)
  have hsp : up2 g 84 2 0 84 44 = -1 := by rw [up2_k _ _ _ _ (by decide)]; exact hsp
  generalize up2 g 84 2 0 = g1 at F1 c1 hM hT hsp ⊢
  have hR := hM.1
  have h8 := hT.le
  refine b_iload_n dX12_spy_5 rfl rfl ?_
  refine b_i2l dX12_spy_6 rfl ?_
  refine b_lconst (v := 0) dX12_spy_7 (by decide +kernel) ?_
  refine b_ldc2 lx_X12_385 dX12_spy_8 ?_
  refine b_callS (As := [_, _, _]) (st := []) dX12_spy_11 lk_X12_168 lm_X12_isIn ls_X12_isIn rfl rfl (Nat.le_of_ble_eq_true rfl) (Nat.le_refl _) (by decide) ?_
  refine c_X12_isIn ?_
  rw [in_64b (a' := 0) (b' := 2) (by decide) (by decide)]
  refine b_if_ne (tgt := 23) dX12_spy_14 (by decide) (fun h14 => ?_) (fun h14 => ?_)
  · have e14 := b2i_1 h14
    refine b_iload_n dX12_spy_23 rfl rfl ?_
    refine b_iconst (v := 2) dX12_spy_24 (by decide +kernel) ?_
    refine b_icmp_ne (tgt := 41) dX12_spy_25 (by decide) (fun h25 => ?_) (fun h25 => ?_)
    · refine b_aload_n dX12_spy_41 rfl rfl ?_
      refine b_callV (As := []) (st := []) dX12_spy_42 lk_X12_480 lm_X12_spies lv_X12_spies rfl (by decide) rfl rfl rfl (Nat.le_of_ble_eq_true rfl) (Nat.le_refl _) (by decide) ?_
      refine c_X12_spies hR hT oT oF hM.2.2.2.1 hM.2.2.2.2.1 (fun h hR2 fx s44 => ?_)
      have LP : ∀ i, i ≤ 8 → fndF (hsB T F) (t_n T) 0 = fndF (hsB T F) (t_n T - i) i → B E md_X12_spy (d + 8) Q X 48 [(0, .ref 84), (1, .int w), (2, .int (nI (stN (hsB T F) (t_n T)))), (3, .int (nI i))] [] h 0 := by
        refine lp_up (fun i hi ih hfn => ?_)
        refine b_iload_n dX12_spy_48 rfl rfl ?_
        refine b_bipush (v := 8) dX12_spy_49 (by decide +kernel) ?_
        refine b_icmp_ge (tgt := 68) dX12_spy_51 (by decide) (fun h51 => ?_) (fun h51 => ?_)
        · have e51 : 8 ≤ i := nn_le (a := 8) (b := i) (by omega) (by omega) h51
          refine b_iload_n dX12_spy_68 rfl rfl ?_
          refine b_if_ne (tgt := 79) dX12_spy_69 (by decide) (fun h69 => ?_) (fun h69 => ?_)
          · refine b_iload_n dX12_spy_79 rfl rfl ?_
            refine b_if_ne (tgt := 87) dX12_spy_80 (by decide) (fun h80 => ?_) (fun h80 => ?_)
            · refine b_iload_n dX12_spy_87 rfl rfl ?_
              refine b_iret rfl (by decide) dX12_spy_88 ?_
              have D2 := F1.tr (fx.fd (by rw [s44, hsp]))
              have hq := hq h D2 hR2 (by rw [spyM_0 e14, fx.2 2 (by decide) (by decide)]; exact c1)
              rw [spyM_0 e14] at hq
              simp only [if_neg h25] at hq
              simp only [if_neg h69] at hq
              have ez : stN (hsB T F) (t_n T) = 0 := st_zero h8 (fndF_n (t_n T) 0 (by omega) (by rw [hfn, show t_n T - i = 0 by omega]; rfl))
              exact absurd (by rw [ez]; rfl) h80
            · refine b_iconst (v := (-1)) dX12_spy_83 (by decide +kernel) ?_
              refine b_goto (tgt := 88) dX12_spy_84 (by decide) ?_
              refine b_iret rfl (by decide) dX12_spy_88 ?_
              have D2 := F1.tr (fx.fd (by rw [s44, hsp]))
              have hq := hq h D2 hR2 (by rw [spyM_0 e14, fx.2 2 (by decide) (by decide)]; exact c1)
              rw [spyM_0 e14] at hq
              simp only [if_neg h25] at hq
              simp only [if_neg h69] at hq
              have ez : stN (hsB T F) (t_n T) = 0 := nI_inj (b := 0) (by have := stN_lt (hsB T F) (t_n T); have := pow8 h8; omega) (by decide) h80
              rw [hfn, show t_n T - i = 0 by omega, fndF] at hq
              exact hq
          · refine b_iload_n dX12_spy_72 rfl rfl ?_
            refine b_callS (As := [_]) (st := []) dX12_spy_73 lk_X12_469 lm_X12_bitsOf ls_X12_bitsOf rfl rfl (Nat.le_of_ble_eq_true rfl) (Nat.le_refl _) (by decide) ?_
            refine c_X12_bitsOf (by have := stN_lt (hsB T F) (t_n T); have := pow8 h8; omega) ?_
            rw [stN_pc (hsB T F) _ h8]
            refine b_goto (tgt := 88) dX12_spy_76 (by decide) ?_
            refine b_iret rfl (by decide) dX12_spy_88 ?_
            have D2 := F1.tr (fx.fd (by rw [s44, hsp]))
            have hq := hq h D2 hR2 (by rw [spyM_0 e14, fx.2 2 (by decide) (by decide)]; exact c1)
            rw [spyM_0 e14] at hq
            simp only [if_neg h25] at hq
            simp only [if_pos h69] at hq
            exact hq
        · have e51 : i < 8 := nn_nle (a := 8) (b := i) (by omega) (by omega) h51
          refine b_iload_n dX12_spy_54 rfl rfl ?_
          refine b_iload_n dX12_spy_55 rfl rfl ?_
          refine b_callS (As := [_, _]) (st := []) dX12_spy_56 lk_X12_370 lm_X12_isOf ls_X12_isOf rfl rfl (Nat.le_of_ble_eq_true rfl) (Nat.le_refl _) (by decide) ?_
          refine c_X12_isOf ?_
          refine b_if_ne (tgt := 68) dX12_spy_59 (by decide) (fun h59 => ?_) (fun h59 => ?_)
          · have e59 := b2i_1 h59
            refine b_iload_n dX12_spy_68 rfl rfl ?_
            refine b_if_ne (tgt := 79) dX12_spy_69 (by decide) (fun h69 => ?_) (fun h69 => ?_)
            · refine b_iload_n dX12_spy_79 rfl rfl ?_
              refine b_if_ne (tgt := 87) dX12_spy_80 (by decide) (fun h80 => ?_) (fun h80 => ?_)
              · refine b_iload_n dX12_spy_87 rfl rfl ?_
                refine b_iret rfl (by decide) dX12_spy_88 ?_
                have D2 := F1.tr (fx.fd (by rw [s44, hsp]))
                have hq := hq h D2 hR2 (by rw [spyM_0 e14, fx.2 2 (by decide) (by decide)]; exact c1)
                rw [spyM_0 e14] at hq
                simp only [if_neg h25] at hq
                simp only [if_neg h69] at hq
                rw [stN_bt (hsB T F) (t_n T) h8 i (by omega)] at e59
                simp only [Bool.and_eq_true, decide_eq_true_eq] at e59
                rw [hfn, show t_n T - i = (t_n T - (i + 1)) + 1 by omega, fndF, if_pos e59.2] at hq
                exact hq
              · refine b_iconst (v := (-1)) dX12_spy_83 (by decide +kernel) ?_
                refine b_goto (tgt := 88) dX12_spy_84 (by decide) ?_
                refine b_iret rfl (by decide) dX12_spy_88 ?_
                have D2 := F1.tr (fx.fd (by rw [s44, hsp]))
                have hq := hq h D2 hR2 (by rw [spyM_0 e14, fx.2 2 (by decide) (by decide)]; exact c1)
                rw [spyM_0 e14] at hq
                simp only [if_neg h25] at hq
                simp only [if_neg h69] at hq
                have ez : stN (hsB T F) (t_n T) = 0 := nI_inj (b := 0) (by have := stN_lt (hsB T F) (t_n T); have := pow8 h8; omega) (by decide) h80
                rw [ez] at e59
                exact absurd e59 (by rw [(show ∀ p, p < 8 → (btI (nI 0) (nI p) == 1) = false from by decide +kernel) i (by omega)]; decide)
            · refine b_iload_n dX12_spy_72 rfl rfl ?_
              refine b_callS (As := [_]) (st := []) dX12_spy_73 lk_X12_469 lm_X12_bitsOf ls_X12_bitsOf rfl rfl (Nat.le_of_ble_eq_true rfl) (Nat.le_refl _) (by decide) ?_
              refine c_X12_bitsOf (by have := stN_lt (hsB T F) (t_n T); have := pow8 h8; omega) ?_
              rw [stN_pc (hsB T F) _ h8]
              refine b_goto (tgt := 88) dX12_spy_76 (by decide) ?_
              refine b_iret rfl (by decide) dX12_spy_88 ?_
              have D2 := F1.tr (fx.fd (by rw [s44, hsp]))
              have hq := hq h D2 hR2 (by rw [spyM_0 e14, fx.2 2 (by decide) (by decide)]; exact c1)
              rw [spyM_0 e14] at hq
              simp only [if_neg h25] at hq
              simp only [if_pos h69] at hq
              exact hq
          · have e59 := b2i_0 h59
            refine b_incN (j := i) (lv' := [(0, _), (1, _), (2, _), (3, _)]) dX12_spy_62 rfl rfl (by decide) rfl rfl ?_
            refine b_goto (tgt := 48) dX12_spy_65 (by decide) ?_
            refine ih (i + 1) (by omega) (by omega) ?_
            rw [bt1, ← bt1, stN_bt (hsB T F) (t_n T) h8 i (by omega)] at e59
            rw [hfn]
            by_cases e : i < t_n T
            · rw [decide_eq_true e, Bool.true_and] at e59
              rw [show t_n T - i = (t_n T - (i + 1)) + 1 by omega, fndF, if_neg (by rw [e59]; decide)]
            · rw [show t_n T - i = 0 by omega, show t_n T - (i + 1) = 0 by omega, fndF, fndF]
      refine b_istore_n (lv' := [(0, _), (1, _), (2, _)]) dX12_spy_45 rfl (by decide) rfl rfl ?_
      refine b_iconst (v := 0) dX12_spy_46 (by decide +kernel) ?_
      refine b_istore_n (lv' := [(0, _), (1, _), (2, _), (3, _)]) dX12_spy_47 rfl (by decide) rfl rfl ?_
      exact LP 0 (Nat.zero_le _) rfl
    · refine b_aload_n dX12_spy_28 rfl rfl ?_
      refine b_callV (As := []) (st := []) dX12_spy_29 lk_X12_477 lm_X12_isAsHeard lv_X12_isAsHeard rfl (by decide) rfl rfl rfl (Nat.le_of_ble_eq_true rfl) (Nat.le_refl _) (by decide) ?_
      refine c_X12_isAsHeard (sp := -1) hR hT oT oF hM.2.2.2.1 hM.2.2.2.2.1 hsp (fun h hR2 i1 i2 => ?_)
      have fx : FX g1 h := ⟨i1, fun j j1 _ => i2 j j1⟩
      have s44 : h 84 44 = -1 := by rw [i2 44 (by decide)]; exact hsp
      refine b_if_eq (tgt := 39) dX12_spy_32 (by decide) (fun h32 => ?_) (fun h32 => ?_)
      · have e32 := b2i_0 h32
        refine b_iconst (v := 0) dX12_spy_39 (by decide +kernel) ?_
        refine b_iret rfl (by decide) dX12_spy_40 ?_
        have D2 := F1.tr (fx.fd (by rw [s44, hsp]))
        have hq := hq h D2 hR2 (by rw [spyM_0 e14, fx.2 2 (by decide) (by decide)]; exact c1)
        rw [spyM_0 e14] at hq
        simp only [if_pos h25, e32] at hq
        exact hq
      · have e32 := b2i_1 h32
        refine b_iconst (v := 1) dX12_spy_35 (by decide +kernel) ?_
        refine b_goto (tgt := 40) dX12_spy_36 (by decide) ?_
        refine b_iret rfl (by decide) dX12_spy_40 ?_
        have D2 := F1.tr (fx.fd (by rw [s44, hsp]))
        have hq := hq h D2 hR2 (by rw [spyM_0 e14, fx.2 2 (by decide) (by decide)]; exact c1)
        rw [spyM_0 e14] at hq
        simp only [if_pos h25, e32] at hq
        exact hq
  · have e14 := b2i_0 h14
    refine b_aload_n dX12_spy_17 rfl rfl ?_
    refine b_iconst (v := 1) dX12_spy_18 (by decide +kernel) ?_
    refine b_callV (As := [_]) (st := []) dX12_spy_19 lk_X12_303 lm_X12_fail lv_X12_fail rfl (by decide) rfl rfl rfl (Nat.le_of_ble_eq_true rfl) (Nat.le_refl _) (by decide) ?_
    refine c_X12_fail ?_
    refine b_iret rfl (by decide) dX12_spy_22 ?_
    rw [show spyM T F w = (1, 0) from spyM_1 e14] at hq
    exact hq _ (F1.tr (FD.code 1)) hR.code (up2_s _ _ _ _)
