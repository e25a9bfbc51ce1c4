theorem b6_tab : ∀ b, b < 12 → rmI (nI b + 6) 12 = byM (nI b + 6) ∧ ¬ nI b = byM (nI b + 6) := by decide +kernel
/-- from where on the tune is looked at in a vote -/
def voS (T : TD) (S : LfS) : Nat := l_n S - (t_n T - pcN (l_g S 3 3).toNatClampNeg)
def isM (T : TD) (S : LfS) (p : Nat) : Bool := decide (cntN (tmP (l_g S 0) (byM (l_g S 5 p + 6)) (voS T S)) (l_n S) < cntN (tmP (l_g S 0) (l_g S 5 p) (voS T S)) (l_n S))
def voB (T : TD) (S : LfS) (p : Nat) : Bool := t_g T 0 p == 2 && btI (l_g S 3 2 ||| l_g S 3 3) (nI p) == 0
def voM (T : TD) (S : LfS) : Nat → Int32
  | 0 => 0
  | p + 1 => if voB T S p then voM T S p + (if isM T S p then 1 else -1) else voM T S p
theorem tmP_cg {f f2 : Nat → Int32} {n s : Nat} {x : Int32} (h : ∀ i, i < n → f i = f2 i) : cntN (tmP f x s) n = cntN (tmP f2 x s) n := cntN_cg (fun i hi => by unfold tmP; rw [h i hi])
theorem okL.dead {T : TD} {S : LfS} (o : okL T S) (h8 : t_n T ≤ 8) : ∃ m, m < 2 ^ t_n T ∧ l_g S 3 3 = nI m ∧ (l_g S 3 3).toNatClampNeg = m ∧ m < 256 := by
  obtain ⟨m, hm, e⟩ := o.2.2.2.1
  have := pow8 h8
  exact ⟨m, hm, e, by rw [e, nI_cl (by omega)], by omega⟩
theorem sgn_lt {a b : Nat} (ha : a ≤ 400) (hb : b ≤ 400) : (0 : Int32) < nI a - nI b ↔ b < a := by
  rw [Int32.lt_iff_toInt_lt, pk_sub_toInt (by omega) (by omega), show (0 : Int32).toInt = 0 from by decide]; omega
theorem c_X11_vote {E : En} {d : Nat} {Q : QT} {X : XT} {g : G2} {t : Nat} (ht : is_town t) (h0 : g 0 2 = nI t) {T : TD} {S : LfS} {sp : Int32} (hR : RLf g 31 T sp S) (hT : RTn g t T) (oL : okL T S) (hq : Q (some (.int (voM T S (t_n T)))) g) : M E md_X11_vote (d + 1) [.ref 0] g Q X := by
  refine M.of _ rfl rfl (Nat.le_of_ble_eq_true rfl) ?_
  obtain ⟨m, hm, em, ec, hm2⟩ := oL.dead hT.le
  have h8 := hT.le
  have h4 := hR.le
  obtain ⟨_, _, _, hpc⟩ := msk_tab (t_n T) (by omega) m hm
  have hvs : voS T S = l_n S - (t_n T - pcN m) := by unfold voS; rw [ec]
  have hs : voS T S ≤ l_n S := by omega
  have LP : ∀ p, p ≤ t_n T → B E md_X11_vote (d + 1) Q X 38 [(0, .ref 0), (1, .int (nI (t_n T - pcN m))), (2, .int (nI (voS T S))), (3, .int (voM T S p)), (4, .int (nI p))] [] g 0 := by
    refine lp_up (fun p hp ih => ?_)
    refine b_iload dX11_vote_38 rfl ?_
    refine b_aload_n dX11_vote_40 rfl rfl ?_
    refine b_getD lf_X11_26 rfl h0 (town_31 ht) dX11_vote_41 ?_
    refine b_getI lf_X11_124 (town_c ht) dX11_vote_44 ?_
    refine b_topE (y := nI (t_n T)) (hT.n) ?_
    refine b_icmp_ge (tgt := 154) dX11_vote_47 (by decide) (fun h47 => ?_) (fun h47 => ?_)
    · have e47 : (t_n T) ≤ p := nn_le (a := (t_n T)) (b := p) (by omega) (by omega) h47
      have e : p = t_n T := by omega
      subst e
      refine b_iload_n dX11_vote_154 rfl rfl ?_
      refine b_iret rfl (by decide) dX11_vote_155 ?_
      exact hq
    · have e47 : p < (t_n T) := nn_nle (a := (t_n T)) (b := p) (by omega) (by omega) h47
      refine b_aload_n dX11_vote_50 rfl rfl ?_
      refine b_getD lf_X11_26 rfl h0 (town_31 ht) dX11_vote_51 ?_
      refine b_getR (b := (t + 1)) lf_X11_167 (town_c ht) (town_r1 ht) dX11_vote_54 ?_
      refine b_iload dX11_vote_57 rfl ?_
      refine b_ildN (j := p) dX11_vote_59 (rfl) (by rw [(town_n1 ht)]; omega) ?_
      refine b_iconst (v := 2) dX11_vote_60 (by decide +kernel) ?_
      refine b_icmp_ne (tgt := 148) dX11_vote_61 (by decide) (fun h61 => ?_) (fun h61 => ?_)
      · refine b_incN (j := p) (lv' := [(0, _), (1, _), (2, _), (3, _), (4, _)]) dX11_vote_148 rfl rfl (by decide) rfl rfl ?_
        refine b_goto (tgt := 38) dX11_vote_151 (by decide) ?_
        refine b_take 5 ?_
        have z := ih (p + 1) (by omega) (by omega)
        rw [voM, if_neg (by unfold voB; rw [← hT.kd p e47, beq_eq_false_iff_ne.mpr h61]; simp)] at z
        exact z
      · refine b_aload_n dX11_vote_64 rfl rfl ?_
        refine b_getR (b := 31) lf_X11_33 rfl rfl dX11_vote_65 ?_
        refine b_getI lf_X11_150 (life_c is_life31) dX11_vote_68 ?_
        refine b_aload_n dX11_vote_71 rfl rfl ?_
        refine b_getR (b := 31) lf_X11_33 rfl rfl dX11_vote_72 ?_
        refine b_getI lf_X11_153 (life_c is_life31) dX11_vote_75 ?_
        refine b_ior dX11_vote_78 ?_
        refine b_iload dX11_vote_79 rfl ?_
        refine b_callS (As := [_, _]) (st := []) dX11_vote_81 lk_X11_237 lm_X11_isIn ls_X11_isIn rfl rfl (Nat.le_of_ble_eq_true rfl) (Nat.le_refl _) (by decide) ?_
        refine c_X11_isIn ?_
        rw [hR.aw, hR.de]
        refine b_if_ne (tgt := 148) dX11_vote_84 (by decide) (fun h84 => ?_) (fun h84 => ?_)
        · have e84 := b2i_1 h84
          refine b_incN (j := p) (lv' := [(0, _), (1, _), (2, _), (3, _), (4, _)]) dX11_vote_148 rfl rfl (by decide) rfl rfl ?_
          refine b_goto (tgt := 38) dX11_vote_151 (by decide) ?_
          refine b_take 5 ?_
          have z := ih (p + 1) (by omega) (by omega)
          rw [voM, if_neg (by unfold voB; rw [show (btI (l_g S 3 2 ||| l_g S 3 3) (nI p) == 0) = false by simpa using e84]; simp)] at z
          exact z
        · have e84 := b2i_0 h84
          refine b_aload_n dX11_vote_87 rfl rfl ?_
          refine b_getD lf_X11_26 rfl h0 (town_31 ht) dX11_vote_88 ?_
          refine b_getR (b := (t + 4)) lf_X11_176 (town_c ht) (town_r4 ht) dX11_vote_91 ?_
          refine b_iload dX11_vote_94 rfl ?_
          refine b_ildN (j := p) dX11_vote_96 (rfl) (by rw [(town_n4 ht)]; omega) ?_
          obtain ⟨b, hb, eb⟩ := oL.1.2.2.2 p e47
          have e5 : g (t + 4) p = l_g S 5 p := by rw [hT.ba p e47, oL.2.1 p e47]
          rw [e5]
          refine b_istore (lv' := [(0, _), (1, _), (2, _), (3, _), (4, _), (5, _)]) dX11_vote_97 (by decide) rfl rfl ?_
          refine b_aload_n dX11_vote_99 rfl rfl ?_
          refine b_getR (b := 31) lf_X11_33 rfl rfl dX11_vote_100 ?_
          refine b_iload dX11_vote_103 rfl ?_
          refine b_iload_n dX11_vote_105 rfl rfl ?_
          refine b_callV (As := [_, _]) (st := []) dX11_vote_106 lk_X11_295 lm_X5_times lv_X5_times (life_c is_life31) (by decide) rfl rfl rfl (Nat.le_of_ble_eq_true rfl) (Nat.le_refl _) (by decide) ?_
          refine c_X5_times is_life31 hR.n hR.le hs ?_
          refine b_aload_n dX11_vote_109 rfl rfl ?_
          refine b_getR (b := 31) lf_X11_33 rfl rfl dX11_vote_110 ?_
          refine b_iload dX11_vote_113 rfl ?_
          refine b_bipush (v := 6) dX11_vote_115 (by decide +kernel) ?_
          refine b_iadd dX11_vote_117 ?_
          refine b_bipush (v := 12) dX11_vote_118 (by decide +kernel) ?_
          refine b_irem dX11_vote_120 (by decide +kernel) ?_
          refine b_iload_n dX11_vote_121 rfl rfl ?_
          refine b_callV (As := [_, _]) (st := [_]) dX11_vote_122 lk_X11_295 lm_X5_times lv_X5_times (life_c is_life31) (by decide) rfl rfl rfl (Nat.le_of_ble_eq_true rfl) (Nat.le_refl _) (by decide) ?_
          refine c_X5_times is_life31 hR.n hR.le hs ?_
          have m1 := cntN_le (tmP (g 32) (l_g S 5 p) (voS T S)) (l_n S)
          have m2 := cntN_le (tmP (g 32) (rmI (l_g S 5 p + 6) 12) (voS T S)) (l_n S)
          have er : rmI (l_g S 5 p + 6) 12 = byM (l_g S 5 p + 6) := by rw [eb]; exact (b6_tab b hb).1
          refine b_icmp_le (tgt := 132) dX11_vote_125 (by decide) (fun h125 => ?_) (fun h125 => ?_)
          · have e125 : (cntN (tmP (g 32) (l_g S 5 p) (voS T S)) (l_n S)) ≤ (cntN (tmP (g 32) (rmI (l_g S 5 p + 6) 12) (voS T S)) (l_n S)) := nn_le (a := (cntN (tmP (g 32) (l_g S 5 p) (voS T S)) (l_n S))) (b := (cntN (tmP (g 32) (rmI (l_g S 5 p + 6) 12) (voS T S)) (l_n S))) (by omega) (by omega) h125
            have hc : ¬ cntN (tmP (l_g S 0) (byM (l_g S 5 p + 6)) (voS T S)) (l_n S) < cntN (tmP (l_g S 0) (l_g S 5 p) (voS T S)) (l_n S) := by rw [← er, ← tmP_cg hR.sg, ← tmP_cg hR.sg]; exact Nat.not_lt.mpr e125
            refine b_iconst (v := 0) dX11_vote_132 (by decide +kernel) ?_
            refine b_istore (lv' := [(0, _), (1, _), (2, _), (3, _), (4, _), (5, _), (6, _)]) dX11_vote_133 (by decide) rfl rfl ?_
            refine b_iload_n dX11_vote_135 rfl rfl ?_
            refine b_iload dX11_vote_136 rfl ?_
            refine b_if_eq (tgt := 145) dX11_vote_138 (by decide) (fun h138 => ?_) (fun h138 => ?_)
            · refine b_iconst (v := (-1)) dX11_vote_145 (by decide +kernel) ?_
              refine b_iadd dX11_vote_146 ?_
              refine b_istore_n (lv' := [(0, _), (1, _), (2, _), (3, _), (4, _), (5, _), (6, _)]) dX11_vote_147 rfl (by decide) rfl rfl ?_
              refine b_incN (j := p) (lv' := [(0, _), (1, _), (2, _), (3, _), (4, _), (5, _), (6, _)]) dX11_vote_148 rfl rfl (by decide) rfl rfl ?_
              refine b_goto (tgt := 38) dX11_vote_151 (by decide) ?_
              refine b_take 5 ?_
              have z := ih (p + 1) (by omega) (by omega)
              rw [voM, if_pos (by unfold voB; rw [← hT.kd p e47, h61, show (btI (l_g S 3 2 ||| l_g S 3 3) (nI p) == 0) = true by simpa using e84]; rfl), if_neg (by unfold isM; rw [decide_eq_false hc]; decide)] at z
              exact z
            · exact absurd rfl h138
          · have e125 : (cntN (tmP (g 32) (rmI (l_g S 5 p + 6) 12) (voS T S)) (l_n S)) < (cntN (tmP (g 32) (l_g S 5 p) (voS T S)) (l_n S)) := nn_nle (a := (cntN (tmP (g 32) (l_g S 5 p) (voS T S)) (l_n S))) (b := (cntN (tmP (g 32) (rmI (l_g S 5 p + 6) 12) (voS T S)) (l_n S))) (by omega) (by omega) h125
            have hc : cntN (tmP (l_g S 0) (byM (l_g S 5 p + 6)) (voS T S)) (l_n S) < cntN (tmP (l_g S 0) (l_g S 5 p) (voS T S)) (l_n S) := by rw [← er, ← tmP_cg hR.sg, ← tmP_cg hR.sg]; exact e125
            refine b_iconst (v := 1) dX11_vote_128 (by decide +kernel) ?_
            refine b_goto (tgt := 133) dX11_vote_129 (by decide) ?_
            refine b_istore (lv' := [(0, _), (1, _), (2, _), (3, _), (4, _), (5, _), (6, _)]) dX11_vote_133 (by decide) rfl rfl ?_
            refine b_iload_n dX11_vote_135 rfl rfl ?_
            refine b_iload dX11_vote_136 rfl ?_
            refine b_if_eq (tgt := 145) dX11_vote_138 (by decide) (fun h138 => ?_) (fun h138 => ?_)
            · exact absurd h138 (by decide)
            · refine b_iconst (v := 1) dX11_vote_141 (by decide +kernel) ?_
              refine b_goto (tgt := 146) dX11_vote_142 (by decide) ?_
              refine b_iadd dX11_vote_146 ?_
              refine b_istore_n (lv' := [(0, _), (1, _), (2, _), (3, _), (4, _), (5, _), (6, _)]) dX11_vote_147 rfl (by decide) rfl rfl ?_
              refine b_incN (j := p) (lv' := [(0, _), (1, _), (2, _), (3, _), (4, _), (5, _), (6, _)]) dX11_vote_148 rfl rfl (by decide) rfl rfl ?_
              refine b_goto (tgt := 38) dX11_vote_151 (by decide) ?_
              refine b_take 5 ?_
              have z := ih (p + 1) (by omega) (by omega)
              rw [voM, if_pos (by unfold voB; rw [← hT.kd p e47, h61, show (btI (l_g S 3 2 ||| l_g S 3 3) (nI p) == 0) = true by simpa using e84]; rfl), if_pos (show isM T S p = true from decide_eq_true hc)] at z
              exact z
  refine b_aload_n dX11_vote_0 rfl rfl ?_
  refine b_getD lf_X11_26 rfl h0 (town_31 ht) dX11_vote_1 ?_
  refine b_getI lf_X11_124 (town_c ht) dX11_vote_4 ?_
  refine b_topE (y := nI (t_n T)) (hT.n) ?_
  refine b_aload_n dX11_vote_7 rfl rfl ?_
  refine b_getR (b := 31) lf_X11_33 rfl rfl dX11_vote_8 ?_
  refine b_getI lf_X11_153 (life_c is_life31) dX11_vote_11 ?_
  refine b_callS (As := [_]) (st := [_]) dX11_vote_14 lk_X11_318 lm_J6_bitCount_0f7a4 ls_J6_bitCount_0f7a4 rfl rfl (Nat.le_of_ble_eq_true rfl) (Nat.le_refl _) (by decide) ?_
  refine c_bitCount ?_
  rw [hR.de, em, bc_pc (by omega)]
  refine b_isub dX11_vote_17 ?_
  refine b_topE (nI_sub (t_n T) (pcN m) (by omega)) ?_
  refine b_istore_n (lv' := [(0, _), (1, _)]) dX11_vote_18 rfl (by decide) rfl rfl ?_
  refine b_iconst (v := 0) dX11_vote_19 (by decide +kernel) ?_
  refine b_aload_n dX11_vote_20 rfl rfl ?_
  refine b_getR (b := 31) lf_X11_33 rfl rfl dX11_vote_21 ?_
  refine b_getI lf_X11_140 (life_c is_life31) dX11_vote_24 ?_
  refine b_topE (y := nI (l_n S)) (hR.n) ?_
  refine b_iload_n dX11_vote_27 rfl rfl ?_
  refine b_isub dX11_vote_28 ?_
  refine b_max dX11_vote_29 lc_X11_279 (by omega) (Nat.le_of_ble_eq_true rfl) (by decide) ?_
  refine b_topE (y := nI (voS T S)) (by rw [hvs]; exact mx0 (by omega) (by omega)) ?_
  refine b_istore_n (lv' := [(0, _), (1, _), (2, _)]) dX11_vote_32 rfl (by decide) rfl rfl ?_
  refine b_iconst (v := 0) dX11_vote_33 (by decide +kernel) ?_
  refine b_istore_n (lv' := [(0, _), (1, _), (2, _), (3, _)]) dX11_vote_34 rfl (by decide) rfl rfl ?_
  refine b_iconst (v := 0) dX11_vote_35 (by decide +kernel) ?_
  refine b_istore (lv' := [(0, _), (1, _), (2, _), (3, _), (4, _)]) dX11_vote_36 (by decide) rfl rfl ?_
  exact LP 0 (Nat.zero_le _)
theorem sub_sw1 (a b : Int32) : a + 1 - b = a - b + 1 := by rw [Int32.sub_eq_add_neg, Int32.sub_eq_add_neg, Int32.add_assoc, Int32.add_assoc, Int32.add_comm 1]
theorem sub_sw2 (a b : Int32) : a - (b + 1) = a - b + (-1) := by rw [Int32.sub_eq_add_neg, Int32.sub_eq_add_neg, Int32.neg_add, Int32.sub_eq_add_neg, Int32.add_assoc]
theorem c_X12_isFor {E : En} {d : Nat} {Q : QT} {X : XT} {g : G2} {T : TD} {S : LfS} {p : Nat} (hR : RMl g T S) (hT : RMt g T) (oL : okL T S) (hp : p < t_n T) (hq : Q (some (.int (b2i (isM T S p)))) g) : M E md_X12_isFor (d + 1) [.ref 84, .int (nI p)] g Q X := by
  refine M.of _ rfl rfl (Nat.le_of_ble_eq_true rfl) ?_
  obtain ⟨m, hm, em, ec, hm2⟩ := oL.dead hT.le
  have h8 := hT.le
  have h4 := hR.le
  obtain ⟨_, hmk, hpk, hpc⟩ := msk_tab (t_n T) (by omega) m hm
  have hp2 := pow8 h8
  have hvs : voS T S = l_n S - (t_n T - pcN m) := by unfold voS; rw [ec]
  have hs : voS T S ≤ l_n S := by omega
  obtain ⟨b, hb, eb⟩ := oL.1.2.2.2 p hp
  have hne : ¬ l_g S 5 p = byM (l_g S 5 p + 6) := by rw [eb]; exact (b6_tab b hb).2
  have LP : ∀ i, i ≤ l_n S → voS T S ≤ i → B E md_X12_isFor (d + 1) Q X 35 [(0, .ref 84), (1, .int (nI p)), (2, .int (nI (t_n T - pcN m))), (3, .int (nI (cntN (tmP (g 104) (l_g S 5 p) (voS T S)) i) - nI (cntN (tmP (g 104) (byM (l_g S 5 p + 6)) (voS T S)) i))), (4, .int (nI i))] [] g 0 := by
    refine lp_up (fun i hi ih hsi => ?_)
    refine b_iload dX12_isFor_35 rfl ?_
    refine b_aload_n dX12_isFor_37 rfl rfl ?_
    refine b_getI lf_X12_320 rfl dX12_isFor_38 ?_
    refine b_topE (y := nI (l_n S)) (hR.n) ?_
    refine b_icmp_ge (tgt := 100) dX12_isFor_41 (by decide) (fun h41 => ?_) (fun h41 => ?_)
    · have e41 : (l_n S) ≤ i := nn_le (a := (l_n S)) (b := i) (by omega) (by omega) h41
      have e : i = l_n S := by omega
      subst e
      have m1 := cntN_le (tmP (g 104) (l_g S 5 p) (voS T S)) (l_n S)
      have m2 := cntN_le (tmP (g 104) (byM (l_g S 5 p + 6)) (voS T S)) (l_n S)
      refine b_iload_n dX12_isFor_100 rfl rfl ?_
      refine b_if_le (tgt := 108) dX12_isFor_101 (by decide) (fun h101 => ?_) (fun h101 => ?_)
      · have e101 : isM T S p = false := by unfold isM; rw [← tmP_cg hR.sg, ← tmP_cg hR.sg]; exact decide_eq_false (fun q => absurd ((sgn_lt (by omega) (by omega)).mpr q) (Int32.not_lt.mpr h101))
        refine b_iconst (v := 0) dX12_isFor_108 (by decide +kernel) ?_
        refine b_zret (Or.inl rfl) rfl (by decide) dX12_isFor_109 ?_
        rw [e101] at hq
        exact hq
      · have e101 : isM T S p = true := by unfold isM; rw [← tmP_cg hR.sg, ← tmP_cg hR.sg]; exact decide_eq_true ((sgn_lt (by omega) (by omega)).mp (Int32.not_le.mp h101))
        refine b_iconst (v := 1) dX12_isFor_104 (by decide +kernel) ?_
        refine b_goto (tgt := 109) dX12_isFor_105 (by decide) ?_
        refine b_zret (Or.inr rfl) rfl (by decide) dX12_isFor_109 ?_
        rw [e101] at hq
        exact hq
    · have e41 : i < (l_n S) := nn_nle (a := (l_n S)) (b := i) (by omega) (by omega) h41
      refine b_iload_n dX12_isFor_44 rfl rfl ?_
      refine b_aload_n dX12_isFor_45 rfl rfl ?_
      refine b_getR (b := 104) lf_X12_93 rfl rfl dX12_isFor_46 ?_
      refine b_iload dX12_isFor_49 rfl ?_
      refine b_ildN (j := i) dX12_isFor_51 (rfl) (by show _ < 400; omega) ?_
      refine b_aload_n dX12_isFor_52 rfl rfl ?_
      refine b_getR (b := 100) lf_X12_82 rfl rfl dX12_isFor_53 ?_
      refine b_iload_n dX12_isFor_56 rfl rfl ?_
      refine b_ildN (j := p) dX12_isFor_57 (rfl) (by show _ < 8; omega) ?_
      refine b_topE (hR.ba p hp) ?_
      refine b_icmp_ne (tgt := 65) dX12_isFor_58 (by decide) (fun h58 => ?_) (fun h58 => ?_)
      · refine b_aload_n dX12_isFor_65 rfl rfl ?_
        refine b_getR (b := 104) lf_X12_93 rfl rfl dX12_isFor_66 ?_
        refine b_iload dX12_isFor_69 rfl ?_
        refine b_ildN (j := i) dX12_isFor_71 (rfl) (by show _ < 400; omega) ?_
        refine b_aload_n dX12_isFor_72 rfl rfl ?_
        refine b_getR (b := 100) lf_X12_82 rfl rfl dX12_isFor_73 ?_
        refine b_iload_n dX12_isFor_76 rfl rfl ?_
        refine b_ildN (j := p) dX12_isFor_77 (rfl) (by show _ < 8; omega) ?_
        refine b_topE (hR.ba p hp) ?_
        refine b_bipush (v := 6) dX12_isFor_78 (by decide +kernel) ?_
        refine b_iadd dX12_isFor_80 ?_
        refine b_callS (As := [_]) (st := [_, _]) dX12_isFor_81 lk_X12_364 lm_X12_by12 ls_X12_by12 rfl rfl (Nat.le_of_ble_eq_true rfl) (Nat.le_refl _) (by decide) ?_
        refine c_X12_by12 ?_
        refine b_icmp_ne (tgt := 91) dX12_isFor_84 (by decide) (fun h84 => ?_) (fun h84 => ?_)
        · refine b_iconst (v := 0) dX12_isFor_91 (by decide +kernel) ?_
          refine b_iadd dX12_isFor_92 ?_
          refine b_istore_n (lv' := [(0, _), (1, _), (2, _), (3, _), (4, _)]) dX12_isFor_93 rfl (by decide) rfl rfl ?_
          refine b_incN (j := i) (lv' := [(0, _), (1, _), (2, _), (3, _), (4, _)]) dX12_isFor_94 rfl rfl (by decide) rfl rfl ?_
          refine b_goto (tgt := 35) dX12_isFor_97 (by decide) ?_
          have z := ih (i + 1) (by omega) (by omega) (by omega)
          rw [cntN, cntN, if_neg (by rw [(show tmP (g 104) (l_g S 5 p) (voS T S) i = false by unfold tmP; rw [decide_eq_true hsi]; simp [h58])]; decide), if_neg (by rw [(show tmP (g 104) (byM (l_g S 5 p + 6)) (voS T S) i = false by unfold tmP; rw [decide_eq_true hsi]; simp [h84])]; decide)] at z
          rw [Nat.add_zero] at z
          rw [← Int32.add_zero (nI _ - nI _)] at z
          exact z
        · refine b_iconst (v := (-1)) dX12_isFor_87 (by decide +kernel) ?_
          refine b_goto (tgt := 92) dX12_isFor_88 (by decide) ?_
          refine b_iadd dX12_isFor_92 ?_
          refine b_istore_n (lv' := [(0, _), (1, _), (2, _), (3, _), (4, _)]) dX12_isFor_93 rfl (by decide) rfl rfl ?_
          refine b_incN (j := i) (lv' := [(0, _), (1, _), (2, _), (3, _), (4, _)]) dX12_isFor_94 rfl rfl (by decide) rfl rfl ?_
          refine b_goto (tgt := 35) dX12_isFor_97 (by decide) ?_
          have z := ih (i + 1) (by omega) (by omega) (by omega)
          rw [cntN, cntN, if_neg (by rw [(show tmP (g 104) (l_g S 5 p) (voS T S) i = false by unfold tmP; rw [decide_eq_true hsi]; simp [h58])]; decide), if_pos (show tmP (g 104) (byM (l_g S 5 p + 6)) (voS T S) i = true by unfold tmP; rw [decide_eq_true hsi]; simp [h84])] at z
          rw [Nat.add_zero] at z
          rw [← nI_1, sub_sw2] at z
          exact z
      · refine b_iconst (v := 1) dX12_isFor_61 (by decide +kernel) ?_
        refine b_goto (tgt := 92) dX12_isFor_62 (by decide) ?_
        refine b_iadd dX12_isFor_92 ?_
        refine b_istore_n (lv' := [(0, _), (1, _), (2, _), (3, _), (4, _)]) dX12_isFor_93 rfl (by decide) rfl rfl ?_
        refine b_incN (j := i) (lv' := [(0, _), (1, _), (2, _), (3, _), (4, _)]) dX12_isFor_94 rfl rfl (by decide) rfl rfl ?_
        refine b_goto (tgt := 35) dX12_isFor_97 (by decide) ?_
        have z := ih (i + 1) (by omega) (by omega) (by omega)
        rw [cntN, cntN, if_pos (show tmP (g 104) (l_g S 5 p) (voS T S) i = true by unfold tmP; rw [decide_eq_true hsi]; simp [h58]), if_neg (by rw [(show tmP (g 104) (byM (l_g S 5 p + 6)) (voS T S) i = false by unfold tmP; rw [decide_eq_true hsi]; simp [h58, hne])]; decide)] at z
        rw [Nat.add_zero] at z
        rw [← nI_1, sub_sw1] at z
        exact z
  refine b_iconst (v := 1) dX12_isFor_0 (by decide +kernel) ?_
  refine b_aload_n dX12_isFor_1 rfl rfl ?_
  refine b_getR (b := 87) lf_X12_40 rfl rfl dX12_isFor_2 ?_
  refine b_iconst (v := 0) dX12_isFor_5 (by decide +kernel) ?_
  refine b_ildN (j := 0) dX12_isFor_6 (rfl) (by show _ < 10; omega) ?_
  refine b_topE (y := nI (t_n T)) (hT.n) ?_
  refine b_ishl dX12_isFor_7 ?_
  refine b_iconst (v := 1) dX12_isFor_8 (by decide +kernel) ?_
  refine b_isub dX12_isFor_9 ?_
  refine b_aload_n dX12_isFor_10 rfl rfl ?_
  refine b_getI lf_X12_326 rfl dX12_isFor_11 ?_
  refine b_topE (hR.de) ?_
  refine b_iconst (v := (-1)) dX12_isFor_14 (by decide +kernel) ?_
  refine b_ixor dX12_isFor_15 ?_
  refine b_iand dX12_isFor_16 ?_
  refine b_topE (y := nI (2 ^ t_n T - 1 - m)) (by rw [em]; exact hmk) ?_
  refine b_callS (As := [_]) (st := []) dX12_isFor_17 lk_X12_469 lm_X12_bitsOf ls_X12_bitsOf rfl rfl (Nat.le_of_ble_eq_true rfl) (Nat.le_refl _) (by decide) ?_
  refine c_X12_bitsOf (by omega) ?_
  rw [hpk]
  refine b_istore_n (lv' := [(0, _), (1, _), (2, _)]) dX12_isFor_20 rfl (by decide) rfl rfl ?_
  refine b_iconst (v := 0) dX12_isFor_21 (by decide +kernel) ?_
  refine b_istore_n (lv' := [(0, _), (1, _), (2, _), (3, _)]) dX12_isFor_22 rfl (by decide) rfl rfl ?_
  refine b_iconst (v := 0) dX12_isFor_23 (by decide +kernel) ?_
  refine b_aload_n dX12_isFor_24 rfl rfl ?_
  refine b_getI lf_X12_320 rfl dX12_isFor_25 ?_
  refine b_topE (y := nI (l_n S)) (hR.n) ?_
  refine b_iload_n dX12_isFor_28 rfl rfl ?_
  refine b_isub dX12_isFor_29 ?_
  refine b_max dX12_isFor_30 lc_X12_453 (by omega) (Nat.le_of_ble_eq_true rfl) (by decide) ?_
  refine b_topE (y := nI (voS T S)) (by rw [hvs]; exact mx0 (by omega) (by omega)) ?_
  refine b_istore (lv' := [(0, _), (1, _), (2, _), (3, _), (4, _)]) dX12_isFor_33 (by decide) rfl rfl ?_
  have z := LP (voS T S) hs (Nat.le_refl _)
  rw [cntN_z (fun i hi => by simp [tmP]; omega), cntN_z (fun i hi => by simp [tmP]; omega)] at z
  exact z
theorem c_X12_vote {E : En} {d : Nat} {Q : QT} {X : XT} {g : G2} {T : TD} {S : LfS} (hR : RMl g T S) (hT : RMt g T) (oL : okL T S) (hq : ∀ h, FD g h → RMl h T S → h 84 2 = 0 → Q (some (.int (voM T S (t_n T)))) h) : M E md_X12_vote (d + 2) [.ref 84] g Q X := by
  refine M.of _ rfl rfl (Nat.le_of_ble_eq_true rfl) ?_
  refine b_aload_n dX12_vote_0 rfl rfl ?_
  refine b_iconst (v := 0) dX12_vote_1 (by decide +kernel) ?_
  refine b_putI lf_X12_165 lp_12_2 rfl dX12_vote_2 ?_
  have F1 : FD g (up2 g 84 2 0) := FD.code 0
  have c1 : up2 g 84 2 0 84 2 = 0 := up2_s _ _ _ _
  have hR := hR.code (x := 0)
  have hT := hT.code (x := 0)
  generalize up2 g 84 2 0 = g1 at F1 c1 hR hT ⊢
  have h8 := hT.le
  have LP : ∀ p, p ≤ t_n T → B E md_X12_vote (d + 2) Q X 9 [(0, .ref 84), (1, .int (voM T S p)), (2, .int (nI p))] [] g1 0 := by
    refine lp_up (fun p hp ih => ?_)
    refine b_iload_n dX12_vote_9 rfl rfl ?_
    refine b_aload_n dX12_vote_10 rfl rfl ?_
    refine b_getR (b := 87) lf_X12_40 rfl rfl dX12_vote_11 ?_
    refine b_iconst (v := 0) dX12_vote_14 (by decide +kernel) ?_
    refine b_ildN (j := 0) dX12_vote_15 (rfl) (by show _ < 10; omega) ?_
    refine b_topE (y := nI (t_n T)) (hT.n) ?_
    refine b_icmp_ge (tgt := 67) dX12_vote_16 (by decide) (fun h16 => ?_) (fun h16 => ?_)
    · have e16 : (t_n T) ≤ p := nn_le (a := (t_n T)) (b := p) (by omega) (by omega) h16
      have e : p = t_n T := by omega
      subst e
      refine b_iload_n dX12_vote_67 rfl rfl ?_
      refine b_iret rfl (by decide) dX12_vote_68 ?_
      exact hq g1 F1 hR c1
    · have e16 : p < (t_n T) := nn_nle (a := (t_n T)) (b := p) (by omega) (by omega) h16
      refine b_aload_n dX12_vote_19 rfl rfl ?_
      refine b_getR (b := 88) lf_X12_44 rfl rfl dX12_vote_20 ?_
      refine b_iload_n dX12_vote_23 rfl rfl ?_
      refine b_ildN (j := p) dX12_vote_24 (rfl) (by show _ < 16; omega) ?_
      refine b_iconst (v := 2) dX12_vote_25 (by decide +kernel) ?_
      refine b_icmp_ne (tgt := 61) dX12_vote_26 (by decide) (fun h26 => ?_) (fun h26 => ?_)
      · refine b_incN (j := p) (lv' := [(0, _), (1, _), (2, _)]) dX12_vote_61 rfl rfl (by decide) rfl rfl ?_
        refine b_goto (tgt := 9) dX12_vote_64 (by decide) ?_
        have z := ih (p + 1) (by omega) (by omega)
        rw [voM, if_neg (by unfold voB; rw [← hT.kd p e16, beq_eq_false_iff_ne.mpr h26]; simp)] at z
        exact z
      · refine b_aload_n dX12_vote_29 rfl rfl ?_
        refine b_getI lf_X12_323 rfl dX12_vote_30 ?_
        refine b_aload_n dX12_vote_33 rfl rfl ?_
        refine b_getI lf_X12_326 rfl dX12_vote_34 ?_
        refine b_ior dX12_vote_37 ?_
        refine b_iload_n dX12_vote_38 rfl rfl ?_
        refine b_callS (As := [_, _]) (st := []) dX12_vote_39 lk_X12_370 lm_X12_isOf ls_X12_isOf rfl rfl (Nat.le_of_ble_eq_true rfl) (Nat.le_refl _) (by decide) ?_
        refine c_X12_isOf ?_
        rw [bt1, hR.aw, hR.de]
        refine b_if_ne (tgt := 61) dX12_vote_42 (by decide) (fun h42 => ?_) (fun h42 => ?_)
        · have e42 := b2i_1 h42
          refine b_incN (j := p) (lv' := [(0, _), (1, _), (2, _)]) dX12_vote_61 rfl rfl (by decide) rfl rfl ?_
          refine b_goto (tgt := 9) dX12_vote_64 (by decide) ?_
          have z := ih (p + 1) (by omega) (by omega)
          rw [voM, if_neg (by unfold voB; rw [show (btI (l_g S 3 2 ||| l_g S 3 3) (nI p) == 0) = false by simpa using e42]; simp)] at z
          exact z
        · have e42 := b2i_0 h42
          refine b_iload_n dX12_vote_45 rfl rfl ?_
          refine b_aload_n dX12_vote_46 rfl rfl ?_
          refine b_iload_n dX12_vote_47 rfl rfl ?_
          refine b_callV (As := [_]) (st := [_]) dX12_vote_48 lk_X12_486 lm_X12_isFor lv_X12_isFor rfl (by decide) rfl rfl rfl (Nat.le_of_ble_eq_true rfl) (Nat.le_refl _) (by decide) ?_
          refine c_X12_isFor hR hT oL (by omega) ?_
          refine b_if_eq (tgt := 58) dX12_vote_51 (by decide) (fun h51 => ?_) (fun h51 => ?_)
          · have e51 := b2i_0 h51
            refine b_iconst (v := (-1)) dX12_vote_58 (by decide +kernel) ?_
            refine b_iadd dX12_vote_59 ?_
            refine b_istore_n (lv' := [(0, _), (1, _), (2, _)]) dX12_vote_60 rfl (by decide) rfl rfl ?_
            refine b_incN (j := p) (lv' := [(0, _), (1, _), (2, _)]) dX12_vote_61 rfl rfl (by decide) rfl rfl ?_
            refine b_goto (tgt := 9) dX12_vote_64 (by decide) ?_
            have z := ih (p + 1) (by omega) (by omega)
            rw [voM, if_pos (by unfold voB; rw [← hT.kd p e16, h26, show (btI (l_g S 3 2 ||| l_g S 3 3) (nI p) == 0) = true by simpa using e42]; rfl), if_neg (by rw [e51]; decide)] at z
            exact z
          · have e51 := b2i_1 h51
            refine b_iconst (v := 1) dX12_vote_54 (by decide +kernel) ?_
            refine b_goto (tgt := 59) dX12_vote_55 (by decide) ?_
            refine b_iadd dX12_vote_59 ?_
            refine b_istore_n (lv' := [(0, _), (1, _), (2, _)]) dX12_vote_60 rfl (by decide) rfl rfl ?_
            refine b_incN (j := p) (lv' := [(0, _), (1, _), (2, _)]) dX12_vote_61 rfl rfl (by decide) rfl rfl ?_
            refine b_goto (tgt := 9) dX12_vote_64 (by decide) ?_
            have z := ih (p + 1) (by omega) (by omega)
            rw [voM, if_pos (by unfold voB; rw [← hT.kd p e16, h26, show (btI (l_g S 3 2 ||| l_g S 3 3) (nI p) == 0) = true by simpa using e42]; rfl), if_pos e51] at z
            exact z
  refine b_iconst (v := 0) dX12_vote_5 (by decide +kernel) ?_
  refine b_istore_n (lv' := [(0, _), (1, _)]) dX12_vote_6 rfl (by decide) rfl rfl ?_
  refine b_iconst (v := 0) dX12_vote_7 (by decide +kernel) ?_
  refine b_istore_n (lv' := [(0, _), (1, _), (2, _)]) dX12_vote_8 rfl (by decide) rfl rfl ?_
  exact LP 0 (Nat.zero_le _)
