def baOK (T : TD) (S : LfS) : Prop := ∀ p, p < t_n T → l_g S 5 p = t_g T 6 p
def perM (T : TD) (S : LfS) (p w : Int32) : Nat × Int32 :=
  if inB p.toInt 0 (t_n T - 1) then (if w = 0 then (0, t_g T 0 p.toNatClampNeg) else if w = 1 then (0, l_g S 4 p.toNatClampNeg) else if w = 2 then (0, t_g T 1 p.toNatClampNeg) else if w = 3 then (0, t_g T 6 p.toNatClampNeg) else if w = 4 then (0, nI (sunM S p.toNatClampNeg))
    else if w = 5 then (0, nI (cntN (fun i => decide (t_g T 1 i < t_g T 1 p.toNatClampNeg)) (t_n T))) else if w = 6 then (0, nI (cntN (fun i => l_g S 6 i == p || l_g S 7 i == p) (l_fn S))) else (1, 0)) else (1, 0)
theorem perM_o {T : TD} {S : LfS} {p w : Int32} (h : inB p.toInt 0 (t_n T - 1) = false) : perM T S p w = (1, 0) := by unfold perM; rw [h]; rfl
theorem perM_i {T : TD} {S : LfS} {p : Nat} {w : Int32} (hp : p < t_n T) (h8 : t_n T ≤ 8) : perM T S (nI p) w = (if w = 0 then (0, t_g T 0 p) else if w = 1 then (0, l_g S 4 p) else if w = 2 then (0, t_g T 1 p) else if w = 3 then (0, t_g T 6 p) else if w = 4 then (0, nI (sunM S p))
    else if w = 5 then (0, nI (cntN (fun i => decide (t_g T 1 i < t_g T 1 p)) (t_n T))) else if w = 6 then (0, nI (cntN (fun i => l_g S 6 i == nI p || l_g S 7 i == nI p) (l_fn S))) else (1, 0)) := by unfold perM; rw [in_nI hp (by omega), if_pos rfl, nI_cl (by omega)]
theorem c_X11_person {E : En} {d : Nat} {Q : QT} {X : XT} {g : G2} {t : Nat} (ht : is_town t) (h0 : g 0 2 = nI t) {T : TD} {S : LfS} {sp : Int32} {x w : Int32} (hR : RLf g 31 T sp S) (hT : RTn g t T) (hq : ∀ v, perM T S x w = (0, v) → Q (some (.int v)) g) (hx : ∀ v, perM T S x w = (1, v) → X nsN g) : M E md_X11_person (d + 7) [.ref 0, .int x, .int w] g Q X := by
  refine M.of _ rfl rfl (Nat.le_of_ble_eq_true rfl) ?_
  refine b_aload_n dX11_person_0 rfl rfl ?_
  refine b_iload_n dX11_person_1 rfl rfl ?_
  refine b_callV (As := [_]) (st := []) dX11_person_2 lk_X11_164 lm_X11_needPerson lv_X11_needPerson rfl (by decide) rfl rfl rfl (Nat.le_of_ble_eq_true rfl) (Nat.le_refl _) (by decide) ?_
  refine c_X11_needPerson ht h0 hT.n hT.le (fun hin => ?_) (fun ho => hx _ (perM_o ho))
  obtain ⟨p, hp, rfl⟩ := in_nat hin
  have h8 := hT.le
  refine b_iload_n dX11_person_5 rfl rfl ?_
  by_cases k0 : w = 0
  · subst k0
    refine b_tableIn (off := 42) (tgt := 48) dX11_person_6 (by decide +kernel) (by decide +kernel) (by decide +kernel) (by decide) ?_
    refine b_aload_n dX11_person_48 rfl rfl ?_
    refine b_getD lf_X11_26 rfl h0 (town_31 ht) dX11_person_49 ?_
    refine b_getR (b := (t + 1)) lf_X11_167 (town_c ht) (town_r1 ht) dX11_person_52 ?_
    refine b_iload_n dX11_person_55 rfl rfl ?_
    refine b_ildN (j := p) dX11_person_56 (rfl) (by rw [(town_n1 ht)]; omega) ?_
    refine b_iret rfl (by decide) dX11_person_57 ?_
    refine hq _ ?_
    rw [perM_i hp hT.le, if_pos rfl]
    rw [hT.kd p hp]
  by_cases k1 : w = 1
  · subst k1
    refine b_tableIn (off := 52) (tgt := 58) dX11_person_6 (by decide +kernel) (by decide +kernel) (by decide +kernel) (by decide) ?_
    refine b_aload_n dX11_person_58 rfl rfl ?_
    refine b_getR (b := 31) lf_X11_33 rfl rfl dX11_person_59 ?_
    refine b_getR (b := 35) lf_X11_170 (life_c is_life31) (life_r11 is_life31) dX11_person_62 ?_
    refine b_iload_n dX11_person_65 rfl rfl ?_
    refine b_ildN (j := p) dX11_person_66 (rfl) (by rw [(life_n4 is_life31)]; omega) ?_
    refine b_iret rfl (by decide) dX11_person_67 ?_
    refine hq _ ?_
    rw [perM_i hp hT.le, if_neg (by decide), if_pos rfl]
    rw [hR.ho p hp]
  by_cases k2 : w = 2
  · subst k2
    refine b_tableIn (off := 62) (tgt := 68) dX11_person_6 (by decide +kernel) (by decide +kernel) (by decide +kernel) (by decide) ?_
    refine b_aload_n dX11_person_68 rfl rfl ?_
    refine b_getD lf_X11_26 rfl h0 (town_31 ht) dX11_person_69 ?_
    refine b_getR (b := (t + 3)) lf_X11_173 (town_c ht) (town_r3 ht) dX11_person_72 ?_
    refine b_iload_n dX11_person_75 rfl rfl ?_
    refine b_ildN (j := p) dX11_person_76 (rfl) (by rw [(town_n3 ht)]; omega) ?_
    refine b_iret rfl (by decide) dX11_person_77 ?_
    refine hq _ ?_
    rw [perM_i hp hT.le, if_neg (by decide), if_neg (by decide), if_pos rfl]
    rw [hT.bd p hp]
  by_cases k3 : w = 3
  · subst k3
    refine b_tableIn (off := 72) (tgt := 78) dX11_person_6 (by decide +kernel) (by decide +kernel) (by decide +kernel) (by decide) ?_
    refine b_aload_n dX11_person_78 rfl rfl ?_
    refine b_getD lf_X11_26 rfl h0 (town_31 ht) dX11_person_79 ?_
    refine b_getR (b := (t + 4)) lf_X11_176 (town_c ht) (town_r4 ht) dX11_person_82 ?_
    refine b_iload_n dX11_person_85 rfl rfl ?_
    refine b_ildN (j := p) dX11_person_86 (rfl) (by rw [(town_n4 ht)]; omega) ?_
    refine b_iret rfl (by decide) dX11_person_87 ?_
    refine hq _ ?_
    rw [perM_i hp hT.le, if_neg (by decide), if_neg (by decide), if_neg (by decide), if_pos rfl]
    rw [hT.ba p hp]
  by_cases k4 : w = 4
  · subst k4
    refine b_tableIn (off := 82) (tgt := 88) dX11_person_6 (by decide +kernel) (by decide +kernel) (by decide +kernel) (by decide) ?_
    refine b_aload_n dX11_person_88 rfl rfl ?_
    refine b_getR (b := 31) lf_X11_33 rfl rfl dX11_person_89 ?_
    refine b_getR (b := 37) lf_X11_179 (life_c is_life31) (life_r13 is_life31) dX11_person_92 ?_
    refine b_iload_n dX11_person_95 rfl rfl ?_
    refine b_ildN (j := p) dX11_person_96 (rfl) (by rw [(life_n6 is_life31)]; omega) ?_
    refine b_iret rfl (by decide) dX11_person_97 ?_
    refine hq _ ?_
    rw [perM_i hp hT.le, if_neg (by decide), if_neg (by decide), if_neg (by decide), if_neg (by decide), if_pos rfl]
    rw [hR.sun p hp]
  by_cases k5 : w = 5
  · subst k5
    refine b_tableIn (off := 92) (tgt := 98) dX11_person_6 (by decide +kernel) (by decide +kernel) (by decide +kernel) (by decide) ?_
    refine b_aload_n dX11_person_98 rfl rfl ?_
    refine b_getD lf_X11_26 rfl h0 (town_31 ht) dX11_person_99 ?_
    refine b_iload_n dX11_person_102 rfl rfl ?_
    refine b_callV (As := [_]) (st := []) dX11_person_103 lk_X11_182 lm_X10_rank lv_X10_rank (town_c ht) (by decide) rfl rfl rfl (Nat.le_of_ble_eq_true rfl) (Nat.le_refl _) (by decide) ?_
    refine c_X10_rank ht hT.n hT.le (by omega) ?_
    refine b_iret rfl (by decide) dX11_person_106 ?_
    refine hq _ ?_
    rw [perM_i hp hT.le, if_neg (by decide), if_neg (by decide), if_neg (by decide), if_neg (by decide), if_neg (by decide), if_pos rfl]
    exact congrArg (fun z => ((0 : Nat), nI z)) (cntN_cg (fun i hi => by simp only [hT.bd i hi, hT.bd p hp]))
  by_cases k6 : w = 6
  · subst k6
    refine b_tableIn (off := 101) (tgt := 107) dX11_person_6 (by decide +kernel) (by decide +kernel) (by decide +kernel) (by decide) ?_
    refine b_aload_n dX11_person_107 rfl rfl ?_
    refine b_getR (b := 31) lf_X11_33 rfl rfl dX11_person_108 ?_
    refine b_getR (b := 38) lf_X11_127 (life_c is_life31) (life_r14 is_life31) dX11_person_111 ?_
    refine b_iload_n dX11_person_114 rfl rfl ?_
    refine b_callV (As := [_]) (st := []) dX11_person_115 lk_X11_185 lm_X1_of lv_X1_of (feuds_c (life_feuds is_life31)) (by decide) rfl rfl rfl (Nat.le_of_ble_eq_true rfl) (Nat.le_refl _) (by decide) ?_
    refine c_X1_of (life_feuds is_life31) hR.fn hR.f6 ?_
    refine b_iret rfl (by decide) dX11_person_118 ?_
    refine hq _ ?_
    rw [perM_i hp hT.le, if_neg (by decide), if_neg (by decide), if_neg (by decide), if_neg (by decide), if_neg (by decide), if_neg (by decide), if_pos rfl]
    exact congrArg (fun z => ((0 : Nat), nI z)) (cntN_cg (fun i hi => by simp only [hR.fa i hi, hR.fb i hi]))
  refine b_tableOut (tgt := 119) dX11_person_6 ?_ (by decide) ?_
  · have j0 : ¬ (w).toInt = 0 := fun q => k0 (Int32.toInt_inj.mp q); have j1 : ¬ (w).toInt = 1 := fun q => k1 (Int32.toInt_inj.mp q); have j2 : ¬ (w).toInt = 2 := fun q => k2 (Int32.toInt_inj.mp q); have j3 : ¬ (w).toInt = 3 := fun q => k3 (Int32.toInt_inj.mp q); have j4 : ¬ (w).toInt = 4 := fun q => k4 (Int32.toInt_inj.mp q); have j5 : ¬ (w).toInt = 5 := fun q => k5 (Int32.toInt_inj.mp q); have j6 : ¬ (w).toInt = 6 := fun q => k6 (Int32.toInt_inj.mp q); omega
  refine b_throwN (text := "nothing such is told of a person") (is := 188) (n := 31) (nn := 6) rfl (by decide +kernel) (by omega) (by decide) (by decide) dX11_person_119 dX11_person_122 (Or.inl ⟨rfl, dX11_person_123⟩) dX11_person_125 dX11_person_128 ?_
  refine hx 0 ?_
  rw [perM_i hp hT.le, if_neg k0, if_neg k1, if_neg k2, if_neg k3, if_neg k4, if_neg k5, if_neg k6]
theorem c_X12_person {E : En} {d : Nat} {Q : QT} {X : XT} {g : G2} {T : TD} {S : LfS} {x w : Int32} (hR : RMl g T S) (hT : RMt g T) (hB : baOK T S) (hq : ∀ v, perM T S x w = (0, v) → Q (some (.int v)) (up2 g 84 2 0)) (hf : ∀ v, perM T S x w = (1, v) → Q (some (.int 0)) (up2 (up2 g 84 2 0) 84 2 1)) : M E md_X12_person (d + 2) [.ref 84, .int x, .int w] g Q X := by
  refine M.of _ rfl rfl (Nat.le_of_ble_eq_true rfl) ?_
  refine b_aload_n dX12_person_0 rfl rfl ?_
  refine b_iconst (v := 0) dX12_person_1 (by decide +kernel) ?_
  refine b_putI lf_X12_165 lp_12_2 rfl dX12_person_2 ?_
  have hR := hR.code (x := 0)
  have hT := hT.code (x := 0)
  generalize up2 g 84 2 0 = g1 at hR hT hq hf ⊢
  refine b_aload_n dX12_person_5 rfl rfl ?_
  refine b_iload_n dX12_person_6 rfl rfl ?_
  refine b_callV (As := [_]) (st := []) dX12_person_7 lk_X12_382 lm_X12_isPerson lv_X12_isPerson rfl (by decide) rfl rfl rfl (Nat.le_of_ble_eq_true rfl) (Nat.le_refl _) (by decide) ?_
  refine c_X12_isPerson hT.n hT.le ?_
  refine b_if_ne (tgt := 19) dX12_person_10 (by decide) (fun h10 => ?_) (fun h10 => ?_)
  · have e10 := b2i_1 h10
    obtain ⟨p, hp, rfl⟩ := in_nat e10
    have h8 := hT.le
    refine b_iconst (v := 0) dX12_person_19 (by decide +kernel) ?_
    refine b_istore_n (lv' := [(0, _), (1, _), (2, _), (3, _)]) dX12_person_20 rfl (by decide) rfl rfl ?_
    refine b_iload_n dX12_person_21 rfl rfl ?_
    by_cases k0 : w = 0
    · subst k0
      refine b_tableIn (off := 42) (tgt := 64) dX12_person_22 (by decide +kernel) (by decide +kernel) (by decide +kernel) (by decide) ?_
      refine b_aload_n dX12_person_64 rfl rfl ?_
      refine b_getR (b := 88) lf_X12_44 rfl rfl dX12_person_65 ?_
      refine b_iload_n dX12_person_68 rfl rfl ?_
      refine b_ildN (j := p) dX12_person_69 (rfl) (by show _ < 16; omega) ?_
      refine b_iret rfl (by decide) dX12_person_70 ?_
      refine hq _ ?_
      rw [perM_i hp hT.le, if_pos rfl]
      rw [hT.kd p hp]
    by_cases k1 : w = 1
    · subst k1
      refine b_tableIn (off := 49) (tgt := 71) dX12_person_22 (by decide +kernel) (by decide +kernel) (by decide +kernel) (by decide) ?_
      refine b_aload_n dX12_person_71 rfl rfl ?_
      refine b_getR (b := 99) lf_X12_80 rfl rfl dX12_person_72 ?_
      refine b_iload_n dX12_person_75 rfl rfl ?_
      refine b_ildN (j := p) dX12_person_76 (rfl) (by show _ < 8; omega) ?_
      refine b_iret rfl (by decide) dX12_person_77 ?_
      refine hq _ ?_
      rw [perM_i hp hT.le, if_neg (by decide), if_pos rfl]
      rw [hR.ho p hp]
    by_cases k2 : w = 2
    · subst k2
      refine b_tableIn (off := 56) (tgt := 78) dX12_person_22 (by decide +kernel) (by decide +kernel) (by decide +kernel) (by decide) ?_
      refine b_aload_n dX12_person_78 rfl rfl ?_
      refine b_getR (b := 90) lf_X12_49 rfl rfl dX12_person_79 ?_
      refine b_iload_n dX12_person_82 rfl rfl ?_
      refine b_ildN (j := p) dX12_person_83 (rfl) (by show _ < 16; omega) ?_
      refine b_iret rfl (by decide) dX12_person_84 ?_
      refine hq _ ?_
      rw [perM_i hp hT.le, if_neg (by decide), if_neg (by decide), if_pos rfl]
      rw [hT.bd p hp]
    by_cases k3 : w = 3
    · subst k3
      refine b_tableIn (off := 63) (tgt := 85) dX12_person_22 (by decide +kernel) (by decide +kernel) (by decide +kernel) (by decide) ?_
      refine b_aload_n dX12_person_85 rfl rfl ?_
      refine b_getR (b := 100) lf_X12_82 rfl rfl dX12_person_86 ?_
      refine b_iload_n dX12_person_89 rfl rfl ?_
      refine b_ildN (j := p) dX12_person_90 (rfl) (by show _ < 8; omega) ?_
      refine b_iret rfl (by decide) dX12_person_91 ?_
      refine hq _ ?_
      rw [perM_i hp hT.le, if_neg (by decide), if_neg (by decide), if_neg (by decide), if_pos rfl]
      rw [hR.ba p hp, hB p hp]
    by_cases k4 : w = 4
    · subst k4
      refine b_tableIn (off := 70) (tgt := 92) dX12_person_22 (by decide +kernel) (by decide +kernel) (by decide +kernel) (by decide) ?_
      refine b_aload_n dX12_person_92 rfl rfl ?_
      refine b_iload_n dX12_person_93 rfl rfl ?_
      refine b_callV (As := [_]) (st := []) dX12_person_94 lk_X12_355 lm_X12_signsOf lv_X12_signsOf rfl (by decide) rfl rfl rfl (Nat.le_of_ble_eq_true rfl) (Nat.le_refl _) (by decide) ?_
      refine c_X12_signsOf hR.n hR.le ?_
      refine b_iret rfl (by decide) dX12_person_97 ?_
      refine hq _ ?_
      rw [perM_i hp hT.le, if_neg (by decide), if_neg (by decide), if_neg (by decide), if_neg (by decide), if_pos rfl]
      exact congrArg (fun z => ((0 : Nat), nI z)) (cntN_cg (fun i hi => by simp only [hR.wh i hi]))
    by_cases k5 : w = 5
    · subst k5
      refine b_tableIn (off := 76) (tgt := 98) dX12_person_22 (by decide +kernel) (by decide +kernel) (by decide +kernel) (by decide) ?_
      refine b_aload_n dX12_person_98 rfl rfl ?_
      refine b_iload_n dX12_person_99 rfl rfl ?_
      refine b_callV (As := [_]) (st := []) dX12_person_100 lk_X12_335 lm_X12_placeOf lv_X12_placeOf rfl (by decide) rfl rfl rfl (Nat.le_of_ble_eq_true rfl) (Nat.le_refl _) (by decide) ?_
      refine c_X12_placeOf hT.n hT.le (by omega) ?_
      refine b_iret rfl (by decide) dX12_person_103 ?_
      refine hq _ ?_
      rw [perM_i hp hT.le, if_neg (by decide), if_neg (by decide), if_neg (by decide), if_neg (by decide), if_neg (by decide), if_pos rfl]
      exact congrArg (fun z => ((0 : Nat), nI z)) (cntN_cg (fun i hi => by simp only [hT.bd i hi, hT.bd p hp]))
    by_cases k6 : w = 6
    · subst k6
      refine b_tableIn (off := 82) (tgt := 104) dX12_person_22 (by decide +kernel) (by decide +kernel) (by decide +kernel) (by decide) ?_
      have h6 := hR.f6
      have LP : ∀ i, i ≤ l_fn S → B E md_X12_person (d + 2) Q X 107 [(0, .ref 84), (1, .int (nI p)), (2, .int 6), (3, .int (nI (cntN (fun i => g1 101 i == nI p || g1 102 i == nI p) i))), (4, .int (nI i))] [] g1 0 := by
        refine lp_up (fun i hi ih => ?_)
        refine b_iload dX12_person_107 rfl ?_
        refine b_aload_n dX12_person_109 rfl rfl ?_
        refine b_getI lf_X12_332 rfl dX12_person_110 ?_
        refine b_topE (hR.fn) ?_
        refine b_icmp_ge (tgt := 152) dX12_person_113 (by decide) (fun h113 => ?_) (fun h113 => ?_)
        · have e113 : (l_fn S) ≤ i := nn_le (a := (l_fn S)) (b := i) (by omega) (by omega) h113
          have e : i = l_fn S := by omega
          subst e
          refine b_iload_n dX12_person_152 rfl rfl ?_
          refine b_iret rfl (by decide) dX12_person_153 ?_
          refine hq _ ?_
          rw [perM_i hp hT.le, if_neg (by decide), if_neg (by decide), if_neg (by decide), if_neg (by decide), if_neg (by decide), if_neg (by decide), if_pos rfl]
          exact congrArg (fun z => ((0 : Nat), nI z)) (cntN_cg (fun i hi => by simp only [hR.fa i hi, hR.fb i hi]))
        · have e113 : i < (l_fn S) := nn_nle (a := (l_fn S)) (b := i) (by omega) (by omega) h113
          refine b_iload_n dX12_person_116 rfl rfl ?_
          refine b_aload_n dX12_person_117 rfl rfl ?_
          refine b_getR (b := 101) lf_X12_84 rfl rfl dX12_person_118 ?_
          refine b_iload dX12_person_121 rfl ?_
          refine b_ildN (j := i) dX12_person_123 (rfl) (by show _ < 6; omega) ?_
          refine b_iload_n dX12_person_124 rfl rfl ?_
          refine b_icmp_eq (tgt := 139) dX12_person_125 (by decide) (fun h125 => ?_) (fun h125 => ?_)
          · refine b_iconst (v := 1) dX12_person_139 (by decide +kernel) ?_
            refine b_goto (tgt := 144) dX12_person_140 (by decide) ?_
            refine b_iadd dX12_person_144 ?_
            refine b_topE (nI_add (cntN (fun i => g1 101 i == nI p || g1 102 i == nI p) i) 1) ?_
            refine b_istore_n (lv' := [(0, _), (1, _), (2, _), (3, _), (4, _)]) dX12_person_145 rfl (by decide) rfl rfl ?_
            refine b_incN (j := i) (lv' := [(0, _), (1, _), (2, _), (3, _), (4, _)]) dX12_person_146 rfl rfl (by decide) rfl rfl ?_
            refine b_goto (tgt := 107) dX12_person_149 (by decide) ?_
            have z := ih (i + 1) (by omega) (by omega)
            rw [cntN, if_pos (by simp [h125])] at z
            exact z
          · refine b_aload_n dX12_person_128 rfl rfl ?_
            refine b_getR (b := 102) lf_X12_87 rfl rfl dX12_person_129 ?_
            refine b_iload dX12_person_132 rfl ?_
            refine b_ildN (j := i) dX12_person_134 (rfl) (by show _ < 6; omega) ?_
            refine b_iload_n dX12_person_135 rfl rfl ?_
            refine b_icmp_ne (tgt := 143) dX12_person_136 (by decide) (fun h136 => ?_) (fun h136 => ?_)
            · refine b_iconst (v := 0) dX12_person_143 (by decide +kernel) ?_
              refine b_iadd dX12_person_144 ?_
              refine b_topE (nI_add (cntN (fun i => g1 101 i == nI p || g1 102 i == nI p) i) 0) ?_
              refine b_istore_n (lv' := [(0, _), (1, _), (2, _), (3, _), (4, _)]) dX12_person_145 rfl (by decide) rfl rfl ?_
              refine b_incN (j := i) (lv' := [(0, _), (1, _), (2, _), (3, _), (4, _)]) dX12_person_146 rfl rfl (by decide) rfl rfl ?_
              refine b_goto (tgt := 107) dX12_person_149 (by decide) ?_
              have z := ih (i + 1) (by omega) (by omega)
              rw [cntN, if_neg (by simp [h125, h136]), Nat.add_zero] at z
              exact z
            · refine b_iconst (v := 1) dX12_person_139 (by decide +kernel) ?_
              refine b_goto (tgt := 144) dX12_person_140 (by decide) ?_
              refine b_iadd dX12_person_144 ?_
              refine b_topE (nI_add (cntN (fun i => g1 101 i == nI p || g1 102 i == nI p) i) 1) ?_
              refine b_istore_n (lv' := [(0, _), (1, _), (2, _), (3, _), (4, _)]) dX12_person_145 rfl (by decide) rfl rfl ?_
              refine b_incN (j := i) (lv' := [(0, _), (1, _), (2, _), (3, _), (4, _)]) dX12_person_146 rfl rfl (by decide) rfl rfl ?_
              refine b_goto (tgt := 107) dX12_person_149 (by decide) ?_
              have z := ih (i + 1) (by omega) (by omega)
              rw [cntN, if_pos (by simp [h136])] at z
              exact z
      refine b_iconst (v := 0) dX12_person_104 (by decide +kernel) ?_
      refine b_istore (lv' := [(0, _), (1, _), (2, _), (3, _), (4, _)]) dX12_person_105 (by decide) rfl rfl ?_
      exact LP 0 (Nat.zero_le _)
    refine b_tableOut (tgt := 154) dX12_person_22 ?_ (by decide) ?_
    · have j0 : ¬ (w).toInt = 0 := fun q => k0 (Int32.toInt_inj.mp q); have j1 : ¬ (w).toInt = 1 := fun q => k1 (Int32.toInt_inj.mp q); have j2 : ¬ (w).toInt = 2 := fun q => k2 (Int32.toInt_inj.mp q); have j3 : ¬ (w).toInt = 3 := fun q => k3 (Int32.toInt_inj.mp q); have j4 : ¬ (w).toInt = 4 := fun q => k4 (Int32.toInt_inj.mp q); have j5 : ¬ (w).toInt = 5 := fun q => k5 (Int32.toInt_inj.mp q); have j6 : ¬ (w).toInt = 6 := fun q => k6 (Int32.toInt_inj.mp q); omega
    refine b_aload_n dX12_person_154 rfl rfl ?_
    refine b_iconst (v := 1) dX12_person_155 (by decide +kernel) ?_
    refine b_callV (As := [_]) (st := []) dX12_person_156 lk_X12_303 lm_X12_fail lv_X12_fail rfl (by decide) rfl rfl rfl (Nat.le_of_ble_eq_true rfl) (Nat.le_refl _) (by decide) ?_
    refine c_X12_fail ?_
    refine b_iret rfl (by decide) dX12_person_159 ?_
    exact hf 0 (by rw [perM_i hp hT.le, if_neg k0, if_neg k1, if_neg k2, if_neg k3, if_neg k4, if_neg k5, if_neg k6])
  · have e10 := b2i_0 h10
    refine b_aload_n dX12_person_13 rfl rfl ?_
    refine b_iconst (v := 1) dX12_person_14 (by decide +kernel) ?_
    refine b_callV (As := [_]) (st := []) dX12_person_15 lk_X12_303 lm_X12_fail lv_X12_fail rfl (by decide) rfl rfl rfl (Nat.le_of_ble_eq_true rfl) (Nat.le_refl _) (by decide) ?_
    refine c_X12_fail ?_
    refine b_iret rfl (by decide) dX12_person_18 ?_
    exact hf 0 (perM_o e10)
def feuM (S : LfS) (k w : Int32) : Nat × Int32 :=
  if inB w.toInt 0 1 = true ∧ inB k.toInt 0 (l_fn S - 1) = true then (0, if w = 0 then l_g S 6 k.toNatClampNeg else l_g S 7 k.toNatClampNeg) else (1, 0)
theorem feuM_i {S : LfS} {k : Nat} {w : Int32} (hw : inB w.toInt 0 1 = true) (hk : k < l_fn S) (h6 : l_fn S ≤ 6) : feuM S (nI k) w = (0, if w = 0 then l_g S 6 k else l_g S 7 k) := by unfold feuM; rw [if_pos ⟨hw, in_nI hk (by omega)⟩, nI_cl (by omega)]
theorem feuM_a {S : LfS} {k w : Int32} (hw : inB w.toInt 0 1 = false) : feuM S k w = (1, 0) := by unfold feuM; rw [if_neg (fun q => by rw [hw] at q; exact absurd q.1 (by decide))]
theorem feuM_b {S : LfS} {k w : Int32} (hk : inB k.toInt 0 (l_fn S - 1) = false) : feuM S k w = (1, 0) := by unfold feuM; rw [if_neg (fun q => by rw [hk] at q; exact absurd q.2 (by decide))]
theorem has_in {p : Int32} {n : Nat} (hn : n < 2 ^ 31) : (if 0 ≤ p ∧ p < nI n then (1 : Int32) else 0) = b2i (inB p.toInt 0 (n - 1)) := by
  by_cases h1 : p < 0
  · rw [in_lt h1, if_neg (fun q => absurd q.1 (Int32.not_le.mpr h1))]; rfl
  · by_cases h2 : nI n ≤ p
    · rw [in_ge hn h2, if_neg (fun q => absurd q.2 (Int32.not_lt.mpr h2))]; rfl
    · rw [in_okn hn h1 h2, if_pos ⟨Int32.not_lt.mp h1, Int32.not_le.mp h2⟩]; rfl
theorem in01 {w : Int32} (h : inB w.toInt 0 1 = true) (h0 : ¬ w = 0) : w = 1 := by
  unfold inB at h
  have h2 := of_decide_eq_true h
  refine Int32.toInt_inj.mp ?_
  have h3 : ¬ w.toInt = 0 := fun q => h0 (Int32.toInt_inj.mp q)
  show w.toInt = 1
  omega
theorem c_X11_feud {E : En} {d : Nat} {Q : QT} {X : XT} {g : G2} {T : TD} {S : LfS} {sp : Int32} {x w : Int32} (hR : RLf g 31 T sp S) (hq : ∀ v, feuM S x w = (0, v) → Q (some (.int v)) g) (hx : ∀ v, feuM S x w = (1, v) → X nsN g) : M E md_X11_feud (d + 7) [.ref 0, .int x, .int w] g Q X := by
  refine M.of _ rfl rfl (Nat.le_of_ble_eq_true rfl) ?_
  refine b_iload_n dX11_feud_0 rfl rfl ?_
  refine b_iconst (v := 1) dX11_feud_1 (by decide +kernel) ?_
  refine b_callS (As := [_, _]) (st := []) dX11_feud_2 lk_X11_198 lm_X11_needWhat ls_X11_needWhat rfl rfl (Nat.le_of_ble_eq_true rfl) (Nat.le_refl _) (by decide) ?_
  refine c_X11_needWhat (fun hw => ?_) (fun hw => hx _ (feuM_a hw))
  refine b_aload_n dX11_feud_5 rfl rfl ?_
  refine b_getR (b := 31) lf_X11_33 rfl rfl dX11_feud_6 ?_
  refine b_getR (b := 38) lf_X11_127 (life_c is_life31) (life_r14 is_life31) dX11_feud_9 ?_
  refine b_iload_n dX11_feud_12 rfl rfl ?_
  refine b_callV (As := [_]) (st := []) dX11_feud_13 lk_X11_202 lm_X1_has lv_X1_has (feuds_c (life_feuds is_life31)) (by decide) rfl rfl rfl (Nat.le_of_ble_eq_true rfl) (Nat.le_refl _) (by decide) ?_
  refine c_X1_has (life_feuds is_life31) hR.fn ?_
  have h6 := hR.f6
  rw [has_in (by omega)]
  refine b_if_ne (tgt := 29) dX11_feud_16 (by decide) (fun h16 => ?_) (fun h16 => ?_)
  · have e16 := b2i_1 h16
    obtain ⟨k, hk, rfl⟩ := in_nat e16
    refine b_iload_n dX11_feud_29 rfl rfl ?_
    refine b_if_ne (tgt := 48) dX11_feud_30 (by decide) (fun h30 => ?_) (fun h30 => ?_)
    · refine b_aload_n dX11_feud_48 rfl rfl ?_
      refine b_getR (b := 31) lf_X11_33 rfl rfl dX11_feud_49 ?_
      refine b_getR (b := 38) lf_X11_127 (life_c is_life31) (life_r14 is_life31) dX11_feud_52 ?_
      refine b_getR (b := 40) lf_X11_210 (feuds_c (life_feuds is_life31)) (feuds_r1 (life_feuds is_life31)) dX11_feud_55 ?_
      refine b_iload_n dX11_feud_58 rfl rfl ?_
      refine b_ildN (j := k) dX11_feud_59 (rfl) (by rw [(feuds_n2 (life_feuds is_life31))]; omega) ?_
      refine b_iret rfl (by decide) dX11_feud_60 ?_
      refine hq _ ?_
      rw [feuM_i hw hk hR.f6, if_neg h30, hR.fb k hk]
    · refine b_aload_n dX11_feud_33 rfl rfl ?_
      refine b_getR (b := 31) lf_X11_33 rfl rfl dX11_feud_34 ?_
      refine b_getR (b := 38) lf_X11_127 (life_c is_life31) (life_r14 is_life31) dX11_feud_37 ?_
      refine b_getR (b := 39) lf_X11_207 (feuds_c (life_feuds is_life31)) (feuds_r0 (life_feuds is_life31)) dX11_feud_40 ?_
      refine b_iload_n dX11_feud_43 rfl rfl ?_
      refine b_ildN (j := k) dX11_feud_44 (rfl) (by rw [(feuds_n1 (life_feuds is_life31))]; omega) ?_
      refine b_goto (tgt := 60) dX11_feud_45 (by decide) ?_
      refine b_iret rfl (by decide) dX11_feud_60 ?_
      refine hq _ ?_
      rw [feuM_i hw hk hR.f6, if_pos h30, hR.fa k hk]
  · have e16 := b2i_0 h16
    have hx := hx _ (feuM_b e16)
    refine b_throwN (text := "no such feud") (is := 205) (n := 33) (nn := 6) rfl (by decide +kernel) (by omega) (by decide) (by decide) dX11_feud_19 dX11_feud_22 (Or.inl ⟨rfl, dX11_feud_23⟩) dX11_feud_25 dX11_feud_28 ?_
    exact hx
theorem c_X12_feud {E : En} {d : Nat} {Q : QT} {X : XT} {g : G2} {T : TD} {S : LfS} {x w : Int32} (hR : RMl g T S) (hq : ∀ v, feuM S x w = (0, v) → Q (some (.int v)) (up2 g 84 2 0)) (hf : ∀ v, feuM S x w = (1, v) → Q (some (.int 0)) (up2 (up2 g 84 2 0) 84 2 1)) : M E md_X12_feud (d + 1) [.ref 84, .int x, .int w] g Q X := by
  refine M.of _ rfl rfl (Nat.le_of_ble_eq_true rfl) ?_
  refine b_aload_n dX12_feud_0 rfl rfl ?_
  refine b_iconst (v := 0) dX12_feud_1 (by decide +kernel) ?_
  refine b_putI lf_X12_165 lp_12_2 rfl dX12_feud_2 ?_
  have hR := hR.code (x := 0)
  generalize up2 g 84 2 0 = g1 at hR hq hf ⊢
  refine b_iload_n dX12_feud_5 rfl rfl ?_
  refine b_i2l dX12_feud_6 rfl ?_
  refine b_lconst (v := 0) dX12_feud_7 (by decide +kernel) ?_
  refine b_aload_n dX12_feud_8 rfl rfl ?_
  refine b_getI lf_X12_332 rfl dX12_feud_9 ?_
  refine b_iconst (v := 1) dX12_feud_12 (by decide +kernel) ?_
  refine b_isub dX12_feud_13 ?_
  refine b_i2l dX12_feud_14 rfl ?_
  refine b_callS (As := [_, _, _]) (st := []) dX12_feud_15 lk_X12_168 lm_X12_isIn ls_X12_isIn rfl rfl (Nat.le_of_ble_eq_true rfl) (Nat.le_refl _) (by decide) ?_
  refine c_X12_isIn ?_
  have h6 := hR.f6
  rw [in_64n hR.fn (by omega), Int32.toInt_toInt64, show (0 : Int64).toInt = 0 from by decide]
  refine b_if_eq (tgt := 30) dX12_feud_18 (by decide) (fun h18 => ?_) (fun h18 => ?_)
  · have e18 := b2i_0 h18
    refine b_aload_n dX12_feud_30 rfl rfl ?_
    refine b_iconst (v := 1) dX12_feud_31 (by decide +kernel) ?_
    refine b_callV (As := [_]) (st := []) dX12_feud_32 lk_X12_303 lm_X12_fail lv_X12_fail rfl (by decide) rfl rfl rfl (Nat.le_of_ble_eq_true rfl) (Nat.le_refl _) (by decide) ?_
    refine c_X12_fail ?_
    refine b_iret rfl (by decide) dX12_feud_35 ?_
    exact hf 0 (feuM_b e18)
  · have e18 := b2i_1 h18
    obtain ⟨k, hk, rfl⟩ := in_nat e18
    refine b_iload_n dX12_feud_21 rfl rfl ?_
    refine b_if_lt (tgt := 30) dX12_feud_22 (by decide) (fun h22 => ?_) (fun h22 => ?_)
    · refine b_aload_n dX12_feud_30 rfl rfl ?_
      refine b_iconst (v := 1) dX12_feud_31 (by decide +kernel) ?_
      refine b_callV (As := [_]) (st := []) dX12_feud_32 lk_X12_303 lm_X12_fail lv_X12_fail rfl (by decide) rfl rfl rfl (Nat.le_of_ble_eq_true rfl) (Nat.le_refl _) (by decide) ?_
      refine c_X12_fail ?_
      refine b_iret rfl (by decide) dX12_feud_35 ?_
      exact hf 0 (feuM_a (in_lt h22))
    · refine b_iload_n dX12_feud_25 rfl rfl ?_
      refine b_iconst (v := 1) dX12_feud_26 (by decide +kernel) ?_
      refine b_icmp_le (tgt := 36) dX12_feud_27 (by decide) (fun h27 => ?_) (fun h27 => ?_)
      · have hw := in_ok (b := 1) rfl h22 h27
        refine b_iload_n dX12_feud_36 rfl rfl ?_
        refine b_if_ne (tgt := 49) dX12_feud_37 (by decide) (fun h37 => ?_) (fun h37 => ?_)
        · refine b_aload_n dX12_feud_49 rfl rfl ?_
          refine b_getR (b := 102) lf_X12_87 rfl rfl dX12_feud_50 ?_
          refine b_iload_n dX12_feud_53 rfl rfl ?_
          refine b_ildN (j := k) dX12_feud_54 (rfl) (by show _ < 6; omega) ?_
          refine b_iret rfl (by decide) dX12_feud_55 ?_
          refine hq _ ?_
          rw [feuM_i hw hk hR.f6, if_neg h37, hR.fb k hk]
        · refine b_aload_n dX12_feud_40 rfl rfl ?_
          refine b_getR (b := 101) lf_X12_84 rfl rfl dX12_feud_41 ?_
          refine b_iload_n dX12_feud_44 rfl rfl ?_
          refine b_ildN (j := k) dX12_feud_45 (rfl) (by show _ < 6; omega) ?_
          refine b_goto (tgt := 55) dX12_feud_46 (by decide) ?_
          refine b_iret rfl (by decide) dX12_feud_55 ?_
          refine hq _ ?_
          rw [feuM_i hw hk hR.f6, if_pos h37, hR.fa k hk]
      · refine b_aload_n dX12_feud_30 rfl rfl ?_
        refine b_iconst (v := 1) dX12_feud_31 (by decide +kernel) ?_
        refine b_callV (As := [_]) (st := []) dX12_feud_32 lk_X12_303 lm_X12_fail lv_X12_fail rfl (by decide) rfl rfl rfl (Nat.le_of_ble_eq_true rfl) (Nat.le_refl _) (by decide) ?_
        refine c_X12_fail ?_
        refine b_iret rfl (by decide) dX12_feud_35 ?_
        exact hf 0 (feuM_a (in_gt rfl h27))
def sigM (S : LfS) (k w : Int32) : Nat × Int32 :=
  if inB w.toInt 0 2 = true ∧ inB k.toInt 0 (l_n S - 1) = true then (0, if w = 0 then l_g S 0 k.toNatClampNeg else if w = 1 then l_g S 1 k.toNatClampNeg else l_g S 2 k.toNatClampNeg) else (1, 0)
theorem sigM_i {S : LfS} {k : Nat} {w : Int32} (hw : inB w.toInt 0 2 = true) (hk : k < l_n S) (h6 : l_n S ≤ 400) : sigM S (nI k) w = (0, if w = 0 then l_g S 0 k else if w = 1 then l_g S 1 k else l_g S 2 k) := by unfold sigM; rw [if_pos ⟨hw, in_nI hk (by omega)⟩, nI_cl (by omega)]
theorem sigM_a {S : LfS} {k w : Int32} (hw : inB w.toInt 0 2 = false) : sigM S k w = (1, 0) := by unfold sigM; rw [if_neg (fun q => by rw [hw] at q; exact absurd q.1 (by decide))]
theorem sigM_b {S : LfS} {k w : Int32} (hk : inB k.toInt 0 (l_n S - 1) = false) : sigM S k w = (1, 0) := by unfold sigM; rw [if_neg (fun q => by rw [hk] at q; exact absurd q.2 (by decide))]
theorem c_X11_sign {E : En} {d : Nat} {Q : QT} {X : XT} {g : G2} {T : TD} {S : LfS} {sp : Int32} {x w : Int32} (hR : RLf g 31 T sp S) (hq : ∀ v, sigM S x w = (0, v) → Q (some (.int v)) g) (hx : ∀ v, sigM S x w = (1, v) → X nsN g) : M E md_X11_sign (d + 7) [.ref 0, .int x, .int w] g Q X := by
  refine M.of _ rfl rfl (Nat.le_of_ble_eq_true rfl) ?_
  refine b_iload_n dX11_sign_0 rfl rfl ?_
  refine b_iconst (v := 2) dX11_sign_1 (by decide +kernel) ?_
  refine b_callS (As := [_, _]) (st := []) dX11_sign_2 lk_X11_198 lm_X11_needWhat ls_X11_needWhat rfl rfl (Nat.le_of_ble_eq_true rfl) (Nat.le_refl _) (by decide) ?_
  refine c_X11_needWhat (fun hw => ?_) (fun hw => hx _ (sigM_a hw))
  have h4 := hR.le
  refine b_iload_n dX11_sign_5 rfl rfl ?_
  refine b_if_lt (tgt := 20) dX11_sign_6 (by decide) (fun h6 => ?_) (fun h6 => ?_)
  · have hx := hx _ (sigM_b (in_lt h6))
    refine b_throwN (text := "no such place") (is := 213) (n := 34) (nn := 6) rfl (by decide +kernel) (by omega) (by decide) (by decide) dX11_sign_20 dX11_sign_23 (Or.inl ⟨rfl, dX11_sign_24⟩) dX11_sign_26 dX11_sign_29 ?_
    exact hx
  · refine b_iload_n dX11_sign_9 rfl rfl ?_
    refine b_aload_n dX11_sign_10 rfl rfl ?_
    refine b_getR (b := 31) lf_X11_33 rfl rfl dX11_sign_11 ?_
    refine b_getI lf_X11_140 (life_c is_life31) dX11_sign_14 ?_
    refine b_icmp_lt (tgt := 30) dX11_sign_17 (by decide) (fun h17 => ?_) (fun h17 => ?_)
    · obtain ⟨k, hk, rfl⟩ := in_nat (in_okn (by omega) h6 (Int32.not_le.mpr (hR.n ▸ h17)))
      refine b_iload_n dX11_sign_30 rfl rfl ?_
      refine b_if_ne (tgt := 44) dX11_sign_31 (by decide) (fun h31 => ?_) (fun h31 => ?_)
      · refine b_iload_n dX11_sign_44 rfl rfl ?_
        refine b_iconst (v := 1) dX11_sign_45 (by decide +kernel) ?_
        refine b_icmp_ne (tgt := 61) dX11_sign_46 (by decide) (fun h46 => ?_) (fun h46 => ?_)
        · refine b_aload_n dX11_sign_61 rfl rfl ?_
          refine b_getR (b := 31) lf_X11_33 rfl rfl dX11_sign_62 ?_
          refine b_getR (b := 34) lf_X11_221 (life_c is_life31) (life_r2 is_life31) dX11_sign_65 ?_
          refine b_iload_n dX11_sign_68 rfl rfl ?_
          refine b_ildN (j := k) dX11_sign_69 (rfl) (by rw [(life_n3 is_life31)]; omega) ?_
          refine b_iret rfl (by decide) dX11_sign_70 ?_
          refine hq _ ?_
          rw [sigM_i hw hk hR.le, if_neg h31, if_neg h46, hR.yi k hk]
        · refine b_aload_n dX11_sign_49 rfl rfl ?_
          refine b_getR (b := 31) lf_X11_33 rfl rfl dX11_sign_50 ?_
          refine b_getR (b := 33) lf_X11_218 (life_c is_life31) (life_r1 is_life31) dX11_sign_53 ?_
          refine b_iload_n dX11_sign_56 rfl rfl ?_
          refine b_ildN (j := k) dX11_sign_57 (rfl) (by rw [(life_n2 is_life31)]; omega) ?_
          refine b_goto (tgt := 70) dX11_sign_58 (by decide) ?_
          refine b_iret rfl (by decide) dX11_sign_70 ?_
          refine hq _ ?_
          rw [sigM_i hw hk hR.le, if_neg h31, if_pos h46, hR.wh k hk]
      · refine b_aload_n dX11_sign_34 rfl rfl ?_
        refine b_getR (b := 31) lf_X11_33 rfl rfl dX11_sign_35 ?_
        refine b_getR (b := 32) lf_X11_215 (life_c is_life31) (life_r0 is_life31) dX11_sign_38 ?_
        refine b_iload_n dX11_sign_41 rfl rfl ?_
        refine b_ildN (j := k) dX11_sign_42 (rfl) (by rw [(life_n1 is_life31)]; omega) ?_
        refine b_iret rfl (by decide) dX11_sign_43 ?_
        refine hq _ ?_
        rw [sigM_i hw hk hR.le, if_pos h31, hR.sg k hk]
    · have hx := hx _ (sigM_b (in_ge (by omega) (hR.n ▸ Int32.not_lt.mp h17)))
      refine b_throwN (text := "no such place") (is := 213) (n := 34) (nn := 6) rfl (by decide +kernel) (by omega) (by decide) (by decide) dX11_sign_20 dX11_sign_23 (Or.inl ⟨rfl, dX11_sign_24⟩) dX11_sign_26 dX11_sign_29 ?_
      exact hx
theorem c_X12_sign {E : En} {d : Nat} {Q : QT} {X : XT} {g : G2} {T : TD} {S : LfS} {x w : Int32} (hR : RMl g T S) (hq : ∀ v, sigM S x w = (0, v) → Q (some (.int v)) (up2 g 84 2 0)) (hf : ∀ v, sigM S x w = (1, v) → Q (some (.int 0)) (up2 (up2 g 84 2 0) 84 2 1)) : M E md_X12_sign (d + 1) [.ref 84, .int x, .int w] g Q X := by
  refine M.of _ rfl rfl (Nat.le_of_ble_eq_true rfl) ?_
  refine b_aload_n dX12_sign_0 rfl rfl ?_
  refine b_iconst (v := 0) dX12_sign_1 (by decide +kernel) ?_
  refine b_putI lf_X12_165 lp_12_2 rfl dX12_sign_2 ?_
  have hR := hR.code (x := 0)
  generalize up2 g 84 2 0 = g1 at hR hq hf ⊢
  refine b_iload_n dX12_sign_5 rfl rfl ?_
  refine b_i2l dX12_sign_6 rfl ?_
  refine b_lconst (v := 0) dX12_sign_7 (by decide +kernel) ?_
  refine b_aload_n dX12_sign_8 rfl rfl ?_
  refine b_getI lf_X12_320 rfl dX12_sign_9 ?_
  refine b_iconst (v := 1) dX12_sign_12 (by decide +kernel) ?_
  refine b_isub dX12_sign_13 ?_
  refine b_i2l dX12_sign_14 rfl ?_
  refine b_callS (As := [_, _, _]) (st := []) dX12_sign_15 lk_X12_168 lm_X12_isIn ls_X12_isIn rfl rfl (Nat.le_of_ble_eq_true rfl) (Nat.le_refl _) (by decide) ?_
  refine c_X12_isIn ?_
  have h4 := hR.le
  rw [in_64n hR.n (by omega), Int32.toInt_toInt64, show (0 : Int64).toInt = 0 from by decide]
  refine b_if_eq (tgt := 33) dX12_sign_18 (by decide) (fun h18 => ?_) (fun h18 => ?_)
  · have e18 := b2i_0 h18
    refine b_aload_n dX12_sign_33 rfl rfl ?_
    refine b_iconst (v := 1) dX12_sign_34 (by decide +kernel) ?_
    refine b_callV (As := [_]) (st := []) dX12_sign_35 lk_X12_303 lm_X12_fail lv_X12_fail rfl (by decide) rfl rfl rfl (Nat.le_of_ble_eq_true rfl) (Nat.le_refl _) (by decide) ?_
    refine c_X12_fail ?_
    refine b_iret rfl (by decide) dX12_sign_38 ?_
    exact hf 0 (sigM_b e18)
  · have e18 := b2i_1 h18
    obtain ⟨k, hk, rfl⟩ := in_nat e18
    refine b_iload_n dX12_sign_21 rfl rfl ?_
    refine b_i2l dX12_sign_22 rfl ?_
    refine b_lconst (v := 0) dX12_sign_23 (by decide +kernel) ?_
    refine b_ldc2 lx_X12_385 dX12_sign_24 ?_
    refine b_callS (As := [_, _, _]) (st := []) dX12_sign_27 lk_X12_168 lm_X12_isIn ls_X12_isIn rfl rfl (Nat.le_of_ble_eq_true rfl) (Nat.le_refl _) (by decide) ?_
    refine c_X12_isIn ?_
    rw [in_64 (c := 2) (by decide)]
    refine b_if_ne (tgt := 39) dX12_sign_30 (by decide) (fun h30 => ?_) (fun h30 => ?_)
    · have e30 := b2i_1 h30
      have hw := e30
      refine b_iload_n dX12_sign_39 rfl rfl ?_
      refine b_if_ne (tgt := 52) dX12_sign_40 (by decide) (fun h40 => ?_) (fun h40 => ?_)
      · refine b_iload_n dX12_sign_52 rfl rfl ?_
        refine b_iconst (v := 1) dX12_sign_53 (by decide +kernel) ?_
        refine b_icmp_ne (tgt := 66) dX12_sign_54 (by decide) (fun h54 => ?_) (fun h54 => ?_)
        · refine b_aload_n dX12_sign_66 rfl rfl ?_
          refine b_getR (b := 106) lf_X12_99 rfl rfl dX12_sign_67 ?_
          refine b_iload_n dX12_sign_70 rfl rfl ?_
          refine b_ildN (j := k) dX12_sign_71 (rfl) (by show _ < 400; omega) ?_
          refine b_iret rfl (by decide) dX12_sign_72 ?_
          refine hq _ ?_
          rw [sigM_i hw hk hR.le, if_neg h40, if_neg h54, hR.yi k hk]
        · refine b_aload_n dX12_sign_57 rfl rfl ?_
          refine b_getR (b := 105) lf_X12_96 rfl rfl dX12_sign_58 ?_
          refine b_iload_n dX12_sign_61 rfl rfl ?_
          refine b_ildN (j := k) dX12_sign_62 (rfl) (by show _ < 400; omega) ?_
          refine b_goto (tgt := 72) dX12_sign_63 (by decide) ?_
          refine b_iret rfl (by decide) dX12_sign_72 ?_
          refine hq _ ?_
          rw [sigM_i hw hk hR.le, if_neg h40, if_pos h54, hR.wh k hk]
      · refine b_aload_n dX12_sign_43 rfl rfl ?_
        refine b_getR (b := 104) lf_X12_93 rfl rfl dX12_sign_44 ?_
        refine b_iload_n dX12_sign_47 rfl rfl ?_
        refine b_ildN (j := k) dX12_sign_48 (rfl) (by show _ < 400; omega) ?_
        refine b_goto (tgt := 72) dX12_sign_49 (by decide) ?_
        refine b_iret rfl (by decide) dX12_sign_72 ?_
        refine hq _ ?_
        rw [sigM_i hw hk hR.le, if_pos h40, hR.sg k hk]
    · have e30 := b2i_0 h30
      refine b_aload_n dX12_sign_33 rfl rfl ?_
      refine b_iconst (v := 1) dX12_sign_34 (by decide +kernel) ?_
      refine b_callV (As := [_]) (st := []) dX12_sign_35 lk_X12_303 lm_X12_fail lv_X12_fail rfl (by decide) rfl rfl rfl (Nat.le_of_ble_eq_true rfl) (Nat.le_refl _) (by decide) ?_
      refine c_X12_fail ?_
      refine b_iret rfl (by decide) dX12_sign_38 ?_
      exact hf 0 (sigM_a e30)
def othM (T : TD) (k : Int32) : Nat × Int32 := if inB k.toInt 0 (t_on T - 1) then (0, t_g T 4 k.toNatClampNeg) else (1, 0)
theorem othM_i {T : TD} {k : Nat} (hk : k < t_on T) (h6 : t_on T ≤ 24) : othM T (nI k) = (0, t_g T 4 k) := by unfold othM; rw [in_nI hk (by omega), if_pos rfl, nI_cl (by omega)]
theorem othM_b {T : TD} {k : Int32} (hk : inB k.toInt 0 (t_on T - 1) = false) : othM T k = (1, 0) := by unfold othM; rw [hk]; rfl
theorem c_X11_other {E : En} {d : Nat} {Q : QT} {X : XT} {g : G2} {t : Nat} (ht : is_town t) (h0 : g 0 2 = nI t) {T : TD} {x : Int32} (hT : RTn g t T) (hq : ∀ v, othM T x = (0, v) → Q (some (.int v)) g) (hx : ∀ v, othM T x = (1, v) → X nsN g) : M E md_X11_other (d + 7) [.ref 0, .int x] g Q X := by
  refine M.of _ rfl rfl (Nat.le_of_ble_eq_true rfl) ?_
  have h4 := hT.ole
  refine b_iload_n dX11_other_0 rfl rfl ?_
  refine b_if_lt (tgt := 15) dX11_other_1 (by decide) (fun h1 => ?_) (fun h1 => ?_)
  · have hx := hx _ (othM_b (in_lt h1))
    refine b_throwN (text := "no such place") (is := 213) (n := 34) (nn := 6) rfl (by decide +kernel) (by omega) (by decide) (by decide) dX11_other_15 dX11_other_18 (Or.inl ⟨rfl, dX11_other_19⟩) dX11_other_21 dX11_other_24 ?_
    exact hx
  · refine b_iload_n dX11_other_4 rfl rfl ?_
    refine b_aload_n dX11_other_5 rfl rfl ?_
    refine b_getD lf_X11_26 rfl h0 (town_31 ht) dX11_other_6 ?_
    refine b_getI lf_X11_143 (town_c ht) dX11_other_9 ?_
    refine b_icmp_lt (tgt := 25) dX11_other_12 (by decide) (fun h12 => ?_) (fun h12 => ?_)
    · obtain ⟨k, hk, rfl⟩ := in_nat (in_okn (by omega) h1 (Int32.not_le.mpr (hT.on ▸ h12)))
      refine b_aload_n dX11_other_25 rfl rfl ?_
      refine b_getD lf_X11_26 rfl h0 (town_31 ht) dX11_other_26 ?_
      refine b_getR (b := (t + 9)) lf_X11_224 (town_c ht) (town_r8 ht) dX11_other_29 ?_
      refine b_iload_n dX11_other_32 rfl rfl ?_
      refine b_ildN (j := k) dX11_other_33 (rfl) (by rw [(town_n9 ht)]; omega) ?_
      refine b_iret rfl (by decide) dX11_other_34 ?_
      refine hq _ ?_
      rw [othM_i hk hT.ole, hT.ot k hk]
    · have hx := hx _ (othM_b (in_ge (by omega) (hT.on ▸ Int32.not_lt.mp h12)))
      refine b_throwN (text := "no such place") (is := 213) (n := 34) (nn := 6) rfl (by decide +kernel) (by omega) (by decide) (by decide) dX11_other_15 dX11_other_18 (Or.inl ⟨rfl, dX11_other_19⟩) dX11_other_21 dX11_other_24 ?_
      exact hx
theorem c_X12_other {E : En} {d : Nat} {Q : QT} {X : XT} {g : G2} {T : TD} {x : Int32} (hT : RMt g T) (hq : ∀ v, othM T x = (0, v) → Q (some (.int v)) (up2 g 84 2 0)) (hf : ∀ v, othM T x = (1, v) → Q (some (.int 0)) (up2 (up2 g 84 2 0) 84 2 1)) : M E md_X12_other (d + 1) [.ref 84, .int x] g Q X := by
  refine M.of _ rfl rfl (Nat.le_of_ble_eq_true rfl) ?_
  refine b_aload_n dX12_other_0 rfl rfl ?_
  refine b_iconst (v := 0) dX12_other_1 (by decide +kernel) ?_
  refine b_putI lf_X12_165 lp_12_2 rfl dX12_other_2 ?_
  have hT := hT.code (x := 0)
  generalize up2 g 84 2 0 = g1 at hT hq hf ⊢
  have h4 := hT.ole
  refine b_iload_n dX12_other_5 rfl rfl ?_
  refine b_i2l dX12_other_6 rfl ?_
  refine b_lconst (v := 0) dX12_other_7 (by decide +kernel) ?_
  refine b_aload_n dX12_other_8 rfl rfl ?_
  refine b_getR (b := 87) lf_X12_40 rfl rfl dX12_other_9 ?_
  refine b_iconst (v := 2) dX12_other_12 (by decide +kernel) ?_
  refine b_ildN (j := 2) dX12_other_13 (rfl) (by show _ < 10; omega) ?_
  refine b_iconst (v := 1) dX12_other_14 (by decide +kernel) ?_
  refine b_isub dX12_other_15 ?_
  refine b_i2l dX12_other_16 rfl ?_
  refine b_callS (As := [_, _, _]) (st := []) dX12_other_17 lk_X12_168 lm_X12_isIn ls_X12_isIn rfl rfl (Nat.le_of_ble_eq_true rfl) (Nat.le_refl _) (by decide) ?_
  refine c_X12_isIn ?_
  rw [in_64n hT.on (by omega), Int32.toInt_toInt64, show (0 : Int64).toInt = 0 from by decide]
  refine b_if_eq (tgt := 32) dX12_other_20 (by decide) (fun h20 => ?_) (fun h20 => ?_)
  · have e20 := b2i_0 h20
    refine b_aload_n dX12_other_32 rfl rfl ?_
    refine b_iconst (v := 1) dX12_other_33 (by decide +kernel) ?_
    refine b_callV (As := [_]) (st := []) dX12_other_34 lk_X12_303 lm_X12_fail lv_X12_fail rfl (by decide) rfl rfl rfl (Nat.le_of_ble_eq_true rfl) (Nat.le_refl _) (by decide) ?_
    refine c_X12_fail ?_
    refine b_iret rfl (by decide) dX12_other_37 ?_
    exact hf 0 (othM_b e20)
  · have e20 := b2i_1 h20
    obtain ⟨k, hk, rfl⟩ := in_nat e20
    refine b_aload_n dX12_other_23 rfl rfl ?_
    refine b_getR (b := 94) lf_X12_61 rfl rfl dX12_other_24 ?_
    refine b_iload_n dX12_other_27 rfl rfl ?_
    refine b_ildN (j := k) dX12_other_28 (rfl) (by show _ < 48; omega) ?_
    refine b_goto (tgt := 37) dX12_other_29 (by decide) ?_
    refine b_iret rfl (by decide) dX12_other_37 ?_
    refine hq _ ?_
    rw [othM_i hk hT.ole, hT.ot k hk]
