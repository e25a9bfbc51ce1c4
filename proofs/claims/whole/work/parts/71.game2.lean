/-- what is told of the two houses -/
def GM (g : G2) (T : TD) (S : LfS) (ha hb : Int32) : Prop := g 77 2 = nI (cntN (csB S ha) (t_n T + 1)) ∧ g 77 3 = nI (cntN (csB S hb) (t_n T + 1)) ∧ (∀ k, k ≤ t_n T → csB S ha k = true → g 78 (cntN (csB S ha) k) = bgI k) ∧ (∀ k, k ≤ t_n T → csB S hb k = true → g 79 (cntN (csB S hb) k) = bgI k)
theorem GM.cg {g h : G2} {T : TD} {S : LfS} {ha hb : Int32} (q : GM g T S ha hb) (e1 : h 77 = g 77) (e2 : h 78 = g 78) (e3 : h 79 = g 79) : GM h T S ha hb := by unfold GM; rw [e1, e2, e3]; exact q
def GG (g : G2) (T : TD) (S : LfS) (ha hb : Int32) (P : Nat → Nat → Prop) : Prop := ∀ k l, k ≤ t_n T → l ≤ t_n T → csB S ha k = true → csB S hb l = true → P (cntN (csB S ha) k) (cntN (csB S hb) l) → g 80 (9 * cntN (csB S ha) k + cntN (csB S hb) l) = nI (gA T S k l) ∧ g 81 (9 * cntN (csB S ha) k + cntN (csB S hb) l) = nI (gB T S k l)
theorem GG.cg {g h : G2} {T : TD} {S : LfS} {ha hb : Int32} {P : Nat → Nat → Prop} (q : GG g T S ha hb P) (e1 : h 80 = g 80) (e2 : h 81 = g 81) : GG h T S ha hb P := by unfold GG; rw [e1, e2]; exact q
def FG (t : Nat) (g h : G2) : Prop := ∀ y, ¬ (41 ≤ y ∧ y ≤ 50) → y ≠ t + 12 → y ≠ 80 → y ≠ 81 → h y = g y
theorem FG.tr {t : Nat} {g h k : G2} (h1 : FG t g h) (h2 : FG t h k) : FG t g k := fun y a b c d => (h2 y a b c d).trans (h1 y a b c d)
theorem FU.fg {t : Nat} {g h : G2} (h1 : FU t g h) : FG t g h := fun y a b _ _ => h1 y a b
theorem FG.tn {t : Nat} {g h : G2} {T : TD} (ht : is_town t) (h1 : FG t g h) (hT : RTn g t T) : RTn h t T := hT.fa ht (fun y y1 y2 y3 => h1 y (by omega) y3 (by omega) (by omega))
theorem FG.lf {t : Nat} {g h : G2} {T : TD} {sp : Int32} {S : LfS} (ht : is_town t) (h1 : FG t g h) (hR : RLf g 31 T sp S) : RLf h 31 T sp S := hR.cg (fun k hk => h1 _ (by omega) (by unfold is_town at ht; omega) (by omega) (by omega))
theorem FG.gm {t : Nat} {g h : G2} {T : TD} {S : LfS} {ha hb : Int32} (ht : is_town t) (h1 : FG t g h) (q : GM g T S ha hb) : GM h T S ha hb := q.cg (h1 _ (by decide) (by unfold is_town at ht; omega) (by decide) (by decide)) (h1 _ (by decide) (by unfold is_town at ht; omega) (by decide) (by decide)) (h1 _ (by decide) (by unfold is_town at ht; omega) (by decide) (by decide))
theorem c_X2_tryAll {E : En} {d : Nat} {Q : QT} {X : XT} {g : G2} {t : Nat} {T : TD} {S : LfS} {ha hb : Int32} (ht : is_town t) (hR : RLf g 31 T (-1) S) (hT : RTn g t T) (oT : okT T) (hk : ∃ k, k < 12 ∧ l_g S 3 1 = nI k) (gm : GM g T S ha hb) (hq : ∀ h, FG t g h → GG h T S ha hb (fun _ _ => True) → Q none h) : M E md_X2_tryAll (d + 5) [.ref 77, .ref t, .ref 31, .ref 41] g Q X := by
  refine M.of _ rfl rfl (Nat.le_of_ble_eq_true rfl) ?_
  have ht5 : t = 5 ∨ t = 18 := ht
  have h8 := hT.le
  have h4n := hR.le
  have s1 := cntN_le (csB S ha) (t_n T + 1)
  have s2 := cntN_le (csB S hb) (t_n T + 1)
  have ekey : rmI (l_g S 3 1 + 7) 12 = byM (l_g S 3 1 + 7) := by obtain ⟨k, k1, k2⟩ := hk; rw [k2]; exact key_7 k k1
  have LO : ∀ i, i ≤ cntN (csB S ha) (t_n T + 1) → ∀ h, FG t g h → TU h S → GG h T S ha hb (fun x _ => x < i) → B E md_X2_tryAll (d + 5) Q X 20 [(0, .ref 77), (1, .ref t), (2, .ref 31), (3, .ref 41), (4, .int (rmI (l_g S 3 1 + 7) 12)), (5, .int (nI i))] [] h 0 := by
    refine lp_up (fun i hi ihO h FGh tu hG => ?_)
    have IN : i < cntN (csB S ha) (t_n T + 1) → ∀ j, j ≤ cntN (csB S hb) (t_n T + 1) → ∀ h, FG t g h → TU h S → GG h T S ha hb (fun x y => x < i ∨ (x = i ∧ y < j)) → B E md_X2_tryAll (d + 5) Q X 32 [(0, .ref 77), (1, .ref t), (2, .ref 31), (3, .ref 41), (4, .int (rmI (l_g S 3 1 + 7) 12)), (5, .int (nI i)), (6, .int (nI j))] [] h 0 := by
      intro him
      refine lp_up (fun j hj ih h FGh tu hG => ?_)
      refine b_iload dX2_tryAll_32 rfl ?_
      refine b_aload_n dX2_tryAll_34 rfl rfl ?_
      refine b_getI lf_X2_22 rfl dX2_tryAll_35 ?_
      refine b_topE (y := nI (cntN (csB S hb) (t_n T + 1))) ((FGh.gm ht gm).2.1) ?_
      refine b_icmp_ge (tgt := 146) dX2_tryAll_38 (by decide) (fun h38 => ?_) (fun h38 => ?_)
      · have e38 : (cntN (csB S hb) (t_n T + 1)) ≤ j := nn_le (a := (cntN (csB S hb) (t_n T + 1))) (b := j) (by omega) (by omega) h38
        refine b_incN (j := i) (lv' := [(0, _), (1, _), (2, _), (3, _), (4, _), (5, _), (6, _)]) dX2_tryAll_146 rfl rfl (by decide) rfl rfl ?_
        refine b_goto (tgt := 20) dX2_tryAll_149 (by decide) ?_
        refine b_take 6 ?_
        exact ihO (i + 1) (by omega) (by omega) h FGh tu (fun k l k1 l1 k2 l2 hp => hG k l k1 l1 k2 l2 (by
          have := cnt_lt (P := csB S hb) (show l < t_n T + 1 by omega) l2
          omega))
      · have e38 : j < (cntN (csB S hb) (t_n T + 1)) := nn_nle (a := (cntN (csB S hb) (t_n T + 1))) (b := j) (by omega) (by omega) h38
        obtain ⟨a, a1, a2, a3⟩ := cnt_ex (P := csB S ha) (t_n T + 1) i (by omega)
        obtain ⟨b, b1, b2, b3⟩ := cnt_ex (P := csB S hb) (t_n T + 1) j (by omega)
        refine b_aload_n dX2_tryAll_41 rfl rfl ?_
        refine b_aload_n dX2_tryAll_42 rfl rfl ?_
        refine b_callV (As := [_]) (st := []) dX2_tryAll_43 lk_X2_62 lm_X5_copyRest lv_X5_copyRest (life_c is_life41) (by decide) rfl rfl rfl (Nat.le_of_ble_eq_true rfl) (Nat.le_refl _) (by decide) ?_
        refine c_X5_copyRest (T := T) (sp := -1) (S := S) is_life41 is_life31 (by decide) hT.le (FGh.lf ht hR) tu.1 tu.2.1 tu.2.2 (fun h2 F2 hR2 => ?_)
        have U2 : FU t h h2 := FU.cr F2
        refine b_aload_n dX2_tryAll_46 rfl rfl ?_
        refine b_dup dX2_tryAll_47 rfl ?_
        refine b_getI lf_X2_45 (life_c is_life41) dX2_tryAll_48 ?_
        refine b_aload_n dX2_tryAll_51 rfl rfl ?_
        refine b_getR (b := 78) lf_X2_11 rfl rfl dX2_tryAll_52 ?_
        refine b_iload dX2_tryAll_55 rfl ?_
        refine b_ildN (j := i) dX2_tryAll_57 (rfl) (by show _ < 9; omega) ?_
        refine b_topE (y := bgI a) (by have z := (U2.fg.gm ht (FGh.gm ht gm)).2.2.1 a (by omega) a2; rw [a3] at z; exact z) ?_
        refine b_callS (As := [_]) (st := [_, _]) dX2_tryAll_58 lk_X2_65 lm_X2_bit ls_X2_bit rfl rfl (Nat.le_of_ble_eq_true rfl) (Nat.le_refl _) (by decide) ?_
        refine c_X2_bit (by omega) ?_
        refine b_aload_n dX2_tryAll_61 rfl rfl ?_
        refine b_getR (b := 79) lf_X2_15 rfl rfl dX2_tryAll_62 ?_
        refine b_iload dX2_tryAll_65 rfl ?_
        refine b_ildN (j := j) dX2_tryAll_67 (rfl) (by show _ < 9; omega) ?_
        refine b_topE (y := bgI b) (by have z := (U2.fg.gm ht (FGh.gm ht gm)).2.2.2 b (by omega) b2; rw [b3] at z; exact z) ?_
        refine b_callS (As := [_]) (st := [_, _, _]) dX2_tryAll_68 lk_X2_65 lm_X2_bit ls_X2_bit rfl rfl (Nat.le_of_ble_eq_true rfl) (Nat.le_refl _) (by decide) ?_
        refine c_X2_bit (by omega) ?_
        rw [hR2.aw]
        refine b_ior dX2_tryAll_71 ?_
        refine b_ior dX2_tryAll_72 ?_
        refine b_putI lf_X2_45 lp_5_6 (life_c is_life41) dX2_tryAll_73 ?_
        have hR3 : RLf (up2 h2 41 6 (l_g S 3 2 ||| (bkI a ||| bkI b))) 41 T (-1) (setS S 2 (l_g S 3 2 ||| (bkI a ||| bkI b))) := RLf.set (j := 2) hR2 (by decide)
        have U3 : FU t h (up2 h2 41 6 (l_g S 3 2 ||| (bkI a ||| bkI b))) := U2.tr (fun y y1 _ => up2_f _ _ _ _ (by omega))
        generalize up2 h2 41 6 (l_g S 3 2 ||| (bkI a ||| bkI b)) = h3 at hR3 U3 ⊢
        refine b_aload_n dX2_tryAll_76 rfl rfl ?_
        refine b_aload_n dX2_tryAll_77 rfl rfl ?_
        refine b_callV (As := [_]) (st := []) dX2_tryAll_78 lk_X2_69 lm_X5_passYear lv_X5_passYear (life_c is_life41) (by decide) rfl rfl rfl (Nat.le_of_ble_eq_true rfl) (Nat.le_refl _) (by decide) ?_
        refine c_X5_passYear is_life41 ht hR3 (U3.tn ht (FGh.tn ht hT)) (wfT_of oT) (fun h5 F5 hR5 => ?_)
        have UG := U3.tr (FU.py F5)
        have FGx : FG t g h5 := FGh.tr UG.fg
        have hR5 : RLf h5 41 T (-1) (gmL T S a b) := hR5
        have hpr : preL S (gmL T S a b) := (setS_pre S 2 _).tr (yrM_pre T (-1) _)
        have hRn := FGx.lf ht hR
        have h500 := hR5.le
        have hpr1 := hpr.1
        refine b_aload_n dX2_tryAll_81 rfl rfl ?_
        refine b_getR (b := 80) lf_X2_25 rfl rfl dX2_tryAll_82 ?_
        refine b_bipush (v := 9) dX2_tryAll_85 (by decide +kernel) ?_
        refine b_iload dX2_tryAll_87 rfl ?_
        refine b_imul dX2_tryAll_89 ?_
        refine b_topE (nI_mul 9 i) ?_
        refine b_iload dX2_tryAll_90 rfl ?_
        refine b_iadd dX2_tryAll_92 ?_
        refine b_topE (nI_add ((9 * i)) j) ?_
        refine b_aload_n dX2_tryAll_93 rfl rfl ?_
        refine b_aload_n dX2_tryAll_94 rfl rfl ?_
        refine b_getI lf_X2_59 (life_c is_life31) dX2_tryAll_95 ?_
        refine b_topE (y := l_g S 3 1) (hRn.key) ?_
        refine b_aload_n dX2_tryAll_98 rfl rfl ?_
        refine b_getI lf_X2_73 (life_c is_life31) dX2_tryAll_99 ?_
        refine b_topE (y := nI (l_n S)) (hRn.n) ?_
        refine b_callV (As := [_, _]) (st := [_, _]) dX2_tryAll_102 lk_X2_76 lm_X5_times lv_X5_times (life_c is_life41) (by decide) rfl rfl rfl (Nat.le_of_ble_eq_true rfl) (Nat.le_refl _) (by decide) ?_
        refine c_X5_times (n := l_n (gmL T S a b)) is_life41 hR5.n hR5.le hpr.1 ?_
        have q1 := cntN_le (tmP (h5 42) (l_g S 3 1) (l_n S)) (l_n (gmL T S a b))
        refine b_aload_n dX2_tryAll_105 rfl rfl ?_
        refine b_iload dX2_tryAll_106 rfl ?_
        refine b_aload_n dX2_tryAll_108 rfl rfl ?_
        refine b_getI lf_X2_73 (life_c is_life31) dX2_tryAll_109 ?_
        refine b_topE (y := nI (l_n S)) (hRn.n) ?_
        refine b_callV (As := [_, _]) (st := [_, _, _]) dX2_tryAll_112 lk_X2_76 lm_X5_times lv_X5_times (life_c is_life41) (by decide) rfl rfl rfl (Nat.le_of_ble_eq_true rfl) (Nat.le_refl _) (by decide) ?_
        refine c_X5_times (n := l_n (gmL T S a b)) is_life41 hR5.n hR5.le hpr.1 ?_
        refine b_iadd dX2_tryAll_115 ?_
        refine b_istN (j := ((9 * i) + j)) dX2_tryAll_116 (rfl) (by show _ < 81; omega) ?_
        refine b_aload_n dX2_tryAll_117 rfl rfl ?_
        refine b_getR (b := 81) lf_X2_28 rfl rfl dX2_tryAll_118 ?_
        refine b_bipush (v := 9) dX2_tryAll_121 (by decide +kernel) ?_
        refine b_iload dX2_tryAll_123 rfl ?_
        refine b_imul dX2_tryAll_125 ?_
        refine b_topE (nI_mul 9 i) ?_
        refine b_iload dX2_tryAll_126 rfl ?_
        refine b_iadd dX2_tryAll_128 ?_
        refine b_topE (nI_add ((9 * i)) j) ?_
        refine b_aload_n dX2_tryAll_129 rfl rfl ?_
        refine b_aload_n dX2_tryAll_130 rfl rfl ?_
        refine b_getI lf_X2_73 (life_c is_life31) dX2_tryAll_131 ?_
        refine b_topE (y := nI (l_n S)) (by rw [up2_a _ _ _ _ (by decide)]; exact hRn.n) ?_
        refine b_bipush (v := 6) dX2_tryAll_134 (by decide +kernel) ?_
        refine b_callV (As := [_, _]) (st := [_, _]) dX2_tryAll_136 lk_X2_80 lm_X5_risesFrom lv_X5_risesFrom (life_c is_life41) (by decide) rfl rfl rfl (Nat.le_of_ble_eq_true rfl) (Nat.le_refl _) (by decide) ?_
        refine c_X5_risesFrom (n := l_n (gmL T S a b)) is_life41 (by rw [up2_a _ _ _ _ (by decide)]; exact hR5.n) hR5.le hpr.1 ?_
        rw [show ∀ z, up2 h5 80 (9 * i + j) z (41 + 1) = h5 (41 + 1) from fun z => up2_f _ _ _ _ (by decide)]
        refine b_istN (j := ((9 * i) + j)) dX2_tryAll_139 (rfl) (by show _ < 81; omega) ?_
        refine b_incN (j := j) (lv' := [(0, _), (1, _), (2, _), (3, _), (4, _), (5, _), (6, _)]) dX2_tryAll_140 rfl rfl (by decide) rfl rfl ?_
        refine b_goto (tgt := 32) dX2_tryAll_143 (by decide) ?_
        refine ih (j + 1) (by omega) (by omega) _ ?_ ?_ (fun k l k1 l1 k2 l2 hp => ?_)
        · exact FGx.tr (fun y y1 y2 y3 y4 => by rw [up2_f _ _ _ _ y4, up2_f _ _ _ _ y3])
        · unfold TU
          rw [up2_f _ _ _ _ (by decide), up2_f _ _ _ _ (by decide), up2_f _ _ _ _ (by decide), up2_f _ _ _ _ (by decide), up2_f _ _ _ _ (by decide), up2_f _ _ _ _ (by decide)]
          exact hR5.tu hpr
        · have ck := cntN_le (csB S ha) k
          have cl := cntN_le (csB S hb) l
          by_cases e : cntN (csB S ha) k = i ∧ cntN (csB S hb) l = j
          · have ek : k = a := cnt_inj k2 a2 (by rw [e.1, a3])
            have el : l = b := cnt_inj l2 b2 (by rw [e.2, b3])
            subst ek; subst el
            rw [e.1, e.2]
            refine ⟨?_, ?_⟩
            · rw [up2_a _ _ _ _ (by decide), up2_s, nI_add]
              unfold gA
              rw [← ekey, ← tmP_cg hR5.sg, ← tmP_cg hR5.sg]
            · rw [up2_s]
              unfold gB
              rw [← cntN_cg (rsP_cg hR5.sg)]
          · have h9 : ¬ 9 * cntN (csB S ha) k + cntN (csB S hb) l = 9 * i + j := by
              have : cntN (csB S hb) l < 9 := by omega
              omega
            rw [up2_a _ _ _ _ (by decide), up2_k _ _ _ _ h9, up2_k _ _ _ _ h9, up2_a _ _ _ _ (by decide), UG 80 (by decide) (by omega), UG 81 (by decide) (by omega)]
            exact hG k l k1 l1 k2 l2 (by omega)
    refine b_iload dX2_tryAll_20 rfl ?_
    refine b_aload_n dX2_tryAll_22 rfl rfl ?_
    refine b_getI lf_X2_18 rfl dX2_tryAll_23 ?_
    refine b_topE (y := nI (cntN (csB S ha) (t_n T + 1))) ((FGh.gm ht gm).1) ?_
    refine b_icmp_ge (tgt := 152) dX2_tryAll_26 (by decide) (fun h26 => ?_) (fun h26 => ?_)
    · have e26 : (cntN (csB S ha) (t_n T + 1)) ≤ i := nn_le (a := (cntN (csB S ha) (t_n T + 1))) (b := i) (by omega) (by omega) h26
      have ei : i = cntN (csB S ha) (t_n T + 1) := by omega
      subst ei
      refine b_vret rfl (by decide) dX2_tryAll_152 ?_
      exact hq h FGh (fun k l k1 l1 k2 l2 _ => hG k l k1 l1 k2 l2 (cnt_lt (by omega) k2))
    · have e26 : i < (cntN (csB S ha) (t_n T + 1)) := nn_nle (a := (cntN (csB S ha) (t_n T + 1))) (b := i) (by omega) (by omega) h26
      refine b_iconst (v := 0) dX2_tryAll_29 (by decide +kernel) ?_
      refine b_istore (lv' := [(0, _), (1, _), (2, _), (3, _), (4, _), (5, _), (6, _)]) dX2_tryAll_30 (by decide) rfl rfl ?_
      exact IN e26 0 (Nat.zero_le _) h FGh tu (fun k l k1 l1 k2 l2 hp => hG k l k1 l1 k2 l2 (by omega))
  refine b_aload_n dX2_tryAll_0 rfl rfl ?_
  refine b_aload_n dX2_tryAll_1 rfl rfl ?_
  refine b_callV (As := [_]) (st := []) dX2_tryAll_2 lk_X2_55 lm_X5_copyTune lv_X5_copyTune (life_c is_life41) (by decide) rfl rfl rfl (Nat.le_of_ble_eq_true rfl) (Nat.le_refl _) (by decide) ?_
  refine c_X5_copyTune is_life41 is_life31 (by decide) hR.n hR.le (fun h1 F1 t1 t2 t3 => ?_)
  have U1 : FU t g h1 := FU.ct F1
  have tu := TU.ct hR t1 t2 t3
  refine b_aload_n dX2_tryAll_5 rfl rfl ?_
  refine b_getI lf_X2_59 (life_c is_life31) dX2_tryAll_6 ?_
  refine b_topE (y := l_g S 3 1) ((U1.lf ht hR).key) ?_
  refine b_bipush (v := 7) dX2_tryAll_9 (by decide +kernel) ?_
  refine b_iadd dX2_tryAll_11 ?_
  refine b_bipush (v := 12) dX2_tryAll_12 (by decide +kernel) ?_
  refine b_irem dX2_tryAll_14 (by decide +kernel) ?_
  refine b_istore (lv' := [(0, _), (1, _), (2, _), (3, _), (4, _)]) dX2_tryAll_15 (by decide) rfl rfl ?_
  refine b_iconst (v := 0) dX2_tryAll_17 (by decide +kernel) ?_
  refine b_istore (lv' := [(0, _), (1, _), (2, _), (3, _), (4, _), (5, _)]) dX2_tryAll_18 (by decide) rfl rfl ?_
  exact LO 0 (Nat.zero_le _) h1 U1.fg tu (fun k l _ _ _ _ q => absurd q (by omega))
theorem gA_le (T : TD) (S : LfS) (a b : Nat) (h : l_n (gmL T S a b) ≤ 400) : gA T S a b ≤ 800 ∧ gB T S a b ≤ 400 := by
  unfold gA gB
  have h1 := cntN_le (tmP (l_g (gmL T S a b) 0) (l_g S 3 1) (l_n S)) (l_n (gmL T S a b))
  have h2 := cntN_le (tmP (l_g (gmL T S a b) 0) (byM (l_g S 3 1 + 7)) (l_n S)) (l_n (gmL T S a b))
  have h3 := cntN_le (rsP (l_g (gmL T S a b) 0) (l_n S) 6) (l_n (gmL T S a b))
  omega
theorem gmL_le {T : TD} {S : LfS} (oT : okT T) (o : okS T S) (a b : Nat) : l_n (gmL T S a b) ≤ 400 := (okS.yr oT (okS.set o)).1
theorem stB_n1 {T : TD} {S : LfS} {h o : Int32} {a b k : Nat} (hk : k ≤ t_n T) (h1 : csB S h k = true) (h2 : gA T S a b < gA T S k b) : stB T S h o a b = false := by
  unfold stB
  rw [anyN_t (i := k) (by omega) (by rw [h1, decide_eq_true h2]; rfl)]; rfl
theorem stB_n2 {T : TD} {S : LfS} {h o : Int32} {a b k : Nat} (hk : k ≤ t_n T) (h1 : csB S o k = true) (h2 : gB T S a b < gB T S a k) : stB T S h o a b = false := by
  unfold stB
  rw [anyN_t (i := k) (by omega) (by rw [h1, decide_eq_true h2]; simp)]; rfl
theorem stB_y {T : TD} {S : LfS} {h o : Int32} {a b : Nat} (h1 : ∀ k, k ≤ t_n T → csB S h k = true → gA T S k b ≤ gA T S a b) (h2 : ∀ k, k ≤ t_n T → csB S o k = true → gB T S a k ≤ gB T S a b) : stB T S h o a b = true := by
  unfold stB
  rw [anyN_no (fun k hk => ?_)]; rfl
  rw [Bool.or_eq_false_iff]
  refine ⟨?_, ?_⟩
  · cases e : csB S h k with
    | false => rfl
    | true => rw [decide_eq_false (Nat.not_lt.mpr (h1 k (by omega) e))]; rfl
  · cases e : csB S o k with
    | false => rfl
    | true => rw [decide_eq_false (Nat.not_lt.mpr (h2 k (by omega) e))]; rfl
theorem c_X2_isResting {E : En} {d : Nat} {Q : QT} {X : XT} {g : G2} {T : TD} {S : LfS} {ha hb : Int32} (h8 : t_n T ≤ 8) (gm : GM g T S ha hb) (gg : GG g T S ha hb (fun _ _ => True)) (hle : ∀ a b, l_n (gmL T S a b) ≤ 400) {a b : Nat} (ha1 : a ≤ t_n T) (hb1 : b ≤ t_n T) (ha2 : csB S ha a = true) (hb2 : csB S hb b = true) (hq : Q (some (.int (b2i (stB T S ha hb a b)))) g) : M E md_X2_isResting d [.ref 77, .int (nI (cntN (csB S ha) a)), .int (nI (cntN (csB S hb) b))] g Q X := by
  refine M.of _ rfl rfl (Nat.le_of_ble_eq_true rfl) ?_
  have s1 := cntN_le (csB S ha) (t_n T + 1)
  have s2 := cntN_le (csB S hb) (t_n T + 1)
  have t1 := cntN_le (csB S ha) a
  have t2 := cntN_le (csB S hb) b
  have oa := gA_le T S a b (hle a b)
  have L2 : (∀ k, k ≤ t_n T → csB S ha k = true → gA T S k b ≤ gA T S a b) → ∀ i, i ≤ cntN (csB S hb) (t_n T + 1) → (∀ k, k ≤ t_n T → csB S hb k = true → cntN (csB S hb) k < i → gB T S a k ≤ gB T S a b) → B E md_X2_isResting d Q X 64 [(0, .ref 77), (1, .int (nI (cntN (csB S ha) a))), (2, .int (nI (cntN (csB S hb) b))), (3, .int (nI (gA T S a b))), (4, .int (nI (gB T S a b))), (5, .int (nI i))] [] g 0 := by
    intro hall
    refine lp_up (fun i hi ih hall2 => ?_)
    refine b_iload dX2_isResting_64 rfl ?_
    refine b_aload_n dX2_isResting_66 rfl rfl ?_
    refine b_getI lf_X2_22 rfl dX2_isResting_67 ?_
    refine b_topE (y := nI (cntN (csB S hb) (t_n T + 1))) (gm.2.1) ?_
    refine b_icmp_ge (tgt := 98) dX2_isResting_70 (by decide) (fun h70 => ?_) (fun h70 => ?_)
    · have e70 : (cntN (csB S hb) (t_n T + 1)) ≤ i := nn_le (a := (cntN (csB S hb) (t_n T + 1))) (b := i) (by omega) (by omega) h70
      refine b_iconst (v := 1) dX2_isResting_98 (by decide +kernel) ?_
      refine b_zret (Or.inr rfl) rfl (by decide) dX2_isResting_99 ?_
      rw [stB_y hall (fun k k1 k2 => hall2 k k1 k2 (by have := cnt_lt (P := csB S hb) (show k < t_n T + 1 by omega) k2; omega))] at hq
      exact hq
    · have e70 : i < (cntN (csB S hb) (t_n T + 1)) := nn_nle (a := (cntN (csB S hb) (t_n T + 1))) (b := i) (by omega) (by omega) h70
      obtain ⟨c, c1, c2, c3⟩ := cnt_ex (P := csB S hb) (t_n T + 1) i (by omega)
      have o1 := (gA_le T S a c (hle a c)).2
      refine b_aload_n dX2_isResting_73 rfl rfl ?_
      refine b_getR (b := 81) lf_X2_28 rfl rfl dX2_isResting_74 ?_
      refine b_bipush (v := 9) dX2_isResting_77 (by decide +kernel) ?_
      refine b_iload_n dX2_isResting_79 rfl rfl ?_
      refine b_imul dX2_isResting_80 ?_
      refine b_topE (nI_mul 9 ((cntN (csB S ha) a))) ?_
      refine b_iload dX2_isResting_81 rfl ?_
      refine b_iadd dX2_isResting_83 ?_
      refine b_topE (nI_add ((9 * (cntN (csB S ha) a))) i) ?_
      refine b_ildN (j := ((9 * (cntN (csB S ha) a)) + i)) dX2_isResting_84 (rfl) (by show _ < 81; omega) ?_
      refine b_topE (y := nI (gB T S a c)) (by have z := (gg a c (by omega) (by omega) ha2 c2 trivial).2; rw [c3] at z; exact z) ?_
      refine b_iload dX2_isResting_85 rfl ?_
      refine b_icmp_le (tgt := 92) dX2_isResting_87 (by decide) (fun h87 => ?_) (fun h87 => ?_)
      · have e87 : (gB T S a c) ≤ (gB T S a b) := nn_le (a := (gB T S a c)) (b := (gB T S a b)) (by omega) (by omega) h87
        refine b_incN (j := i) (lv' := [(0, _), (1, _), (2, _), (3, _), (4, _), (5, _)]) dX2_isResting_92 rfl rfl (by decide) rfl rfl ?_
        refine b_goto (tgt := 64) dX2_isResting_95 (by decide) ?_
        refine ih (i + 1) (by omega) (by omega) (fun k k1 k2 k3 => ?_)
        by_cases e : cntN (csB S hb) k = i
        · have ek : k = c := cnt_inj k2 c2 (by rw [e, c3])
          subst ek; exact e87
        · exact hall2 k k1 k2 (by omega)
      · have e87 : (gB T S a b) < (gB T S a c) := nn_nle (a := (gB T S a c)) (b := (gB T S a b)) (by omega) (by omega) h87
        refine b_iconst (v := 0) dX2_isResting_90 (by decide +kernel) ?_
        refine b_zret (Or.inl rfl) rfl (by decide) dX2_isResting_91 ?_
        rw [stB_n2 (by omega) c2 e87] at hq
        exact hq
  have M2 : (∀ k, k ≤ t_n T → csB S ha k = true → gA T S k b ≤ gA T S a b) → ∀ x, B E md_X2_isResting d Q X 48 [(0, .ref 77), (1, .int (nI (cntN (csB S ha) a))), (2, .int (nI (cntN (csB S hb) b))), (3, .int (nI (gA T S a b))), (4, .int x)] [] g 0 := by
    intro hall x
    refine b_aload_n dX2_isResting_48 rfl rfl ?_
    refine b_getR (b := 81) lf_X2_28 rfl rfl dX2_isResting_49 ?_
    refine b_bipush (v := 9) dX2_isResting_52 (by decide +kernel) ?_
    refine b_iload_n dX2_isResting_54 rfl rfl ?_
    refine b_imul dX2_isResting_55 ?_
    refine b_topE (nI_mul 9 ((cntN (csB S ha) a))) ?_
    refine b_iload_n dX2_isResting_56 rfl rfl ?_
    refine b_iadd dX2_isResting_57 ?_
    refine b_topE (nI_add ((9 * (cntN (csB S ha) a))) ((cntN (csB S hb) b))) ?_
    refine b_ildN (j := ((9 * (cntN (csB S ha) a)) + (cntN (csB S hb) b))) dX2_isResting_58 (rfl) (by show _ < 81; omega) ?_
    refine b_topE (y := nI (gB T S a b)) ((gg a b (by omega) (by omega) ha2 hb2 trivial).2) ?_
    refine b_istore (lv' := [(0, _), (1, _), (2, _), (3, _), (4, _)]) dX2_isResting_59 (by decide) rfl rfl ?_
    refine b_iconst (v := 0) dX2_isResting_61 (by decide +kernel) ?_
    refine b_istore (lv' := [(0, _), (1, _), (2, _), (3, _), (4, _), (5, _)]) dX2_isResting_62 (by decide) rfl rfl ?_
    exact L2 hall 0 (Nat.zero_le _) (fun k _ _ k3 => absurd k3 (by omega))
  have L1 : ∀ i, i ≤ cntN (csB S ha) (t_n T + 1) → (∀ k, k ≤ t_n T → csB S ha k = true → cntN (csB S ha) k < i → gA T S k b ≤ gA T S a b) → B E md_X2_isResting d Q X 15 [(0, .ref 77), (1, .int (nI (cntN (csB S ha) a))), (2, .int (nI (cntN (csB S hb) b))), (3, .int (nI (gA T S a b))), (4, .int (nI i))] [] g 0 := by
    refine lp_up (fun i hi ih hall => ?_)
    refine b_iload dX2_isResting_15 rfl ?_
    refine b_aload_n dX2_isResting_17 rfl rfl ?_
    refine b_getI lf_X2_18 rfl dX2_isResting_18 ?_
    refine b_topE (y := nI (cntN (csB S ha) (t_n T + 1))) (gm.1) ?_
    refine b_icmp_ge (tgt := 48) dX2_isResting_21 (by decide) (fun h21 => ?_) (fun h21 => ?_)
    · have e21 : (cntN (csB S ha) (t_n T + 1)) ≤ i := nn_le (a := (cntN (csB S ha) (t_n T + 1))) (b := i) (by omega) (by omega) h21
      exact M2 (fun k k1 k2 => hall k k1 k2 (by have := cnt_lt (P := csB S ha) (show k < t_n T + 1 by omega) k2; omega)) _
    · have e21 : i < (cntN (csB S ha) (t_n T + 1)) := nn_nle (a := (cntN (csB S ha) (t_n T + 1))) (b := i) (by omega) (by omega) h21
      obtain ⟨c, c1, c2, c3⟩ := cnt_ex (P := csB S ha) (t_n T + 1) i (by omega)
      have o1 := (gA_le T S c b (hle c b)).1
      refine b_aload_n dX2_isResting_24 rfl rfl ?_
      refine b_getR (b := 80) lf_X2_25 rfl rfl dX2_isResting_25 ?_
      refine b_bipush (v := 9) dX2_isResting_28 (by decide +kernel) ?_
      refine b_iload dX2_isResting_30 rfl ?_
      refine b_imul dX2_isResting_32 ?_
      refine b_topE (nI_mul 9 i) ?_
      refine b_iload_n dX2_isResting_33 rfl rfl ?_
      refine b_iadd dX2_isResting_34 ?_
      refine b_topE (nI_add ((9 * i)) ((cntN (csB S hb) b))) ?_
      refine b_ildN (j := ((9 * i) + (cntN (csB S hb) b))) dX2_isResting_35 (rfl) (by show _ < 81; omega) ?_
      refine b_topE (y := nI (gA T S c b)) (by have z := (gg c b (by omega) (by omega) c2 hb2 trivial).1; rw [c3] at z; exact z) ?_
      refine b_iload_n dX2_isResting_36 rfl rfl ?_
      refine b_icmp_le (tgt := 42) dX2_isResting_37 (by decide) (fun h37 => ?_) (fun h37 => ?_)
      · have e37 : (gA T S c b) ≤ (gA T S a b) := nn_le (a := (gA T S c b)) (b := (gA T S a b)) (by omega) (by omega) h37
        refine b_incN (j := i) (lv' := [(0, _), (1, _), (2, _), (3, _), (4, _)]) dX2_isResting_42 rfl rfl (by decide) rfl rfl ?_
        refine b_goto (tgt := 15) dX2_isResting_45 (by decide) ?_
        refine ih (i + 1) (by omega) (by omega) (fun k k1 k2 k3 => ?_)
        by_cases e : cntN (csB S ha) k = i
        · have ek : k = c := cnt_inj k2 c2 (by rw [e, c3])
          subst ek; exact e37
        · exact hall k k1 k2 (by omega)
      · have e37 : (gA T S a b) < (gA T S c b) := nn_nle (a := (gA T S c b)) (b := (gA T S a b)) (by omega) (by omega) h37
        refine b_iconst (v := 0) dX2_isResting_40 (by decide +kernel) ?_
        refine b_zret (Or.inl rfl) rfl (by decide) dX2_isResting_41 ?_
        rw [stB_n1 (by omega) c2 e37] at hq
        exact hq
  refine b_aload_n dX2_isResting_0 rfl rfl ?_
  refine b_getR (b := 80) lf_X2_25 rfl rfl dX2_isResting_1 ?_
  refine b_bipush (v := 9) dX2_isResting_4 (by decide +kernel) ?_
  refine b_iload_n dX2_isResting_6 rfl rfl ?_
  refine b_imul dX2_isResting_7 ?_
  refine b_topE (nI_mul 9 ((cntN (csB S ha) a))) ?_
  refine b_iload_n dX2_isResting_8 rfl rfl ?_
  refine b_iadd dX2_isResting_9 ?_
  refine b_topE (nI_add ((9 * (cntN (csB S ha) a))) ((cntN (csB S hb) b))) ?_
  refine b_ildN (j := ((9 * (cntN (csB S ha) a)) + (cntN (csB S hb) b))) dX2_isResting_10 (rfl) (by show _ < 81; omega) ?_
  refine b_topE (y := nI (gA T S a b)) ((gg a b (by omega) (by omega) ha2 hb2 trivial).1) ?_
  refine b_istore_n (lv' := [(0, _), (1, _), (2, _), (3, _)]) dX2_isResting_11 rfl (by decide) rfl rfl ?_
  refine b_iconst (v := 0) dX2_isResting_12 (by decide +kernel) ?_
  refine b_istore (lv' := [(0, _), (1, _), (2, _), (3, _), (4, _)]) dX2_isResting_13 (by decide) rfl rfl ?_
  exact L1 0 (Nat.zero_le _) (fun k _ _ k3 => absurd k3 (by omega))
