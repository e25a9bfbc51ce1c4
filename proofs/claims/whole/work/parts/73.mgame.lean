theorem bk_ne {k : Nat} (h : ¬ bgI k = -1) : (1 : Int32) <<< (bgI k &&& 31) = bkI k := by
  cases k with
  | zero => exact absurd rfl h
  | succ k => rfl
theorem bk_eq {k : Nat} (hk : k < 2 ^ 31) (h : bgI k = -1) : (0 : Int32) = bkI k := by
  cases k with
  | zero => rfl
  | succ k => exact absurd h (nI_nm1 (by omega))
theorem bg_ge {k n : Nat} (hk : k < 2 ^ 31) (hn : n < 2 ^ 31) (h : nI n ≤ bgI k) : n < k := Nat.lt_of_not_le (fun q => absurd ((bgI_lt hk hn).mpr q) (Int32.not_lt.mpr h))
theorem bg_lt {k n : Nat} (hk : k < 2 ^ 31) (hn : n < 2 ^ 31) (h : ¬ nI n ≤ bgI k) : k ≤ n := (bgI_lt hk hn).mp (Int32.not_le.mp h)
theorem cnt_or {f : Nat → Int32} {x y : Int32} {s : Nat} (h : ¬ x = y) : ∀ n, cntN (fun i => decide (s ≤ i) && (f i == x || f i == y)) n = cntN (tmP f x s) n + cntN (tmP f y s) n
  | 0 => rfl
  | n + 1 => by
    rw [cntN, cntN, cntN, cnt_or h n]
    unfold tmP
    by_cases c : s ≤ n
    · rw [decide_eq_true c, Bool.true_and, Bool.true_and, Bool.true_and]
      by_cases e1 : f n = x
      · rw [e1, beq_self_eq_true, beq_eq_false_iff_ne.mpr h]; simp; omega
      · rw [beq_eq_false_iff_ne.mpr e1]
        by_cases e2 : f n = y
        · rw [e2, beq_self_eq_true]; simp; omega
        · rw [beq_eq_false_iff_ne.mpr e2]; simp
    · rw [decide_eq_false c]; simp
theorem k7_ne : ∀ k, k < 12 → ¬ nI k = byM (nI k + 7) := by decide +kernel
def GN (g : G2) (T : TD) (S : LfS) : Prop := ∀ a b, a ≤ t_n T → b ≤ t_n T → g 117 (9 * a + b) = nI (gA T S a b) ∧ g 118 (9 * a + b) = nI (gB T S a b)
theorem c_X12_canSend {E : En} {d : Nat} {Q : QT} {X : XT} {g : G2} {T : TD} {S : LfS} {h : Int32} {a : Nat} (hR : RMl g T S) (h8 : t_n T ≤ 8) (ha : a ≤ t_n T) (hq : Q (some (.int (b2i (csB S h a)))) g) : M E md_X12_canSend (d + 1) [.ref 84, .int h, .int (bgI a)] g Q X := by
  refine M.of _ rfl rfl (Nat.le_of_ble_eq_true rfl) ?_
  cases a with
  | zero =>
    show B E md_X12_canSend (d + 1) Q X 0 [(0, .ref 84), (1, .int h), (2, .int (-1))] [] g 0
    refine b_iload_n dX12_canSend_0 rfl rfl ?_
    refine b_iconst (v := (-1)) dX12_canSend_1 (by decide +kernel) ?_
    refine b_icmp_eq (tgt := 31) dX12_canSend_2 (by decide) (fun h2 => ?_) (fun h2 => ?_)
    · refine b_iconst (v := 1) dX12_canSend_31 (by decide +kernel) ?_
      refine b_goto (tgt := 36) dX12_canSend_32 (by decide) ?_
      refine b_zret (Or.inr rfl) rfl (by decide) dX12_canSend_36 ?_
      exact hq
    · exact absurd rfl h2
  | succ p =>
    show B E md_X12_canSend (d + 1) Q X 0 [(0, .ref 84), (1, .int h), (2, .int (nI p))] [] g 0
    refine b_iload_n dX12_canSend_0 rfl rfl ?_
    refine b_iconst (v := (-1)) dX12_canSend_1 (by decide +kernel) ?_
    refine b_icmp_eq (tgt := 31) dX12_canSend_2 (by decide) (fun h2 => ?_) (fun h2 => ?_)
    · exact absurd h2 (nI_nm1 (by omega))
    · refine b_aload_n dX12_canSend_5 rfl rfl ?_
      refine b_getR (b := 99) lf_X12_80 rfl rfl dX12_canSend_6 ?_
      refine b_iload_n dX12_canSend_9 rfl rfl ?_
      refine b_ildN (j := p) dX12_canSend_10 (rfl) (by show _ < 8; omega) ?_
      refine b_topE (y := l_g S 4 p) (hR.ho p (by omega)) ?_
      refine b_iload_n dX12_canSend_11 rfl rfl ?_
      refine b_icmp_ne (tgt := 35) dX12_canSend_12 (by decide) (fun h12 => ?_) (fun h12 => ?_)
      · refine b_iconst (v := 0) dX12_canSend_35 (by decide +kernel) ?_
        refine b_zret (Or.inl rfl) rfl (by decide) dX12_canSend_36 ?_
        have e : csB S h (p + 1) = false := by show (l_g S 4 p == h && _) = _; rw [beq_eq_false_iff_ne.mpr h12]; rfl
        rw [e] at hq
        exact hq
      · refine b_aload_n dX12_canSend_15 rfl rfl ?_
        refine b_getI lf_X12_323 rfl dX12_canSend_16 ?_
        refine b_aload_n dX12_canSend_19 rfl rfl ?_
        refine b_getI lf_X12_326 rfl dX12_canSend_20 ?_
        refine b_ior dX12_canSend_23 ?_
        refine b_iload_n dX12_canSend_24 rfl rfl ?_
        refine b_callS (As := [_, _]) (st := []) dX12_canSend_25 lk_X12_370 lm_X12_isOf ls_X12_isOf rfl rfl (Nat.le_of_ble_eq_true rfl) (Nat.le_refl _) (by decide) ?_
        refine c_X12_isOf ?_
        rw [bt1, hR.aw, hR.de]
        refine b_if_ne (tgt := 35) dX12_canSend_28 (by decide) (fun h28 => ?_) (fun h28 => ?_)
        · have e28 := b2i_1 h28
          refine b_iconst (v := 0) dX12_canSend_35 (by decide +kernel) ?_
          refine b_zret (Or.inl rfl) rfl (by decide) dX12_canSend_36 ?_
          have e : csB S h (p + 1) = false := by show (_ && btI (l_g S 3 2 ||| l_g S 3 3) (nI p) == 0) = _; rw [show (btI (l_g S 3 2 ||| l_g S 3 3) (nI p) == 0) = false by simpa using e28]; simp
          rw [e] at hq
          exact hq
        · have e28 := b2i_0 h28
          refine b_iconst (v := 1) dX12_canSend_31 (by decide +kernel) ?_
          refine b_goto (tgt := 36) dX12_canSend_32 (by decide) ?_
          refine b_zret (Or.inr rfl) rfl (by decide) dX12_canSend_36 ?_
          have e : csB S h (p + 1) = true := by show (l_g S 4 p == h && btI (l_g S 3 2 ||| l_g S 3 3) (nI p) == 0) = _; rw [h12, show (btI (l_g S 3 2 ||| l_g S 3 3) (nI p) == 0) = true by simpa using e28]; simp
          rw [e] at hq
          exact hq
theorem c_X12_tellGains {E : En} {d : Nat} {Q : QT} {X : XT} {g : G2} {T : TD} {S : LfS} (hR : RMl g T S) (hT : RMt g T) (hsp : g 84 44 = -1) (oT : okT T) (oL : okL T S) (hq : ∀ h, FD g h → RMl h T S → h 84 2 = g 84 2 → GN h T S → Q none h) : M E md_X12_tellGains (d + 5) [.ref 84] g Q X := by
  refine M.of _ rfl rfl (Nat.le_of_ble_eq_true rfl) ?_
  refine b_aload_n dX12_tellGains_0 rfl rfl ?_
  refine b_aload_n dX12_tellGains_1 rfl rfl ?_
  refine b_getR (b := 112) lf_X12_120 rfl rfl dX12_tellGains_2 ?_
  refine b_iconst (v := 0) dX12_tellGains_5 (by decide +kernel) ?_
  refine b_callV (As := [_, _]) (st := []) dX12_tellGains_6 lk_X12_387 lm_X12_pack lv_X12_pack rfl (by decide) rfl rfl rfl (Nat.le_of_ble_eq_true rfl) (Nat.le_refl _) (by decide) ?_
  refine c_X12_pack (z := 112) (n := 35) (f := 0) rfl (by decide) (by decide) (by decide) (fun h1 pF _ pk => ?_)
  have D1 : FD g h1 := FD.ofZ (z := 112) (by decide) pF
  have rk := RPk.of hT.le hR pk
  have hR1 := hR.ofZ (by decide) pF
  have sp1 : h1 84 44 = -1 := by rw [pF 84 (by decide)]; exact hsp
  have h8 := hT.le
  have h4n := hR.le
  have hT1 := hT.fd (FD.ofZ (z := 112) (by decide) pF)
  have LP : ∀ c, c ≤ 81 → ∀ h0, RMl h0 T S → FD h1 h0 → h0 112 = h1 112 → h0 84 2 = h1 84 2 → (∀ x, x < c → x / 9 ≤ t_n T → x % 9 ≤ t_n T → h0 117 x = nI (gA T S (x / 9) (x % 9)) ∧ h0 118 x = nI (gB T S (x / 9) (x % 9))) → B E md_X12_tellGains (d + 5) Q X 11 [(0, .ref 84), (1, .int (nI c))] [] h0 0 := by
    refine lp_up (fun c hc ih h0 hR0 D2 e112 cc hG => ?_)
    refine b_iload_n dX12_tellGains_11 rfl rfl ?_
    refine b_bipush (v := 81) dX12_tellGains_12 (by decide +kernel) ?_
    refine b_icmp_ge (tgt := 201) dX12_tellGains_14 (by decide) (fun h14 => ?_) (fun h14 => ?_)
    · have e14 : 81 ≤ c := nn_le (a := 81) (b := c) (by omega) (by omega) h14
      have ec : c = 81 := by omega
      subst ec
      refine b_vret rfl (by decide) dX12_tellGains_201 ?_
      refine hq h0 (D1.tr D2) hR0 (by rw [cc, pF 84 (by decide)]) (fun a b a1 b1 => ?_)
      have z := hG (9 * a + b) (by omega) (by omega) (by omega)
      rw [show (9 * a + b) / 9 = a by omega, show (9 * a + b) % 9 = b by omega] at z
      exact z
    · have e14 : c < 81 := nn_nle (a := 81) (b := c) (by omega) (by omega) h14
      refine b_iload_n dX12_tellGains_17 rfl rfl ?_
      refine b_bipush (v := 9) dX12_tellGains_18 (by decide +kernel) ?_
      refine b_idiv dX12_tellGains_20 (by decide +kernel) ?_
      refine b_topE (pk_div (d := 9) (by omega) (by decide) (by decide)) ?_
      refine b_iconst (v := 1) dX12_tellGains_21 (by decide +kernel) ?_
      refine b_isub dX12_tellGains_22 ?_
      refine b_topE (bgI_sub (c / 9)) ?_
      refine b_istore_n (lv' := [(0, _), (1, _), (2, _)]) dX12_tellGains_23 rfl (by decide) rfl rfl ?_
      refine b_iload_n dX12_tellGains_24 rfl rfl ?_
      refine b_bipush (v := 9) dX12_tellGains_25 (by decide +kernel) ?_
      refine b_irem dX12_tellGains_27 (by decide +kernel) ?_
      refine b_topE (pk_rem (d := 9) (by omega) (by decide) (by decide)) ?_
      refine b_iconst (v := 1) dX12_tellGains_28 (by decide +kernel) ?_
      refine b_isub dX12_tellGains_29 ?_
      refine b_topE (bgI_sub (c % 9)) ?_
      refine b_istore_n (lv' := [(0, _), (1, _), (2, _), (3, _)]) dX12_tellGains_30 rfl (by decide) rfl rfl ?_
      refine b_iload_n dX12_tellGains_31 rfl rfl ?_
      refine b_aload_n dX12_tellGains_32 rfl rfl ?_
      refine b_getR (b := 87) lf_X12_40 rfl rfl dX12_tellGains_33 ?_
      refine b_iconst (v := 0) dX12_tellGains_36 (by decide +kernel) ?_
      refine b_ildN (j := 0) dX12_tellGains_37 (rfl) (by show _ < 10; omega) ?_
      refine b_topE (y := nI (t_n T)) ((hT1.fd D2).n) ?_
      refine b_icmp_ge (tgt := 195) dX12_tellGains_38 (by decide) (fun h38 => ?_) (fun h38 => ?_)
      · have e38 := bg_ge (by omega) (by omega) h38
        refine b_incN (j := c) (lv' := [(0, _), (1, _), (2, _), (3, _)]) dX12_tellGains_195 rfl rfl (by decide) rfl rfl ?_
        refine b_goto (tgt := 11) dX12_tellGains_198 (by decide) ?_
        refine b_take 2 ?_
        exact ih (c + 1) (by omega) (by omega) h0 hR0 D2 e112 cc (fun x x1 x2 x3 => hG x (by
    by_cases ex : x = c
    · subst ex; omega
    · omega) x2 x3)
      · have e38 := bg_lt (by omega) (by omega) h38
        refine b_iload_n dX12_tellGains_41 rfl rfl ?_
        refine b_aload_n dX12_tellGains_42 rfl rfl ?_
        refine b_getR (b := 87) lf_X12_40 rfl rfl dX12_tellGains_43 ?_
        refine b_iconst (v := 0) dX12_tellGains_46 (by decide +kernel) ?_
        refine b_ildN (j := 0) dX12_tellGains_47 (rfl) (by show _ < 10; omega) ?_
        refine b_topE (y := nI (t_n T)) ((hT1.fd D2).n) ?_
        refine b_icmp_lt (tgt := 54) dX12_tellGains_48 (by decide) (fun h48 => ?_) (fun h48 => ?_)
        · have e48 := (bgI_lt (by omega) (by omega)).mp h48
          refine b_aload_n dX12_tellGains_54 rfl rfl ?_
          refine b_getI lf_X12_320 rfl dX12_tellGains_55 ?_
          refine b_topE (y := nI (l_n S)) (hR0.n) ?_
          refine b_istore (lv' := [(0, _), (1, _), (2, _), (3, _), (4, _)]) dX12_tellGains_58 (by decide) rfl rfl ?_
          refine b_aload_n dX12_tellGains_60 rfl rfl ?_
          refine b_getI lf_X12_318 rfl dX12_tellGains_61 ?_
          refine b_topE (y := l_g S 3 1) (hR0.key) ?_
          refine b_istore (lv' := [(0, _), (1, _), (2, _), (3, _), (4, _), (5, _)]) dX12_tellGains_64 (by decide) rfl rfl ?_
          refine b_aload_n dX12_tellGains_66 rfl rfl ?_
          refine b_dup dX12_tellGains_67 rfl ?_
          refine b_getI lf_X12_323 rfl dX12_tellGains_68 ?_
          refine b_topE (y := l_g S 3 2) (hR0.aw) ?_
          refine b_iload_n dX12_tellGains_71 rfl rfl ?_
          refine b_iconst (v := (-1)) dX12_tellGains_72 (by decide +kernel) ?_
          refine b_icmp_ne (tgt := 80) dX12_tellGains_73 (by decide) (fun h73 => ?_) (fun h73 => ?_)
          · refine b_iconst (v := 1) dX12_tellGains_80 (by decide +kernel) ?_
            refine b_iload_n dX12_tellGains_81 rfl rfl ?_
            refine b_ishl dX12_tellGains_82 ?_
            refine b_topE (y := bkI (c / 9)) (bk_ne h73) ?_
            refine b_iload_n dX12_tellGains_83 rfl rfl ?_
            refine b_iconst (v := (-1)) dX12_tellGains_84 (by decide +kernel) ?_
            refine b_icmp_ne (tgt := 92) dX12_tellGains_85 (by decide) (fun h85 => ?_) (fun h85 => ?_)
            · refine b_iconst (v := 1) dX12_tellGains_92 (by decide +kernel) ?_
              refine b_iload_n dX12_tellGains_93 rfl rfl ?_
              refine b_ishl dX12_tellGains_94 ?_
              refine b_topE (y := bkI (c % 9)) (bk_ne h85) ?_
              refine b_ior dX12_tellGains_95 ?_
              refine b_ior dX12_tellGains_96 ?_
              refine b_putI lf_X12_323 lp_12_33 rfl dX12_tellGains_97 ?_
              refine b_aload_n dX12_tellGains_100 rfl rfl ?_
              refine b_callV (As := []) (st := []) dX12_tellGains_101 lk_X12_376 lm_X12_aYear lv_X12_aYear rfl (by decide) rfl rfl rfl (Nat.le_of_ble_eq_true rfl) (Nat.le_refl _) (by decide) ?_
              refine c_X12_aYear (sp := -1) ((hT1.fd D2).fd (FD.fld 33 _ (by decide))) (RMl.set (j := 2) hR0 (by decide)) oT (okS.set oL.1) (by rw [up2_k _ _ _ _ (by decide), D2.2 44 (by decide)]; exact sp1) (fun h2 fm hR2 => ?_)
              have hR2 : RMl h2 T (gmL T S (c / 9) (c % 9)) := hR2
              have hpr : preL S (gmL T S (c / 9) (c % 9)) := (setS_pre S 2 _).tr (yrM_pre T (-1) _)
              have h500 := hR2.le
              have IN : ∀ i, i ≤ l_n (gmL T S (c / 9) (c % 9)) → l_n S ≤ i → ∀ h, (∀ y, y ≠ 117 → h y = h2 y) → (∀ x, x ≠ c → h 117 x = h2 117 x) → h 117 c = nI (cntN (fun i => decide (l_n S ≤ i) && (h2 104 i == l_g S 3 1 || h2 104 i == byM (l_g S 3 1 + 7))) i) → B E md_X12_tellGains (d + 5) Q X 115 [(0, .ref 84), (1, .int (nI c)), (2, .int (bgI (c / 9))), (3, .int (bgI (c % 9))), (4, .int (nI (l_n S))), (5, .int (l_g S 3 1)), (6, .int (nI i))] [] h 0 := by
                refine lp_up (fun i hi ihI hsi h hF hX hC => ?_)
                refine b_iload dX12_tellGains_115 rfl ?_
                refine b_aload_n dX12_tellGains_117 rfl rfl ?_
                refine b_getI lf_X12_320 rfl dX12_tellGains_118 ?_
                refine b_topE (y := nI (l_n (gmL T S (c / 9) (c % 9)))) (by rw [hF 84 (by decide)]; exact hR2.n) ?_
                refine b_icmp_ge (tgt := 174) dX12_tellGains_121 (by decide) (fun h121 => ?_) (fun h121 => ?_)
                · have e121 : (l_n (gmL T S (c / 9) (c % 9))) ≤ i := nn_le (a := (l_n (gmL T S (c / 9) (c % 9)))) (b := i) (by omega) (by omega) h121
                  have ei : i = l_n (gmL T S (c / 9) (c % 9)) := by omega
                  subst ei
                  refine b_aload_n dX12_tellGains_174 rfl rfl ?_
                  refine b_getR (b := 118) lf_X12_138 rfl rfl dX12_tellGains_175 ?_
                  refine b_iload_n dX12_tellGains_178 rfl rfl ?_
                  refine b_aload_n dX12_tellGains_179 rfl rfl ?_
                  refine b_iload dX12_tellGains_180 rfl ?_
                  refine b_callV (As := [_]) (st := [_, _]) dX12_tellGains_182 lk_X12_445 lm_X12_tritonesFrom lv_X12_tritonesFrom rfl (by decide) rfl rfl rfl (Nat.le_of_ble_eq_true rfl) (Nat.le_refl _) (by decide) ?_
                  refine c_X12_tritonesFrom (n := l_n (gmL T S (c / 9) (c % 9))) (by rw [hF 84 (by decide)]; exact hR2.n) hR2.le hpr.1 ?_
                  refine b_istN (j := c) dX12_tellGains_185 (rfl) (by show _ < 81; omega) ?_
                  refine b_aload_n dX12_tellGains_186 rfl rfl ?_
                  refine b_aload_n dX12_tellGains_187 rfl rfl ?_
                  refine b_getR (b := 112) lf_X12_120 rfl rfl dX12_tellGains_188 ?_
                  refine b_iconst (v := 0) dX12_tellGains_191 (by decide +kernel) ?_
                  refine b_callV (As := [_, _]) (st := []) dX12_tellGains_192 lk_X12_416 lm_X12_unpack lv_X12_unpack rfl (by decide) rfl rfl rfl (Nat.le_of_ble_eq_true rfl) (Nat.le_refl _) (by decide) ?_
                  refine c_X12_unpack (z := 112) (n := 35) (f := 0) rfl (by decide) (by decide) (by decide) (fun h4 uF u84 uk => ?_)
                  have eN : ∀ y, y ≠ 117 → y ≠ 118 → up2 h 118 c (nI (cntN (fun i => decide (l_n S ≤ i) && trB (h 104) i) (l_n (gmL T S (c / 9) (c % 9))))) y = h2 y := fun y y1 y2 => by rw [up2_f _ _ _ _ y2]; exact hF y y1
                  have hR4 : RMl h4 T S := RMl.back hT.le oL.1 oL.2.2.2.2 (by rw [eN 112 (by decide) (by decide), fm.1 112 (by decide) (by decide) (by decide) (by decide) (by decide) (by decide), up2_f _ _ _ _ (by decide), e112]; exact rk) (hR2.cg (fun j _ _ => by rw [eN 84 (by decide) (by decide)]) (fun z z1 z2 z3 => eN z (by omega) (by omega))) hpr uF uk
                  have D4 : FD h0 h4 := ((FD.fld 33 (l_g S 3 2 ||| (bkI (c / 9) ||| bkI (c % 9))) (by decide)).tr fm.fd).tr ((show FD h2 _ from ⟨fun y hy => eN y (by omega) (by omega), fun j _ => by rw [eN 84 (by decide) (by decide)]⟩).tr (FD.unp uF u84))
                  have e4 : h4 112 = h1 112 := by rw [uF 112 (by decide) (by decide) (by decide) (by decide) (by decide), eN 112 (by decide) (by decide), fm.1 112 (by decide) (by decide) (by decide) (by decide) (by decide) (by decide), up2_f _ _ _ _ (by decide)]; exact e112
                  have c4 : h4 84 2 = h0 84 2 := by rw [u84 2 (by decide), eN 84 (by decide) (by decide), fm.2 2 (by decide) (by decide), up2_k _ _ _ _ (by decide)]
                  refine b_incN (j := c) (lv' := [(0, _), (1, _), (2, _), (3, _), (4, _), (5, _), (6, _)]) dX12_tellGains_195 rfl rfl (by decide) rfl rfl ?_
                  refine b_goto (tgt := 11) dX12_tellGains_198 (by decide) ?_
                  refine b_take 2 ?_
                  refine ih (c + 1) (by omega) (by omega) h4 hR4 (D2.tr D4) e4 (by rw [c4]; exact cc) (fun x x1 x2 x3 => ?_)
                  rw [uF 117 (by decide) (by decide) (by decide) (by decide) (by decide), uF 118 (by decide) (by decide) (by decide) (by decide) (by decide), up2_a _ _ _ _ (by decide)]
                  by_cases ex : x = c
                  · subst ex
                    refine ⟨?_, ?_⟩
                    · rw [hC]; unfold gA
                      rw [cnt_or (by obtain ⟨k, k1, k2⟩ := oL.2.2.1; rw [k2]; exact k7_ne k k1), tmP_cg hR2.sg, tmP_cg hR2.sg]
                    · rw [up2_s]; unfold gB
                      have o := okS.yr (sp := -1) oT (okS.set (j := 2) (x := l_g S 3 2 ||| (bkI (x / 9) ||| bkI (x % 9))) oL.1)
                      rw [hF 104 (by decide), cntN_cg (tr_rs (f := h2 104) (s := l_n S) (fun i hi => by rw [hR2.sg i hi]; exact o.2.1 i hi)), cntN_cg (rsP_cg hR2.sg)]
                  · rw [up2_k _ _ _ _ ex, hF 118 (by decide), hX x ex, fm.1 117 (by decide) (by decide) (by decide) (by decide) (by decide) (by decide), fm.1 118 (by decide) (by decide) (by decide) (by decide) (by decide) (by decide), up2_f _ _ _ _ (by decide), up2_f _ _ _ _ (by decide)]
                    exact hG x (by omega) x2 x3
                · have e121 : i < (l_n (gmL T S (c / 9) (c % 9))) := nn_nle (a := (l_n (gmL T S (c / 9) (c % 9)))) (b := i) (by omega) (by omega) h121
                  refine b_aload_n dX12_tellGains_124 rfl rfl ?_
                  refine b_getR (b := 117) lf_X12_135 rfl rfl dX12_tellGains_125 ?_
                  refine b_iload_n dX12_tellGains_128 rfl rfl ?_
                  refine b_dup2 dX12_tellGains_129 rfl rfl ?_
                  refine b_ildN (j := c) dX12_tellGains_130 (rfl) (by show _ < 81; omega) ?_
                  refine b_aload_n dX12_tellGains_131 rfl rfl ?_
                  refine b_getR (b := 104) lf_X12_93 rfl rfl dX12_tellGains_132 ?_
                  refine b_iload dX12_tellGains_135 rfl ?_
                  refine b_ildN (j := i) dX12_tellGains_137 (rfl) (by show _ < 400; omega) ?_
                  refine b_topE (y := h2 104 i) (by rw [hF 104 (by decide)]) ?_
                  refine b_iload dX12_tellGains_138 rfl ?_
                  refine b_icmp_eq (tgt := 161) dX12_tellGains_140 (by decide) (fun h140 => ?_) (fun h140 => ?_)
                  · refine b_iconst (v := 1) dX12_tellGains_161 (by decide +kernel) ?_
                    refine b_goto (tgt := 166) dX12_tellGains_162 (by decide) ?_
                    refine b_iadd dX12_tellGains_166 ?_
                    refine b_istN (j := c) dX12_tellGains_167 (rfl) (by show _ < 81; omega) ?_
                    refine b_incN (j := i) (lv' := [(0, _), (1, _), (2, _), (3, _), (4, _), (5, _), (6, _)]) dX12_tellGains_168 rfl rfl (by decide) rfl rfl ?_
                    refine b_goto (tgt := 115) dX12_tellGains_171 (by decide) ?_
                    refine ihI (i + 1) (by omega) (by omega) (by omega) _ (fun y hy => by rw [up2_f _ _ _ _ hy]; exact hF y hy) (fun x hx => by rw [up2_k _ _ _ _ hx]; exact hX x hx) ?_
                    rw [up2_s, hC, cntN, if_pos (by simp [hsi, h140]), nI_1]
                  · refine b_aload_n dX12_tellGains_143 rfl rfl ?_
                    refine b_getR (b := 104) lf_X12_93 rfl rfl dX12_tellGains_144 ?_
                    refine b_iload dX12_tellGains_147 rfl ?_
                    refine b_ildN (j := i) dX12_tellGains_149 (rfl) (by show _ < 400; omega) ?_
                    refine b_topE (y := h2 104 i) (by rw [hF 104 (by decide)]) ?_
                    refine b_iload dX12_tellGains_150 rfl ?_
                    refine b_bipush (v := 7) dX12_tellGains_152 (by decide +kernel) ?_
                    refine b_iadd dX12_tellGains_154 ?_
                    refine b_callS (As := [_]) (st := [_, _, _, _]) dX12_tellGains_155 lk_X12_364 lm_X12_by12 ls_X12_by12 rfl rfl (Nat.le_of_ble_eq_true rfl) (Nat.le_refl _) (by decide) ?_
                    refine c_X12_by12 ?_
                    refine b_icmp_ne (tgt := 165) dX12_tellGains_158 (by decide) (fun h158 => ?_) (fun h158 => ?_)
                    · refine b_iconst (v := 0) dX12_tellGains_165 (by decide +kernel) ?_
                      refine b_iadd dX12_tellGains_166 ?_
                      refine b_istN (j := c) dX12_tellGains_167 (rfl) (by show _ < 81; omega) ?_
                      refine b_incN (j := i) (lv' := [(0, _), (1, _), (2, _), (3, _), (4, _), (5, _), (6, _)]) dX12_tellGains_168 rfl rfl (by decide) rfl rfl ?_
                      refine b_goto (tgt := 115) dX12_tellGains_171 (by decide) ?_
                      refine ihI (i + 1) (by omega) (by omega) (by omega) _ (fun y hy => by rw [up2_f _ _ _ _ hy]; exact hF y hy) (fun x hx => by rw [up2_k _ _ _ _ hx]; exact hX x hx) ?_
                      rw [up2_s, hC, cntN, if_neg (by simp [hsi, h140, h158]), Nat.add_zero, Int32.add_zero]
                    · refine b_iconst (v := 1) dX12_tellGains_161 (by decide +kernel) ?_
                      refine b_goto (tgt := 166) dX12_tellGains_162 (by decide) ?_
                      refine b_iadd dX12_tellGains_166 ?_
                      refine b_istN (j := c) dX12_tellGains_167 (rfl) (by show _ < 81; omega) ?_
                      refine b_incN (j := i) (lv' := [(0, _), (1, _), (2, _), (3, _), (4, _), (5, _), (6, _)]) dX12_tellGains_168 rfl rfl (by decide) rfl rfl ?_
                      refine b_goto (tgt := 115) dX12_tellGains_171 (by decide) ?_
                      refine ihI (i + 1) (by omega) (by omega) (by omega) _ (fun y hy => by rw [up2_f _ _ _ _ hy]; exact hF y hy) (fun x hx => by rw [up2_k _ _ _ _ hx]; exact hX x hx) ?_
                      rw [up2_s, hC, cntN, if_pos (by simp [hsi, h158]), nI_1]
              refine b_aload_n dX12_tellGains_104 rfl rfl ?_
              refine b_getR (b := 117) lf_X12_135 rfl rfl dX12_tellGains_105 ?_
              refine b_iload_n dX12_tellGains_108 rfl rfl ?_
              refine b_iconst (v := 0) dX12_tellGains_109 (by decide +kernel) ?_
              refine b_istN (j := c) dX12_tellGains_110 (rfl) (by show _ < 81; omega) ?_
              refine b_iload dX12_tellGains_111 rfl ?_
              refine b_istore (lv' := [(0, _), (1, _), (2, _), (3, _), (4, _), (5, _), (6, _)]) dX12_tellGains_113 (by decide) rfl rfl ?_
              have z := IN (l_n S) hpr.1 (Nat.le_refl _) (up2 h2 117 c 0) (fun y hy => up2_f _ _ _ _ hy) (fun x hx => up2_k _ _ _ _ hx) (by rw [up2_s, cntN_z (fun i hi => by simp; omega)]; rfl)
              exact z
            · refine b_iconst (v := 0) dX12_tellGains_88 (by decide +kernel) ?_
              refine b_goto (tgt := 95) dX12_tellGains_89 (by decide) ?_
              refine b_topE (y := bkI (c % 9)) (bk_eq (by omega) h85) ?_
              refine b_ior dX12_tellGains_95 ?_
              refine b_ior dX12_tellGains_96 ?_
              refine b_putI lf_X12_323 lp_12_33 rfl dX12_tellGains_97 ?_
              refine b_aload_n dX12_tellGains_100 rfl rfl ?_
              refine b_callV (As := []) (st := []) dX12_tellGains_101 lk_X12_376 lm_X12_aYear lv_X12_aYear rfl (by decide) rfl rfl rfl (Nat.le_of_ble_eq_true rfl) (Nat.le_refl _) (by decide) ?_
              refine c_X12_aYear (sp := -1) ((hT1.fd D2).fd (FD.fld 33 _ (by decide))) (RMl.set (j := 2) hR0 (by decide)) oT (okS.set oL.1) (by rw [up2_k _ _ _ _ (by decide), D2.2 44 (by decide)]; exact sp1) (fun h2 fm hR2 => ?_)
              have hR2 : RMl h2 T (gmL T S (c / 9) (c % 9)) := hR2
              have hpr : preL S (gmL T S (c / 9) (c % 9)) := (setS_pre S 2 _).tr (yrM_pre T (-1) _)
              have h500 := hR2.le
              have IN : ∀ i, i ≤ l_n (gmL T S (c / 9) (c % 9)) → l_n S ≤ i → ∀ h, (∀ y, y ≠ 117 → h y = h2 y) → (∀ x, x ≠ c → h 117 x = h2 117 x) → h 117 c = nI (cntN (fun i => decide (l_n S ≤ i) && (h2 104 i == l_g S 3 1 || h2 104 i == byM (l_g S 3 1 + 7))) i) → B E md_X12_tellGains (d + 5) Q X 115 [(0, .ref 84), (1, .int (nI c)), (2, .int (bgI (c / 9))), (3, .int (bgI (c % 9))), (4, .int (nI (l_n S))), (5, .int (l_g S 3 1)), (6, .int (nI i))] [] h 0 := by
                refine lp_up (fun i hi ihI hsi h hF hX hC => ?_)
                refine b_iload dX12_tellGains_115 rfl ?_
                refine b_aload_n dX12_tellGains_117 rfl rfl ?_
                refine b_getI lf_X12_320 rfl dX12_tellGains_118 ?_
                refine b_topE (y := nI (l_n (gmL T S (c / 9) (c % 9)))) (by rw [hF 84 (by decide)]; exact hR2.n) ?_
                refine b_icmp_ge (tgt := 174) dX12_tellGains_121 (by decide) (fun h121 => ?_) (fun h121 => ?_)
                · have e121 : (l_n (gmL T S (c / 9) (c % 9))) ≤ i := nn_le (a := (l_n (gmL T S (c / 9) (c % 9)))) (b := i) (by omega) (by omega) h121
                  have ei : i = l_n (gmL T S (c / 9) (c % 9)) := by omega
                  subst ei
                  refine b_aload_n dX12_tellGains_174 rfl rfl ?_
                  refine b_getR (b := 118) lf_X12_138 rfl rfl dX12_tellGains_175 ?_
                  refine b_iload_n dX12_tellGains_178 rfl rfl ?_
                  refine b_aload_n dX12_tellGains_179 rfl rfl ?_
                  refine b_iload dX12_tellGains_180 rfl ?_
                  refine b_callV (As := [_]) (st := [_, _]) dX12_tellGains_182 lk_X12_445 lm_X12_tritonesFrom lv_X12_tritonesFrom rfl (by decide) rfl rfl rfl (Nat.le_of_ble_eq_true rfl) (Nat.le_refl _) (by decide) ?_
                  refine c_X12_tritonesFrom (n := l_n (gmL T S (c / 9) (c % 9))) (by rw [hF 84 (by decide)]; exact hR2.n) hR2.le hpr.1 ?_
                  refine b_istN (j := c) dX12_tellGains_185 (rfl) (by show _ < 81; omega) ?_
                  refine b_aload_n dX12_tellGains_186 rfl rfl ?_
                  refine b_aload_n dX12_tellGains_187 rfl rfl ?_
                  refine b_getR (b := 112) lf_X12_120 rfl rfl dX12_tellGains_188 ?_
                  refine b_iconst (v := 0) dX12_tellGains_191 (by decide +kernel) ?_
                  refine b_callV (As := [_, _]) (st := []) dX12_tellGains_192 lk_X12_416 lm_X12_unpack lv_X12_unpack rfl (by decide) rfl rfl rfl (Nat.le_of_ble_eq_true rfl) (Nat.le_refl _) (by decide) ?_
                  refine c_X12_unpack (z := 112) (n := 35) (f := 0) rfl (by decide) (by decide) (by decide) (fun h4 uF u84 uk => ?_)
                  have eN : ∀ y, y ≠ 117 → y ≠ 118 → up2 h 118 c (nI (cntN (fun i => decide (l_n S ≤ i) && trB (h 104) i) (l_n (gmL T S (c / 9) (c % 9))))) y = h2 y := fun y y1 y2 => by rw [up2_f _ _ _ _ y2]; exact hF y y1
                  have hR4 : RMl h4 T S := RMl.back hT.le oL.1 oL.2.2.2.2 (by rw [eN 112 (by decide) (by decide), fm.1 112 (by decide) (by decide) (by decide) (by decide) (by decide) (by decide), up2_f _ _ _ _ (by decide), e112]; exact rk) (hR2.cg (fun j _ _ => by rw [eN 84 (by decide) (by decide)]) (fun z z1 z2 z3 => eN z (by omega) (by omega))) hpr uF uk
                  have D4 : FD h0 h4 := ((FD.fld 33 (l_g S 3 2 ||| (bkI (c / 9) ||| bkI (c % 9))) (by decide)).tr fm.fd).tr ((show FD h2 _ from ⟨fun y hy => eN y (by omega) (by omega), fun j _ => by rw [eN 84 (by decide) (by decide)]⟩).tr (FD.unp uF u84))
                  have e4 : h4 112 = h1 112 := by rw [uF 112 (by decide) (by decide) (by decide) (by decide) (by decide), eN 112 (by decide) (by decide), fm.1 112 (by decide) (by decide) (by decide) (by decide) (by decide) (by decide), up2_f _ _ _ _ (by decide)]; exact e112
                  have c4 : h4 84 2 = h0 84 2 := by rw [u84 2 (by decide), eN 84 (by decide) (by decide), fm.2 2 (by decide) (by decide), up2_k _ _ _ _ (by decide)]
                  refine b_incN (j := c) (lv' := [(0, _), (1, _), (2, _), (3, _), (4, _), (5, _), (6, _)]) dX12_tellGains_195 rfl rfl (by decide) rfl rfl ?_
                  refine b_goto (tgt := 11) dX12_tellGains_198 (by decide) ?_
                  refine b_take 2 ?_
                  refine ih (c + 1) (by omega) (by omega) h4 hR4 (D2.tr D4) e4 (by rw [c4]; exact cc) (fun x x1 x2 x3 => ?_)
                  rw [uF 117 (by decide) (by decide) (by decide) (by decide) (by decide), uF 118 (by decide) (by decide) (by decide) (by decide) (by decide), up2_a _ _ _ _ (by decide)]
                  by_cases ex : x = c
                  · subst ex
                    refine ⟨?_, ?_⟩
                    · rw [hC]; unfold gA
                      rw [cnt_or (by obtain ⟨k, k1, k2⟩ := oL.2.2.1; rw [k2]; exact k7_ne k k1), tmP_cg hR2.sg, tmP_cg hR2.sg]
                    · rw [up2_s]; unfold gB
                      have o := okS.yr (sp := -1) oT (okS.set (j := 2) (x := l_g S 3 2 ||| (bkI (x / 9) ||| bkI (x % 9))) oL.1)
                      rw [hF 104 (by decide), cntN_cg (tr_rs (f := h2 104) (s := l_n S) (fun i hi => by rw [hR2.sg i hi]; exact o.2.1 i hi)), cntN_cg (rsP_cg hR2.sg)]
                  · rw [up2_k _ _ _ _ ex, hF 118 (by decide), hX x ex, fm.1 117 (by decide) (by decide) (by decide) (by decide) (by decide) (by decide), fm.1 118 (by decide) (by decide) (by decide) (by decide) (by decide) (by decide), up2_f _ _ _ _ (by decide), up2_f _ _ _ _ (by decide)]
                    exact hG x (by omega) x2 x3
                · have e121 : i < (l_n (gmL T S (c / 9) (c % 9))) := nn_nle (a := (l_n (gmL T S (c / 9) (c % 9)))) (b := i) (by omega) (by omega) h121
                  refine b_aload_n dX12_tellGains_124 rfl rfl ?_
                  refine b_getR (b := 117) lf_X12_135 rfl rfl dX12_tellGains_125 ?_
                  refine b_iload_n dX12_tellGains_128 rfl rfl ?_
                  refine b_dup2 dX12_tellGains_129 rfl rfl ?_
                  refine b_ildN (j := c) dX12_tellGains_130 (rfl) (by show _ < 81; omega) ?_
                  refine b_aload_n dX12_tellGains_131 rfl rfl ?_
                  refine b_getR (b := 104) lf_X12_93 rfl rfl dX12_tellGains_132 ?_
                  refine b_iload dX12_tellGains_135 rfl ?_
                  refine b_ildN (j := i) dX12_tellGains_137 (rfl) (by show _ < 400; omega) ?_
                  refine b_topE (y := h2 104 i) (by rw [hF 104 (by decide)]) ?_
                  refine b_iload dX12_tellGains_138 rfl ?_
                  refine b_icmp_eq (tgt := 161) dX12_tellGains_140 (by decide) (fun h140 => ?_) (fun h140 => ?_)
                  · refine b_iconst (v := 1) dX12_tellGains_161 (by decide +kernel) ?_
                    refine b_goto (tgt := 166) dX12_tellGains_162 (by decide) ?_
                    refine b_iadd dX12_tellGains_166 ?_
                    refine b_istN (j := c) dX12_tellGains_167 (rfl) (by show _ < 81; omega) ?_
                    refine b_incN (j := i) (lv' := [(0, _), (1, _), (2, _), (3, _), (4, _), (5, _), (6, _)]) dX12_tellGains_168 rfl rfl (by decide) rfl rfl ?_
                    refine b_goto (tgt := 115) dX12_tellGains_171 (by decide) ?_
                    refine ihI (i + 1) (by omega) (by omega) (by omega) _ (fun y hy => by rw [up2_f _ _ _ _ hy]; exact hF y hy) (fun x hx => by rw [up2_k _ _ _ _ hx]; exact hX x hx) ?_
                    rw [up2_s, hC, cntN, if_pos (by simp [hsi, h140]), nI_1]
                  · refine b_aload_n dX12_tellGains_143 rfl rfl ?_
                    refine b_getR (b := 104) lf_X12_93 rfl rfl dX12_tellGains_144 ?_
                    refine b_iload dX12_tellGains_147 rfl ?_
                    refine b_ildN (j := i) dX12_tellGains_149 (rfl) (by show _ < 400; omega) ?_
                    refine b_topE (y := h2 104 i) (by rw [hF 104 (by decide)]) ?_
                    refine b_iload dX12_tellGains_150 rfl ?_
                    refine b_bipush (v := 7) dX12_tellGains_152 (by decide +kernel) ?_
                    refine b_iadd dX12_tellGains_154 ?_
                    refine b_callS (As := [_]) (st := [_, _, _, _]) dX12_tellGains_155 lk_X12_364 lm_X12_by12 ls_X12_by12 rfl rfl (Nat.le_of_ble_eq_true rfl) (Nat.le_refl _) (by decide) ?_
                    refine c_X12_by12 ?_
                    refine b_icmp_ne (tgt := 165) dX12_tellGains_158 (by decide) (fun h158 => ?_) (fun h158 => ?_)
                    · refine b_iconst (v := 0) dX12_tellGains_165 (by decide +kernel) ?_
                      refine b_iadd dX12_tellGains_166 ?_
                      refine b_istN (j := c) dX12_tellGains_167 (rfl) (by show _ < 81; omega) ?_
                      refine b_incN (j := i) (lv' := [(0, _), (1, _), (2, _), (3, _), (4, _), (5, _), (6, _)]) dX12_tellGains_168 rfl rfl (by decide) rfl rfl ?_
                      refine b_goto (tgt := 115) dX12_tellGains_171 (by decide) ?_
                      refine ihI (i + 1) (by omega) (by omega) (by omega) _ (fun y hy => by rw [up2_f _ _ _ _ hy]; exact hF y hy) (fun x hx => by rw [up2_k _ _ _ _ hx]; exact hX x hx) ?_
                      rw [up2_s, hC, cntN, if_neg (by simp [hsi, h140, h158]), Nat.add_zero, Int32.add_zero]
                    · refine b_iconst (v := 1) dX12_tellGains_161 (by decide +kernel) ?_
                      refine b_goto (tgt := 166) dX12_tellGains_162 (by decide) ?_
                      refine b_iadd dX12_tellGains_166 ?_
                      refine b_istN (j := c) dX12_tellGains_167 (rfl) (by show _ < 81; omega) ?_
                      refine b_incN (j := i) (lv' := [(0, _), (1, _), (2, _), (3, _), (4, _), (5, _), (6, _)]) dX12_tellGains_168 rfl rfl (by decide) rfl rfl ?_
                      refine b_goto (tgt := 115) dX12_tellGains_171 (by decide) ?_
                      refine ihI (i + 1) (by omega) (by omega) (by omega) _ (fun y hy => by rw [up2_f _ _ _ _ hy]; exact hF y hy) (fun x hx => by rw [up2_k _ _ _ _ hx]; exact hX x hx) ?_
                      rw [up2_s, hC, cntN, if_pos (by simp [hsi, h158]), nI_1]
              refine b_aload_n dX12_tellGains_104 rfl rfl ?_
              refine b_getR (b := 117) lf_X12_135 rfl rfl dX12_tellGains_105 ?_
              refine b_iload_n dX12_tellGains_108 rfl rfl ?_
              refine b_iconst (v := 0) dX12_tellGains_109 (by decide +kernel) ?_
              refine b_istN (j := c) dX12_tellGains_110 (rfl) (by show _ < 81; omega) ?_
              refine b_iload dX12_tellGains_111 rfl ?_
              refine b_istore (lv' := [(0, _), (1, _), (2, _), (3, _), (4, _), (5, _), (6, _)]) dX12_tellGains_113 (by decide) rfl rfl ?_
              have z := IN (l_n S) hpr.1 (Nat.le_refl _) (up2 h2 117 c 0) (fun y hy => up2_f _ _ _ _ hy) (fun x hx => up2_k _ _ _ _ hx) (by rw [up2_s, cntN_z (fun i hi => by simp; omega)]; rfl)
              exact z
          · refine b_iconst (v := 0) dX12_tellGains_76 (by decide +kernel) ?_
            refine b_goto (tgt := 83) dX12_tellGains_77 (by decide) ?_
            refine b_topE (y := bkI (c / 9)) (bk_eq (by omega) h73) ?_
            refine b_iload_n dX12_tellGains_83 rfl rfl ?_
            refine b_iconst (v := (-1)) dX12_tellGains_84 (by decide +kernel) ?_
            refine b_icmp_ne (tgt := 92) dX12_tellGains_85 (by decide) (fun h85 => ?_) (fun h85 => ?_)
            · refine b_iconst (v := 1) dX12_tellGains_92 (by decide +kernel) ?_
              refine b_iload_n dX12_tellGains_93 rfl rfl ?_
              refine b_ishl dX12_tellGains_94 ?_
              refine b_topE (y := bkI (c % 9)) (bk_ne h85) ?_
              refine b_ior dX12_tellGains_95 ?_
              refine b_ior dX12_tellGains_96 ?_
              refine b_putI lf_X12_323 lp_12_33 rfl dX12_tellGains_97 ?_
              refine b_aload_n dX12_tellGains_100 rfl rfl ?_
              refine b_callV (As := []) (st := []) dX12_tellGains_101 lk_X12_376 lm_X12_aYear lv_X12_aYear rfl (by decide) rfl rfl rfl (Nat.le_of_ble_eq_true rfl) (Nat.le_refl _) (by decide) ?_
              refine c_X12_aYear (sp := -1) ((hT1.fd D2).fd (FD.fld 33 _ (by decide))) (RMl.set (j := 2) hR0 (by decide)) oT (okS.set oL.1) (by rw [up2_k _ _ _ _ (by decide), D2.2 44 (by decide)]; exact sp1) (fun h2 fm hR2 => ?_)
              have hR2 : RMl h2 T (gmL T S (c / 9) (c % 9)) := hR2
              have hpr : preL S (gmL T S (c / 9) (c % 9)) := (setS_pre S 2 _).tr (yrM_pre T (-1) _)
              have h500 := hR2.le
              have IN : ∀ i, i ≤ l_n (gmL T S (c / 9) (c % 9)) → l_n S ≤ i → ∀ h, (∀ y, y ≠ 117 → h y = h2 y) → (∀ x, x ≠ c → h 117 x = h2 117 x) → h 117 c = nI (cntN (fun i => decide (l_n S ≤ i) && (h2 104 i == l_g S 3 1 || h2 104 i == byM (l_g S 3 1 + 7))) i) → B E md_X12_tellGains (d + 5) Q X 115 [(0, .ref 84), (1, .int (nI c)), (2, .int (bgI (c / 9))), (3, .int (bgI (c % 9))), (4, .int (nI (l_n S))), (5, .int (l_g S 3 1)), (6, .int (nI i))] [] h 0 := by
                refine lp_up (fun i hi ihI hsi h hF hX hC => ?_)
                refine b_iload dX12_tellGains_115 rfl ?_
                refine b_aload_n dX12_tellGains_117 rfl rfl ?_
                refine b_getI lf_X12_320 rfl dX12_tellGains_118 ?_
                refine b_topE (y := nI (l_n (gmL T S (c / 9) (c % 9)))) (by rw [hF 84 (by decide)]; exact hR2.n) ?_
                refine b_icmp_ge (tgt := 174) dX12_tellGains_121 (by decide) (fun h121 => ?_) (fun h121 => ?_)
                · have e121 : (l_n (gmL T S (c / 9) (c % 9))) ≤ i := nn_le (a := (l_n (gmL T S (c / 9) (c % 9)))) (b := i) (by omega) (by omega) h121
                  have ei : i = l_n (gmL T S (c / 9) (c % 9)) := by omega
                  subst ei
                  refine b_aload_n dX12_tellGains_174 rfl rfl ?_
                  refine b_getR (b := 118) lf_X12_138 rfl rfl dX12_tellGains_175 ?_
                  refine b_iload_n dX12_tellGains_178 rfl rfl ?_
                  refine b_aload_n dX12_tellGains_179 rfl rfl ?_
                  refine b_iload dX12_tellGains_180 rfl ?_
                  refine b_callV (As := [_]) (st := [_, _]) dX12_tellGains_182 lk_X12_445 lm_X12_tritonesFrom lv_X12_tritonesFrom rfl (by decide) rfl rfl rfl (Nat.le_of_ble_eq_true rfl) (Nat.le_refl _) (by decide) ?_
                  refine c_X12_tritonesFrom (n := l_n (gmL T S (c / 9) (c % 9))) (by rw [hF 84 (by decide)]; exact hR2.n) hR2.le hpr.1 ?_
                  refine b_istN (j := c) dX12_tellGains_185 (rfl) (by show _ < 81; omega) ?_
                  refine b_aload_n dX12_tellGains_186 rfl rfl ?_
                  refine b_aload_n dX12_tellGains_187 rfl rfl ?_
                  refine b_getR (b := 112) lf_X12_120 rfl rfl dX12_tellGains_188 ?_
                  refine b_iconst (v := 0) dX12_tellGains_191 (by decide +kernel) ?_
                  refine b_callV (As := [_, _]) (st := []) dX12_tellGains_192 lk_X12_416 lm_X12_unpack lv_X12_unpack rfl (by decide) rfl rfl rfl (Nat.le_of_ble_eq_true rfl) (Nat.le_refl _) (by decide) ?_
                  refine c_X12_unpack (z := 112) (n := 35) (f := 0) rfl (by decide) (by decide) (by decide) (fun h4 uF u84 uk => ?_)
                  have eN : ∀ y, y ≠ 117 → y ≠ 118 → up2 h 118 c (nI (cntN (fun i => decide (l_n S ≤ i) && trB (h 104) i) (l_n (gmL T S (c / 9) (c % 9))))) y = h2 y := fun y y1 y2 => by rw [up2_f _ _ _ _ y2]; exact hF y y1
                  have hR4 : RMl h4 T S := RMl.back hT.le oL.1 oL.2.2.2.2 (by rw [eN 112 (by decide) (by decide), fm.1 112 (by decide) (by decide) (by decide) (by decide) (by decide) (by decide), up2_f _ _ _ _ (by decide), e112]; exact rk) (hR2.cg (fun j _ _ => by rw [eN 84 (by decide) (by decide)]) (fun z z1 z2 z3 => eN z (by omega) (by omega))) hpr uF uk
                  have D4 : FD h0 h4 := ((FD.fld 33 (l_g S 3 2 ||| (bkI (c / 9) ||| bkI (c % 9))) (by decide)).tr fm.fd).tr ((show FD h2 _ from ⟨fun y hy => eN y (by omega) (by omega), fun j _ => by rw [eN 84 (by decide) (by decide)]⟩).tr (FD.unp uF u84))
                  have e4 : h4 112 = h1 112 := by rw [uF 112 (by decide) (by decide) (by decide) (by decide) (by decide), eN 112 (by decide) (by decide), fm.1 112 (by decide) (by decide) (by decide) (by decide) (by decide) (by decide), up2_f _ _ _ _ (by decide)]; exact e112
                  have c4 : h4 84 2 = h0 84 2 := by rw [u84 2 (by decide), eN 84 (by decide) (by decide), fm.2 2 (by decide) (by decide), up2_k _ _ _ _ (by decide)]
                  refine b_incN (j := c) (lv' := [(0, _), (1, _), (2, _), (3, _), (4, _), (5, _), (6, _)]) dX12_tellGains_195 rfl rfl (by decide) rfl rfl ?_
                  refine b_goto (tgt := 11) dX12_tellGains_198 (by decide) ?_
                  refine b_take 2 ?_
                  refine ih (c + 1) (by omega) (by omega) h4 hR4 (D2.tr D4) e4 (by rw [c4]; exact cc) (fun x x1 x2 x3 => ?_)
                  rw [uF 117 (by decide) (by decide) (by decide) (by decide) (by decide), uF 118 (by decide) (by decide) (by decide) (by decide) (by decide), up2_a _ _ _ _ (by decide)]
                  by_cases ex : x = c
                  · subst ex
                    refine ⟨?_, ?_⟩
                    · rw [hC]; unfold gA
                      rw [cnt_or (by obtain ⟨k, k1, k2⟩ := oL.2.2.1; rw [k2]; exact k7_ne k k1), tmP_cg hR2.sg, tmP_cg hR2.sg]
                    · rw [up2_s]; unfold gB
                      have o := okS.yr (sp := -1) oT (okS.set (j := 2) (x := l_g S 3 2 ||| (bkI (x / 9) ||| bkI (x % 9))) oL.1)
                      rw [hF 104 (by decide), cntN_cg (tr_rs (f := h2 104) (s := l_n S) (fun i hi => by rw [hR2.sg i hi]; exact o.2.1 i hi)), cntN_cg (rsP_cg hR2.sg)]
                  · rw [up2_k _ _ _ _ ex, hF 118 (by decide), hX x ex, fm.1 117 (by decide) (by decide) (by decide) (by decide) (by decide) (by decide), fm.1 118 (by decide) (by decide) (by decide) (by decide) (by decide) (by decide), up2_f _ _ _ _ (by decide), up2_f _ _ _ _ (by decide)]
                    exact hG x (by omega) x2 x3
                · have e121 : i < (l_n (gmL T S (c / 9) (c % 9))) := nn_nle (a := (l_n (gmL T S (c / 9) (c % 9)))) (b := i) (by omega) (by omega) h121
                  refine b_aload_n dX12_tellGains_124 rfl rfl ?_
                  refine b_getR (b := 117) lf_X12_135 rfl rfl dX12_tellGains_125 ?_
                  refine b_iload_n dX12_tellGains_128 rfl rfl ?_
                  refine b_dup2 dX12_tellGains_129 rfl rfl ?_
                  refine b_ildN (j := c) dX12_tellGains_130 (rfl) (by show _ < 81; omega) ?_
                  refine b_aload_n dX12_tellGains_131 rfl rfl ?_
                  refine b_getR (b := 104) lf_X12_93 rfl rfl dX12_tellGains_132 ?_
                  refine b_iload dX12_tellGains_135 rfl ?_
                  refine b_ildN (j := i) dX12_tellGains_137 (rfl) (by show _ < 400; omega) ?_
                  refine b_topE (y := h2 104 i) (by rw [hF 104 (by decide)]) ?_
                  refine b_iload dX12_tellGains_138 rfl ?_
                  refine b_icmp_eq (tgt := 161) dX12_tellGains_140 (by decide) (fun h140 => ?_) (fun h140 => ?_)
                  · refine b_iconst (v := 1) dX12_tellGains_161 (by decide +kernel) ?_
                    refine b_goto (tgt := 166) dX12_tellGains_162 (by decide) ?_
                    refine b_iadd dX12_tellGains_166 ?_
                    refine b_istN (j := c) dX12_tellGains_167 (rfl) (by show _ < 81; omega) ?_
                    refine b_incN (j := i) (lv' := [(0, _), (1, _), (2, _), (3, _), (4, _), (5, _), (6, _)]) dX12_tellGains_168 rfl rfl (by decide) rfl rfl ?_
                    refine b_goto (tgt := 115) dX12_tellGains_171 (by decide) ?_
                    refine ihI (i + 1) (by omega) (by omega) (by omega) _ (fun y hy => by rw [up2_f _ _ _ _ hy]; exact hF y hy) (fun x hx => by rw [up2_k _ _ _ _ hx]; exact hX x hx) ?_
                    rw [up2_s, hC, cntN, if_pos (by simp [hsi, h140]), nI_1]
                  · refine b_aload_n dX12_tellGains_143 rfl rfl ?_
                    refine b_getR (b := 104) lf_X12_93 rfl rfl dX12_tellGains_144 ?_
                    refine b_iload dX12_tellGains_147 rfl ?_
                    refine b_ildN (j := i) dX12_tellGains_149 (rfl) (by show _ < 400; omega) ?_
                    refine b_topE (y := h2 104 i) (by rw [hF 104 (by decide)]) ?_
                    refine b_iload dX12_tellGains_150 rfl ?_
                    refine b_bipush (v := 7) dX12_tellGains_152 (by decide +kernel) ?_
                    refine b_iadd dX12_tellGains_154 ?_
                    refine b_callS (As := [_]) (st := [_, _, _, _]) dX12_tellGains_155 lk_X12_364 lm_X12_by12 ls_X12_by12 rfl rfl (Nat.le_of_ble_eq_true rfl) (Nat.le_refl _) (by decide) ?_
                    refine c_X12_by12 ?_
                    refine b_icmp_ne (tgt := 165) dX12_tellGains_158 (by decide) (fun h158 => ?_) (fun h158 => ?_)
                    · refine b_iconst (v := 0) dX12_tellGains_165 (by decide +kernel) ?_
                      refine b_iadd dX12_tellGains_166 ?_
                      refine b_istN (j := c) dX12_tellGains_167 (rfl) (by show _ < 81; omega) ?_
                      refine b_incN (j := i) (lv' := [(0, _), (1, _), (2, _), (3, _), (4, _), (5, _), (6, _)]) dX12_tellGains_168 rfl rfl (by decide) rfl rfl ?_
                      refine b_goto (tgt := 115) dX12_tellGains_171 (by decide) ?_
                      refine ihI (i + 1) (by omega) (by omega) (by omega) _ (fun y hy => by rw [up2_f _ _ _ _ hy]; exact hF y hy) (fun x hx => by rw [up2_k _ _ _ _ hx]; exact hX x hx) ?_
                      rw [up2_s, hC, cntN, if_neg (by simp [hsi, h140, h158]), Nat.add_zero, Int32.add_zero]
                    · refine b_iconst (v := 1) dX12_tellGains_161 (by decide +kernel) ?_
                      refine b_goto (tgt := 166) dX12_tellGains_162 (by decide) ?_
                      refine b_iadd dX12_tellGains_166 ?_
                      refine b_istN (j := c) dX12_tellGains_167 (rfl) (by show _ < 81; omega) ?_
                      refine b_incN (j := i) (lv' := [(0, _), (1, _), (2, _), (3, _), (4, _), (5, _), (6, _)]) dX12_tellGains_168 rfl rfl (by decide) rfl rfl ?_
                      refine b_goto (tgt := 115) dX12_tellGains_171 (by decide) ?_
                      refine ihI (i + 1) (by omega) (by omega) (by omega) _ (fun y hy => by rw [up2_f _ _ _ _ hy]; exact hF y hy) (fun x hx => by rw [up2_k _ _ _ _ hx]; exact hX x hx) ?_
                      rw [up2_s, hC, cntN, if_pos (by simp [hsi, h158]), nI_1]
              refine b_aload_n dX12_tellGains_104 rfl rfl ?_
              refine b_getR (b := 117) lf_X12_135 rfl rfl dX12_tellGains_105 ?_
              refine b_iload_n dX12_tellGains_108 rfl rfl ?_
              refine b_iconst (v := 0) dX12_tellGains_109 (by decide +kernel) ?_
              refine b_istN (j := c) dX12_tellGains_110 (rfl) (by show _ < 81; omega) ?_
              refine b_iload dX12_tellGains_111 rfl ?_
              refine b_istore (lv' := [(0, _), (1, _), (2, _), (3, _), (4, _), (5, _), (6, _)]) dX12_tellGains_113 (by decide) rfl rfl ?_
              have z := IN (l_n S) hpr.1 (Nat.le_refl _) (up2 h2 117 c 0) (fun y hy => up2_f _ _ _ _ hy) (fun x hx => up2_k _ _ _ _ hx) (by rw [up2_s, cntN_z (fun i hi => by simp; omega)]; rfl)
              exact z
            · refine b_iconst (v := 0) dX12_tellGains_88 (by decide +kernel) ?_
              refine b_goto (tgt := 95) dX12_tellGains_89 (by decide) ?_
              refine b_topE (y := bkI (c % 9)) (bk_eq (by omega) h85) ?_
              refine b_ior dX12_tellGains_95 ?_
              refine b_ior dX12_tellGains_96 ?_
              refine b_putI lf_X12_323 lp_12_33 rfl dX12_tellGains_97 ?_
              refine b_aload_n dX12_tellGains_100 rfl rfl ?_
              refine b_callV (As := []) (st := []) dX12_tellGains_101 lk_X12_376 lm_X12_aYear lv_X12_aYear rfl (by decide) rfl rfl rfl (Nat.le_of_ble_eq_true rfl) (Nat.le_refl _) (by decide) ?_
              refine c_X12_aYear (sp := -1) ((hT1.fd D2).fd (FD.fld 33 _ (by decide))) (RMl.set (j := 2) hR0 (by decide)) oT (okS.set oL.1) (by rw [up2_k _ _ _ _ (by decide), D2.2 44 (by decide)]; exact sp1) (fun h2 fm hR2 => ?_)
              have hR2 : RMl h2 T (gmL T S (c / 9) (c % 9)) := hR2
              have hpr : preL S (gmL T S (c / 9) (c % 9)) := (setS_pre S 2 _).tr (yrM_pre T (-1) _)
              have h500 := hR2.le
              have IN : ∀ i, i ≤ l_n (gmL T S (c / 9) (c % 9)) → l_n S ≤ i → ∀ h, (∀ y, y ≠ 117 → h y = h2 y) → (∀ x, x ≠ c → h 117 x = h2 117 x) → h 117 c = nI (cntN (fun i => decide (l_n S ≤ i) && (h2 104 i == l_g S 3 1 || h2 104 i == byM (l_g S 3 1 + 7))) i) → B E md_X12_tellGains (d + 5) Q X 115 [(0, .ref 84), (1, .int (nI c)), (2, .int (bgI (c / 9))), (3, .int (bgI (c % 9))), (4, .int (nI (l_n S))), (5, .int (l_g S 3 1)), (6, .int (nI i))] [] h 0 := by
                refine lp_up (fun i hi ihI hsi h hF hX hC => ?_)
                refine b_iload dX12_tellGains_115 rfl ?_
                refine b_aload_n dX12_tellGains_117 rfl rfl ?_
                refine b_getI lf_X12_320 rfl dX12_tellGains_118 ?_
                refine b_topE (y := nI (l_n (gmL T S (c / 9) (c % 9)))) (by rw [hF 84 (by decide)]; exact hR2.n) ?_
                refine b_icmp_ge (tgt := 174) dX12_tellGains_121 (by decide) (fun h121 => ?_) (fun h121 => ?_)
                · have e121 : (l_n (gmL T S (c / 9) (c % 9))) ≤ i := nn_le (a := (l_n (gmL T S (c / 9) (c % 9)))) (b := i) (by omega) (by omega) h121
                  have ei : i = l_n (gmL T S (c / 9) (c % 9)) := by omega
                  subst ei
                  refine b_aload_n dX12_tellGains_174 rfl rfl ?_
                  refine b_getR (b := 118) lf_X12_138 rfl rfl dX12_tellGains_175 ?_
                  refine b_iload_n dX12_tellGains_178 rfl rfl ?_
                  refine b_aload_n dX12_tellGains_179 rfl rfl ?_
                  refine b_iload dX12_tellGains_180 rfl ?_
                  refine b_callV (As := [_]) (st := [_, _]) dX12_tellGains_182 lk_X12_445 lm_X12_tritonesFrom lv_X12_tritonesFrom rfl (by decide) rfl rfl rfl (Nat.le_of_ble_eq_true rfl) (Nat.le_refl _) (by decide) ?_
                  refine c_X12_tritonesFrom (n := l_n (gmL T S (c / 9) (c % 9))) (by rw [hF 84 (by decide)]; exact hR2.n) hR2.le hpr.1 ?_
                  refine b_istN (j := c) dX12_tellGains_185 (rfl) (by show _ < 81; omega) ?_
                  refine b_aload_n dX12_tellGains_186 rfl rfl ?_
                  refine b_aload_n dX12_tellGains_187 rfl rfl ?_
                  refine b_getR (b := 112) lf_X12_120 rfl rfl dX12_tellGains_188 ?_
                  refine b_iconst (v := 0) dX12_tellGains_191 (by decide +kernel) ?_
                  refine b_callV (As := [_, _]) (st := []) dX12_tellGains_192 lk_X12_416 lm_X12_unpack lv_X12_unpack rfl (by decide) rfl rfl rfl (Nat.le_of_ble_eq_true rfl) (Nat.le_refl _) (by decide) ?_
                  refine c_X12_unpack (z := 112) (n := 35) (f := 0) rfl (by decide) (by decide) (by decide) (fun h4 uF u84 uk => ?_)
                  have eN : ∀ y, y ≠ 117 → y ≠ 118 → up2 h 118 c (nI (cntN (fun i => decide (l_n S ≤ i) && trB (h 104) i) (l_n (gmL T S (c / 9) (c % 9))))) y = h2 y := fun y y1 y2 => by rw [up2_f _ _ _ _ y2]; exact hF y y1
                  have hR4 : RMl h4 T S := RMl.back hT.le oL.1 oL.2.2.2.2 (by rw [eN 112 (by decide) (by decide), fm.1 112 (by decide) (by decide) (by decide) (by decide) (by decide) (by decide), up2_f _ _ _ _ (by decide), e112]; exact rk) (hR2.cg (fun j _ _ => by rw [eN 84 (by decide) (by decide)]) (fun z z1 z2 z3 => eN z (by omega) (by omega))) hpr uF uk
                  have D4 : FD h0 h4 := ((FD.fld 33 (l_g S 3 2 ||| (bkI (c / 9) ||| bkI (c % 9))) (by decide)).tr fm.fd).tr ((show FD h2 _ from ⟨fun y hy => eN y (by omega) (by omega), fun j _ => by rw [eN 84 (by decide) (by decide)]⟩).tr (FD.unp uF u84))
                  have e4 : h4 112 = h1 112 := by rw [uF 112 (by decide) (by decide) (by decide) (by decide) (by decide), eN 112 (by decide) (by decide), fm.1 112 (by decide) (by decide) (by decide) (by decide) (by decide) (by decide), up2_f _ _ _ _ (by decide)]; exact e112
                  have c4 : h4 84 2 = h0 84 2 := by rw [u84 2 (by decide), eN 84 (by decide) (by decide), fm.2 2 (by decide) (by decide), up2_k _ _ _ _ (by decide)]
                  refine b_incN (j := c) (lv' := [(0, _), (1, _), (2, _), (3, _), (4, _), (5, _), (6, _)]) dX12_tellGains_195 rfl rfl (by decide) rfl rfl ?_
                  refine b_goto (tgt := 11) dX12_tellGains_198 (by decide) ?_
                  refine b_take 2 ?_
                  refine ih (c + 1) (by omega) (by omega) h4 hR4 (D2.tr D4) e4 (by rw [c4]; exact cc) (fun x x1 x2 x3 => ?_)
                  rw [uF 117 (by decide) (by decide) (by decide) (by decide) (by decide), uF 118 (by decide) (by decide) (by decide) (by decide) (by decide), up2_a _ _ _ _ (by decide)]
                  by_cases ex : x = c
                  · subst ex
                    refine ⟨?_, ?_⟩
                    · rw [hC]; unfold gA
                      rw [cnt_or (by obtain ⟨k, k1, k2⟩ := oL.2.2.1; rw [k2]; exact k7_ne k k1), tmP_cg hR2.sg, tmP_cg hR2.sg]
                    · rw [up2_s]; unfold gB
                      have o := okS.yr (sp := -1) oT (okS.set (j := 2) (x := l_g S 3 2 ||| (bkI (x / 9) ||| bkI (x % 9))) oL.1)
                      rw [hF 104 (by decide), cntN_cg (tr_rs (f := h2 104) (s := l_n S) (fun i hi => by rw [hR2.sg i hi]; exact o.2.1 i hi)), cntN_cg (rsP_cg hR2.sg)]
                  · rw [up2_k _ _ _ _ ex, hF 118 (by decide), hX x ex, fm.1 117 (by decide) (by decide) (by decide) (by decide) (by decide) (by decide), fm.1 118 (by decide) (by decide) (by decide) (by decide) (by decide) (by decide), up2_f _ _ _ _ (by decide), up2_f _ _ _ _ (by decide)]
                    exact hG x (by omega) x2 x3
                · have e121 : i < (l_n (gmL T S (c / 9) (c % 9))) := nn_nle (a := (l_n (gmL T S (c / 9) (c % 9)))) (b := i) (by omega) (by omega) h121
                  refine b_aload_n dX12_tellGains_124 rfl rfl ?_
                  refine b_getR (b := 117) lf_X12_135 rfl rfl dX12_tellGains_125 ?_
                  refine b_iload_n dX12_tellGains_128 rfl rfl ?_
                  refine b_dup2 dX12_tellGains_129 rfl rfl ?_
                  refine b_ildN (j := c) dX12_tellGains_130 (rfl) (by show _ < 81; omega) ?_
                  refine b_aload_n dX12_tellGains_131 rfl rfl ?_
                  refine b_getR (b := 104) lf_X12_93 rfl rfl dX12_tellGains_132 ?_
                  refine b_iload dX12_tellGains_135 rfl ?_
                  refine b_ildN (j := i) dX12_tellGains_137 (rfl) (by show _ < 400; omega) ?_
                  refine b_topE (y := h2 104 i) (by rw [hF 104 (by decide)]) ?_
                  refine b_iload dX12_tellGains_138 rfl ?_
                  refine b_icmp_eq (tgt := 161) dX12_tellGains_140 (by decide) (fun h140 => ?_) (fun h140 => ?_)
                  · refine b_iconst (v := 1) dX12_tellGains_161 (by decide +kernel) ?_
                    refine b_goto (tgt := 166) dX12_tellGains_162 (by decide) ?_
                    refine b_iadd dX12_tellGains_166 ?_
                    refine b_istN (j := c) dX12_tellGains_167 (rfl) (by show _ < 81; omega) ?_
                    refine b_incN (j := i) (lv' := [(0, _), (1, _), (2, _), (3, _), (4, _), (5, _), (6, _)]) dX12_tellGains_168 rfl rfl (by decide) rfl rfl ?_
                    refine b_goto (tgt := 115) dX12_tellGains_171 (by decide) ?_
                    refine ihI (i + 1) (by omega) (by omega) (by omega) _ (fun y hy => by rw [up2_f _ _ _ _ hy]; exact hF y hy) (fun x hx => by rw [up2_k _ _ _ _ hx]; exact hX x hx) ?_
                    rw [up2_s, hC, cntN, if_pos (by simp [hsi, h140]), nI_1]
                  · refine b_aload_n dX12_tellGains_143 rfl rfl ?_
                    refine b_getR (b := 104) lf_X12_93 rfl rfl dX12_tellGains_144 ?_
                    refine b_iload dX12_tellGains_147 rfl ?_
                    refine b_ildN (j := i) dX12_tellGains_149 (rfl) (by show _ < 400; omega) ?_
                    refine b_topE (y := h2 104 i) (by rw [hF 104 (by decide)]) ?_
                    refine b_iload dX12_tellGains_150 rfl ?_
                    refine b_bipush (v := 7) dX12_tellGains_152 (by decide +kernel) ?_
                    refine b_iadd dX12_tellGains_154 ?_
                    refine b_callS (As := [_]) (st := [_, _, _, _]) dX12_tellGains_155 lk_X12_364 lm_X12_by12 ls_X12_by12 rfl rfl (Nat.le_of_ble_eq_true rfl) (Nat.le_refl _) (by decide) ?_
                    refine c_X12_by12 ?_
                    refine b_icmp_ne (tgt := 165) dX12_tellGains_158 (by decide) (fun h158 => ?_) (fun h158 => ?_)
                    · refine b_iconst (v := 0) dX12_tellGains_165 (by decide +kernel) ?_
                      refine b_iadd dX12_tellGains_166 ?_
                      refine b_istN (j := c) dX12_tellGains_167 (rfl) (by show _ < 81; omega) ?_
                      refine b_incN (j := i) (lv' := [(0, _), (1, _), (2, _), (3, _), (4, _), (5, _), (6, _)]) dX12_tellGains_168 rfl rfl (by decide) rfl rfl ?_
                      refine b_goto (tgt := 115) dX12_tellGains_171 (by decide) ?_
                      refine ihI (i + 1) (by omega) (by omega) (by omega) _ (fun y hy => by rw [up2_f _ _ _ _ hy]; exact hF y hy) (fun x hx => by rw [up2_k _ _ _ _ hx]; exact hX x hx) ?_
                      rw [up2_s, hC, cntN, if_neg (by simp [hsi, h140, h158]), Nat.add_zero, Int32.add_zero]
                    · refine b_iconst (v := 1) dX12_tellGains_161 (by decide +kernel) ?_
                      refine b_goto (tgt := 166) dX12_tellGains_162 (by decide) ?_
                      refine b_iadd dX12_tellGains_166 ?_
                      refine b_istN (j := c) dX12_tellGains_167 (rfl) (by show _ < 81; omega) ?_
                      refine b_incN (j := i) (lv' := [(0, _), (1, _), (2, _), (3, _), (4, _), (5, _), (6, _)]) dX12_tellGains_168 rfl rfl (by decide) rfl rfl ?_
                      refine b_goto (tgt := 115) dX12_tellGains_171 (by decide) ?_
                      refine ihI (i + 1) (by omega) (by omega) (by omega) _ (fun y hy => by rw [up2_f _ _ _ _ hy]; exact hF y hy) (fun x hx => by rw [up2_k _ _ _ _ hx]; exact hX x hx) ?_
                      rw [up2_s, hC, cntN, if_pos (by simp [hsi, h158]), nI_1]
              refine b_aload_n dX12_tellGains_104 rfl rfl ?_
              refine b_getR (b := 117) lf_X12_135 rfl rfl dX12_tellGains_105 ?_
              refine b_iload_n dX12_tellGains_108 rfl rfl ?_
              refine b_iconst (v := 0) dX12_tellGains_109 (by decide +kernel) ?_
              refine b_istN (j := c) dX12_tellGains_110 (rfl) (by show _ < 81; omega) ?_
              refine b_iload dX12_tellGains_111 rfl ?_
              refine b_istore (lv' := [(0, _), (1, _), (2, _), (3, _), (4, _), (5, _), (6, _)]) dX12_tellGains_113 (by decide) rfl rfl ?_
              have z := IN (l_n S) hpr.1 (Nat.le_refl _) (up2 h2 117 c 0) (fun y hy => up2_f _ _ _ _ hy) (fun x hx => up2_k _ _ _ _ hx) (by rw [up2_s, cntN_z (fun i hi => by simp; omega)]; rfl)
              exact z
        · have e48 : t_n T < c % 9 := Nat.lt_of_not_le (fun q => h48 ((bgI_lt (by omega) (by omega)).mpr q))
          refine b_goto (tgt := 195) dX12_tellGains_51 (by decide) ?_
          refine b_incN (j := c) (lv' := [(0, _), (1, _), (2, _), (3, _)]) dX12_tellGains_195 rfl rfl (by decide) rfl rfl ?_
          refine b_goto (tgt := 11) dX12_tellGains_198 (by decide) ?_
          refine b_take 2 ?_
          exact ih (c + 1) (by omega) (by omega) h0 hR0 D2 e112 cc (fun x x1 x2 x3 => hG x (by
    by_cases ex : x = c
    · subst ex; omega
    · omega) x2 x3)
  refine b_iconst (v := 0) dX12_tellGains_9 (by decide +kernel) ?_
  refine b_istore_n (lv' := [(0, _), (1, _)]) dX12_tellGains_10 rfl (by decide) rfl rfl ?_
  exact LP 0 (Nat.zero_le _) h1 hR1 (FD.rf h1) rfl rfl (fun x x1 => absurd x1 (by omega))
theorem c_X12_stays {E : En} {d : Nat} {Q : QT} {X : XT} {g : G2} {T : TD} {S : LfS} {h o : Int32} {a b : Nat} (hR : RMl g T S) (hT : RMt g T) (oT : okT T) (oL : okL T S) (gn : GN g T S) (ha : a ≤ t_n T) (hb : b ≤ t_n T) (hq : Q (some (.int (b2i (stB T S h o a b)))) g) : M E md_X12_stays (d + 2) [.ref 84, .int h, .int o, .int (bgI a), .int (bgI b)] g Q X := by
  refine M.of _ rfl rfl (Nat.le_of_ble_eq_true rfl) ?_
  have h8 := hT.le
  have oab := gA_le T S a b (gmL_le oT oL.1 a b)
  have LP : ∀ k, k ≤ t_n T + 1 → anyN (fun k => (csB S h k && decide (gA T S a b < gA T S k b)) || (csB S o k && decide (gB T S a b < gB T S a k))) k = false → B E md_X12_stays (d + 2) Q X 3 [(0, .ref 84), (1, .int h), (2, .int o), (3, .int (bgI a)), (4, .int (bgI b)), (5, .int (bgI k))] [] g 0 := by
    refine lp_up (fun k hk ih hF => ?_)
    refine b_iload dX12_stays_3 rfl ?_
    refine b_aload_n dX12_stays_5 rfl rfl ?_
    refine b_getR (b := 87) lf_X12_40 rfl rfl dX12_stays_6 ?_
    refine b_iconst (v := 0) dX12_stays_9 (by decide +kernel) ?_
    refine b_ildN (j := 0) dX12_stays_10 (rfl) (by show _ < 10; omega) ?_
    refine b_topE (y := nI (t_n T)) (hT.n) ?_
    refine b_icmp_ge (tgt := 115) dX12_stays_11 (by decide) (fun h11 => ?_) (fun h11 => ?_)
    · have e11 := bg_ge (by omega) (by omega) h11
      have ek : k = t_n T + 1 := by omega
      subst ek
      refine b_iconst (v := 1) dX12_stays_115 (by decide +kernel) ?_
      refine b_zret (Or.inr rfl) rfl (by decide) dX12_stays_116 ?_
      have e : stB T S h o a b = true := by unfold stB; rw [hF]; rfl
      rw [e] at hq
      exact hq
    · have e11 := bg_lt (by omega) (by omega) h11
      have okb := gA_le T S k b (gmL_le oT oL.1 k b)
      have oak := gA_le T S a k (gmL_le oT oL.1 a k)
      refine b_aload_n dX12_stays_14 rfl rfl ?_
      refine b_iload_n dX12_stays_15 rfl rfl ?_
      refine b_iload dX12_stays_16 rfl ?_
      refine b_callV (As := [_, _]) (st := []) dX12_stays_18 lk_X12_489 lm_X12_canSend lv_X12_canSend rfl (by decide) rfl rfl rfl (Nat.le_of_ble_eq_true rfl) (Nat.le_refl _) (by decide) ?_
      refine c_X12_canSend hR h8 e11 ?_
      refine b_if_eq (tgt := 62) dX12_stays_21 (by decide) (fun h21 => ?_) (fun h21 => ?_)
      · have e21 := b2i_0 h21
        refine b_aload_n dX12_stays_62 rfl rfl ?_
        refine b_iload_n dX12_stays_63 rfl rfl ?_
        refine b_iload dX12_stays_64 rfl ?_
        refine b_callV (As := [_, _]) (st := []) dX12_stays_66 lk_X12_489 lm_X12_canSend lv_X12_canSend rfl (by decide) rfl rfl rfl (Nat.le_of_ble_eq_true rfl) (Nat.le_refl _) (by decide) ?_
        refine c_X12_canSend hR h8 e11 ?_
        refine b_if_eq (tgt := 109) dX12_stays_69 (by decide) (fun h69 => ?_) (fun h69 => ?_)
        · have e69 := b2i_0 h69
          refine b_iinc (v := bgI (k + 1)) (lv' := [(0, _), (1, _), (2, _), (3, _), (4, _), (5, _)]) dX12_stays_109 rfl (bg1 k) (by decide) rfl rfl ?_
          refine b_goto (tgt := 3) dX12_stays_112 (by decide) ?_
          refine ih (k + 1) (by omega) (by omega) (anyN_f hF ?_)
          rw [Bool.or_eq_false_iff]
          exact ⟨by rw [e21]; rfl, by rw [e69]; rfl⟩
        · have e69 := b2i_1 h69
          refine b_aload_n dX12_stays_72 rfl rfl ?_
          refine b_getR (b := 118) lf_X12_138 rfl rfl dX12_stays_73 ?_
          refine b_bipush (v := 9) dX12_stays_76 (by decide +kernel) ?_
          refine b_iload_n dX12_stays_78 rfl rfl ?_
          refine b_iconst (v := 1) dX12_stays_79 (by decide +kernel) ?_
          refine b_iadd dX12_stays_80 ?_
          refine b_topE (bg1 a) ?_
          refine b_imul dX12_stays_81 ?_
          refine b_topE (nI_mul 9 a) ?_
          refine b_iload dX12_stays_82 rfl ?_
          refine b_iadd dX12_stays_84 ?_
          refine b_iconst (v := 1) dX12_stays_85 (by decide +kernel) ?_
          refine b_iadd dX12_stays_86 ?_
          refine b_topE (bg_ix (9 * a) k) ?_
          refine b_ildN (j := (9 * a + k)) dX12_stays_87 (rfl) (by show _ < 81; omega) ?_
          refine b_topE (y := nI (gB T S a k)) ((gn a k ha e11).2) ?_
          refine b_aload_n dX12_stays_88 rfl rfl ?_
          refine b_getR (b := 118) lf_X12_138 rfl rfl dX12_stays_89 ?_
          refine b_bipush (v := 9) dX12_stays_92 (by decide +kernel) ?_
          refine b_iload_n dX12_stays_94 rfl rfl ?_
          refine b_iconst (v := 1) dX12_stays_95 (by decide +kernel) ?_
          refine b_iadd dX12_stays_96 ?_
          refine b_topE (bg1 a) ?_
          refine b_imul dX12_stays_97 ?_
          refine b_topE (nI_mul 9 a) ?_
          refine b_iload dX12_stays_98 rfl ?_
          refine b_iadd dX12_stays_100 ?_
          refine b_iconst (v := 1) dX12_stays_101 (by decide +kernel) ?_
          refine b_iadd dX12_stays_102 ?_
          refine b_topE (bg_ix (9 * a) b) ?_
          refine b_ildN (j := (9 * a + b)) dX12_stays_103 (rfl) (by show _ < 81; omega) ?_
          refine b_topE (y := nI (gB T S a b)) ((gn a b ha hb).2) ?_
          refine b_icmp_le (tgt := 109) dX12_stays_104 (by decide) (fun h104 => ?_) (fun h104 => ?_)
          · have e104 : (gB T S a k) ≤ (gB T S a b) := nn_le (a := (gB T S a k)) (b := (gB T S a b)) (by omega) (by omega) h104
            refine b_iinc (v := bgI (k + 1)) (lv' := [(0, _), (1, _), (2, _), (3, _), (4, _), (5, _)]) dX12_stays_109 rfl (bg1 k) (by decide) rfl rfl ?_
            refine b_goto (tgt := 3) dX12_stays_112 (by decide) ?_
            refine ih (k + 1) (by omega) (by omega) (anyN_f hF ?_)
            rw [Bool.or_eq_false_iff]
            exact ⟨by rw [e21]; rfl, by rw [e69, decide_eq_false (Nat.not_lt.mpr e104)]; rfl⟩
          · have e104 : (gB T S a b) < (gB T S a k) := nn_nle (a := (gB T S a k)) (b := (gB T S a b)) (by omega) (by omega) h104
            refine b_iconst (v := 0) dX12_stays_107 (by decide +kernel) ?_
            refine b_zret (Or.inl rfl) rfl (by decide) dX12_stays_108 ?_
            have e : stB T S h o a b = false := stB_n2 e11 e69 e104
            rw [e] at hq
            exact hq
      · have e21 := b2i_1 h21
        refine b_aload_n dX12_stays_24 rfl rfl ?_
        refine b_getR (b := 117) lf_X12_135 rfl rfl dX12_stays_25 ?_
        refine b_bipush (v := 9) dX12_stays_28 (by decide +kernel) ?_
        refine b_iload dX12_stays_30 rfl ?_
        refine b_iconst (v := 1) dX12_stays_32 (by decide +kernel) ?_
        refine b_iadd dX12_stays_33 ?_
        refine b_topE (bg1 k) ?_
        refine b_imul dX12_stays_34 ?_
        refine b_topE (nI_mul 9 k) ?_
        refine b_iload dX12_stays_35 rfl ?_
        refine b_iadd dX12_stays_37 ?_
        refine b_iconst (v := 1) dX12_stays_38 (by decide +kernel) ?_
        refine b_iadd dX12_stays_39 ?_
        refine b_topE (bg_ix (9 * k) b) ?_
        refine b_ildN (j := (9 * k + b)) dX12_stays_40 (rfl) (by show _ < 81; omega) ?_
        refine b_topE (y := nI (gA T S k b)) ((gn k b e11 hb).1) ?_
        refine b_aload_n dX12_stays_41 rfl rfl ?_
        refine b_getR (b := 117) lf_X12_135 rfl rfl dX12_stays_42 ?_
        refine b_bipush (v := 9) dX12_stays_45 (by decide +kernel) ?_
        refine b_iload_n dX12_stays_47 rfl rfl ?_
        refine b_iconst (v := 1) dX12_stays_48 (by decide +kernel) ?_
        refine b_iadd dX12_stays_49 ?_
        refine b_topE (bg1 a) ?_
        refine b_imul dX12_stays_50 ?_
        refine b_topE (nI_mul 9 a) ?_
        refine b_iload dX12_stays_51 rfl ?_
        refine b_iadd dX12_stays_53 ?_
        refine b_iconst (v := 1) dX12_stays_54 (by decide +kernel) ?_
        refine b_iadd dX12_stays_55 ?_
        refine b_topE (bg_ix (9 * a) b) ?_
        refine b_ildN (j := (9 * a + b)) dX12_stays_56 (rfl) (by show _ < 81; omega) ?_
        refine b_topE (y := nI (gA T S a b)) ((gn a b ha hb).1) ?_
        refine b_icmp_le (tgt := 62) dX12_stays_57 (by decide) (fun h57 => ?_) (fun h57 => ?_)
        · have e57 : (gA T S k b) ≤ (gA T S a b) := nn_le (a := (gA T S k b)) (b := (gA T S a b)) (by omega) (by omega) h57
          refine b_aload_n dX12_stays_62 rfl rfl ?_
          refine b_iload_n dX12_stays_63 rfl rfl ?_
          refine b_iload dX12_stays_64 rfl ?_
          refine b_callV (As := [_, _]) (st := []) dX12_stays_66 lk_X12_489 lm_X12_canSend lv_X12_canSend rfl (by decide) rfl rfl rfl (Nat.le_of_ble_eq_true rfl) (Nat.le_refl _) (by decide) ?_
          refine c_X12_canSend hR h8 e11 ?_
          refine b_if_eq (tgt := 109) dX12_stays_69 (by decide) (fun h69 => ?_) (fun h69 => ?_)
          · have e69 := b2i_0 h69
            refine b_iinc (v := bgI (k + 1)) (lv' := [(0, _), (1, _), (2, _), (3, _), (4, _), (5, _)]) dX12_stays_109 rfl (bg1 k) (by decide) rfl rfl ?_
            refine b_goto (tgt := 3) dX12_stays_112 (by decide) ?_
            refine ih (k + 1) (by omega) (by omega) (anyN_f hF ?_)
            rw [Bool.or_eq_false_iff]
            exact ⟨by rw [e21, decide_eq_false (Nat.not_lt.mpr e57)]; rfl, by rw [e69]; rfl⟩
          · have e69 := b2i_1 h69
            refine b_aload_n dX12_stays_72 rfl rfl ?_
            refine b_getR (b := 118) lf_X12_138 rfl rfl dX12_stays_73 ?_
            refine b_bipush (v := 9) dX12_stays_76 (by decide +kernel) ?_
            refine b_iload_n dX12_stays_78 rfl rfl ?_
            refine b_iconst (v := 1) dX12_stays_79 (by decide +kernel) ?_
            refine b_iadd dX12_stays_80 ?_
            refine b_topE (bg1 a) ?_
            refine b_imul dX12_stays_81 ?_
            refine b_topE (nI_mul 9 a) ?_
            refine b_iload dX12_stays_82 rfl ?_
            refine b_iadd dX12_stays_84 ?_
            refine b_iconst (v := 1) dX12_stays_85 (by decide +kernel) ?_
            refine b_iadd dX12_stays_86 ?_
            refine b_topE (bg_ix (9 * a) k) ?_
            refine b_ildN (j := (9 * a + k)) dX12_stays_87 (rfl) (by show _ < 81; omega) ?_
            refine b_topE (y := nI (gB T S a k)) ((gn a k ha e11).2) ?_
            refine b_aload_n dX12_stays_88 rfl rfl ?_
            refine b_getR (b := 118) lf_X12_138 rfl rfl dX12_stays_89 ?_
            refine b_bipush (v := 9) dX12_stays_92 (by decide +kernel) ?_
            refine b_iload_n dX12_stays_94 rfl rfl ?_
            refine b_iconst (v := 1) dX12_stays_95 (by decide +kernel) ?_
            refine b_iadd dX12_stays_96 ?_
            refine b_topE (bg1 a) ?_
            refine b_imul dX12_stays_97 ?_
            refine b_topE (nI_mul 9 a) ?_
            refine b_iload dX12_stays_98 rfl ?_
            refine b_iadd dX12_stays_100 ?_
            refine b_iconst (v := 1) dX12_stays_101 (by decide +kernel) ?_
            refine b_iadd dX12_stays_102 ?_
            refine b_topE (bg_ix (9 * a) b) ?_
            refine b_ildN (j := (9 * a + b)) dX12_stays_103 (rfl) (by show _ < 81; omega) ?_
            refine b_topE (y := nI (gB T S a b)) ((gn a b ha hb).2) ?_
            refine b_icmp_le (tgt := 109) dX12_stays_104 (by decide) (fun h104 => ?_) (fun h104 => ?_)
            · have e104 : (gB T S a k) ≤ (gB T S a b) := nn_le (a := (gB T S a k)) (b := (gB T S a b)) (by omega) (by omega) h104
              refine b_iinc (v := bgI (k + 1)) (lv' := [(0, _), (1, _), (2, _), (3, _), (4, _), (5, _)]) dX12_stays_109 rfl (bg1 k) (by decide) rfl rfl ?_
              refine b_goto (tgt := 3) dX12_stays_112 (by decide) ?_
              refine ih (k + 1) (by omega) (by omega) (anyN_f hF ?_)
              rw [Bool.or_eq_false_iff]
              exact ⟨by rw [e21, decide_eq_false (Nat.not_lt.mpr e57)]; rfl, by rw [e69, decide_eq_false (Nat.not_lt.mpr e104)]; rfl⟩
            · have e104 : (gB T S a b) < (gB T S a k) := nn_nle (a := (gB T S a k)) (b := (gB T S a b)) (by omega) (by omega) h104
              refine b_iconst (v := 0) dX12_stays_107 (by decide +kernel) ?_
              refine b_zret (Or.inl rfl) rfl (by decide) dX12_stays_108 ?_
              have e : stB T S h o a b = false := stB_n2 e11 e69 e104
              rw [e] at hq
              exact hq
        · have e57 : (gA T S a b) < (gA T S k b) := nn_nle (a := (gA T S k b)) (b := (gA T S a b)) (by omega) (by omega) h57
          refine b_iconst (v := 0) dX12_stays_60 (by decide +kernel) ?_
          refine b_zret (Or.inl rfl) rfl (by decide) dX12_stays_61 ?_
          have e : stB T S h o a b = false := stB_n1 e11 e21 e57
          rw [e] at hq
          exact hq
  refine b_iconst (v := (-1)) dX12_stays_0 (by decide +kernel) ?_
  refine b_istore (lv' := [(0, _), (1, _), (2, _), (3, _), (4, _), (5, _)]) dX12_stays_1 (by decide) rfl rfl ?_
  exact LP 0 (Nat.zero_le _) rfl
theorem c_X12_game {E : En} {d : Nat} {Q : QT} {X : XT} {g : G2} {T : TD} {S : LfS} {h o w : Int32} (hR : RMl g T S) (hT : RMt g T) (hsp : g 84 44 = -1) (oT : okT T) (oL : okL T S) (hq : ∀ h9, FD g h9 → RMl h9 T S → h9 84 2 = nI (gamM T S h o w).1 → Q (some (.int (gamM T S h o w).2)) h9) : M E md_X12_game (d + 6) [.ref 84, .int h, .int o, .int w] g Q X := by
  refine M.of _ rfl rfl (Nat.le_of_ble_eq_true rfl) ?_
  refine b_aload_n dX12_game_0 rfl rfl ?_
  refine b_iconst (v := 0) dX12_game_1 (by decide +kernel) ?_
  refine b_putI lf_X12_165 lp_12_2 rfl dX12_game_2 ?_
  have F1 : FD g (up2 g 84 2 0) := FD.code 0
  have c1 : up2 g 84 2 0 84 2 = 0 := up2_s _ _ _ _
  have hR := hR.code (x := 0)
  have hT := hT.code (x := 0)
  generalize up2 g 84 2 0 = g1 at F1 c1 hR hT ⊢
  have hsp : g1 84 44 = -1 := by rw [F1.2 44 (by decide)]; exact hsp
  refine b_iload_n dX12_game_5 rfl rfl ?_
  refine b_if_lt (tgt := 14) dX12_game_6 (by decide) (fun h6 => ?_) (fun h6 => ?_)
  · refine b_aload_n dX12_game_14 rfl rfl ?_
    refine b_iconst (v := 1) dX12_game_15 (by decide +kernel) ?_
    refine b_callV (As := [_]) (st := []) dX12_game_16 lk_X12_303 lm_X12_fail lv_X12_fail rfl (by decide) rfl rfl rfl (Nat.le_of_ble_eq_true rfl) (Nat.le_refl _) (by decide) ?_
    refine c_X12_fail ?_
    refine b_iret rfl (by decide) dX12_game_19 ?_
    rw [show gamM T S h o w = (1, 0) from gamM_1 (in_lt h6)] at hq
    exact hq _ (F1.tr (FD.code 1)) hR.code (up2_s _ _ _ _)
  · refine b_iload_n dX12_game_9 rfl rfl ?_
    refine b_iconst (v := 1) dX12_game_10 (by decide +kernel) ?_
    refine b_icmp_le (tgt := 20) dX12_game_11 (by decide) (fun h11 => ?_) (fun h11 => ?_)
    · have hw := in_ok (b := 1) rfl h6 h11
      refine b_iload_n dX12_game_20 rfl rfl ?_
      refine b_i2l dX12_game_21 rfl ?_
      refine b_lconst (v := 0) dX12_game_22 (by decide +kernel) ?_
      refine b_ldc2 lx_X12_492 dX12_game_23 ?_
      refine b_callS (As := [_, _, _]) (st := []) dX12_game_26 lk_X12_168 lm_X12_isIn ls_X12_isIn rfl rfl (Nat.le_of_ble_eq_true rfl) (Nat.le_refl _) (by decide) ?_
      refine c_X12_isIn ?_
      rw [in_64b (a' := 0) (b' := 3) (by decide) (by decide)]
      refine b_if_eq (tgt := 49) dX12_game_29 (by decide) (fun h29 => ?_) (fun h29 => ?_)
      · have e29 := b2i_0 h29
        refine b_aload_n dX12_game_49 rfl rfl ?_
        refine b_iconst (v := 2) dX12_game_50 (by decide +kernel) ?_
        refine b_callV (As := [_]) (st := []) dX12_game_51 lk_X12_303 lm_X12_fail lv_X12_fail rfl (by decide) rfl rfl rfl (Nat.le_of_ble_eq_true rfl) (Nat.le_refl _) (by decide) ?_
        refine c_X12_fail ?_
        refine b_iret rfl (by decide) dX12_game_54 ?_
        have hz : ¬ (inB h.toInt 0 3 = true ∧ inB o.toInt 0 3 = true ∧ ¬ h = o) := fun q => by rw [e29] at q; simp at q
        rw [show gamM T S h o w = (2, 0) from gamM_2 hw hz] at hq
        exact hq _ (F1.tr (FD.code 2)) hR.code (up2_s _ _ _ _)
      · have e29 := b2i_1 h29
        refine b_iload_n dX12_game_32 rfl rfl ?_
        refine b_i2l dX12_game_33 rfl ?_
        refine b_lconst (v := 0) dX12_game_34 (by decide +kernel) ?_
        refine b_ldc2 lx_X12_492 dX12_game_35 ?_
        refine b_callS (As := [_, _, _]) (st := []) dX12_game_38 lk_X12_168 lm_X12_isIn ls_X12_isIn rfl rfl (Nat.le_of_ble_eq_true rfl) (Nat.le_refl _) (by decide) ?_
        refine c_X12_isIn ?_
        rw [in_64b (a' := 0) (b' := 3) (by decide) (by decide)]
        refine b_if_eq (tgt := 49) dX12_game_41 (by decide) (fun h41 => ?_) (fun h41 => ?_)
        · have e41 := b2i_0 h41
          refine b_aload_n dX12_game_49 rfl rfl ?_
          refine b_iconst (v := 2) dX12_game_50 (by decide +kernel) ?_
          refine b_callV (As := [_]) (st := []) dX12_game_51 lk_X12_303 lm_X12_fail lv_X12_fail rfl (by decide) rfl rfl rfl (Nat.le_of_ble_eq_true rfl) (Nat.le_refl _) (by decide) ?_
          refine c_X12_fail ?_
          refine b_iret rfl (by decide) dX12_game_54 ?_
          have hz : ¬ (inB h.toInt 0 3 = true ∧ inB o.toInt 0 3 = true ∧ ¬ h = o) := fun q => by rw [e41] at q; simp at q
          rw [show gamM T S h o w = (2, 0) from gamM_2 hw hz] at hq
          exact hq _ (F1.tr (FD.code 2)) hR.code (up2_s _ _ _ _)
        · have e41 := b2i_1 h41
          refine b_iload_n dX12_game_44 rfl rfl ?_
          refine b_iload_n dX12_game_45 rfl rfl ?_
          refine b_icmp_ne (tgt := 55) dX12_game_46 (by decide) (fun h46 => ?_) (fun h46 => ?_)
          · have hz : inB h.toInt 0 3 = true ∧ inB o.toInt 0 3 = true ∧ ¬ h = o := ⟨e29, e41, h46⟩
            refine b_aload_n dX12_game_55 rfl rfl ?_
            refine b_callV (As := []) (st := []) dX12_game_56 lk_X12_494 lm_X12_tellGains lv_X12_tellGains rfl (by decide) rfl rfl rfl (Nat.le_of_ble_eq_true rfl) (Nat.le_refl _) (by decide) ?_
            refine c_X12_tellGains hR hT hsp oT oL (fun h5 D5 hR2 c5 gn => ?_)
            have hT2 := hT.fd D5
            have h8 := hT.le
            have LO : ∀ a, a ≤ t_n T + 1 → B E md_X12_game (d + 6) Q X 68 [(0, .ref 84), (1, .int h), (2, .int o), (3, .int w), (4, .int (nI (gmO T S h o a).1)), (5, .int (gmO T S h o a).2), (6, .int (bgI a))] [] h5 0 := by
              refine lp_up (fun a ha ihO => ?_)
              have IN : a ≤ t_n T → ∀ b, b ≤ t_n T + 1 → B E md_X12_game (d + 6) Q X 82 [(0, .ref 84), (1, .int h), (2, .int o), (3, .int w), (4, .int (nI (gmI T S h o (gmO T S h o a) a b).1)), (5, .int (gmI T S h o (gmO T S h o a) a b).2), (6, .int (bgI a)), (7, .int (bgI b))] [] h5 0 := by
                intro hat
                refine lp_up (fun b hb ih => ?_)
                refine b_iload dX12_game_82 rfl ?_
                refine b_aload_n dX12_game_84 rfl rfl ?_
                refine b_getR (b := 87) lf_X12_40 rfl rfl dX12_game_85 ?_
                refine b_iconst (v := 0) dX12_game_88 (by decide +kernel) ?_
                refine b_ildN (j := 0) dX12_game_89 (rfl) (by show _ < 10; omega) ?_
                refine b_topE (y := nI (t_n T)) (hT2.n) ?_
                refine b_icmp_ge (tgt := 163) dX12_game_90 (by decide) (fun h90 => ?_) (fun h90 => ?_)
                · have e90 := bg_ge (by omega) (by omega) h90
                  have eb : b = t_n T + 1 := by omega
                  subst eb
                  refine b_iinc (v := bgI (a + 1)) (lv' := [(0, _), (1, _), (2, _), (3, _), (4, _), (5, _), (6, _), (7, _)]) dX12_game_163 rfl (bg1 a) (by decide) rfl rfl ?_
                  refine b_goto (tgt := 68) dX12_game_166 (by decide) ?_
                  refine b_take 7 ?_
                  exact ihO (a + 1) (by omega) (by omega)
                · have e90 := bg_lt (by omega) (by omega) h90
                  refine b_aload_n dX12_game_93 rfl rfl ?_
                  refine b_iload_n dX12_game_94 rfl rfl ?_
                  refine b_iload dX12_game_95 rfl ?_
                  refine b_callV (As := [_, _]) (st := []) dX12_game_97 lk_X12_489 lm_X12_canSend lv_X12_canSend rfl (by decide) rfl rfl rfl (Nat.le_of_ble_eq_true rfl) (Nat.le_refl _) (by decide) ?_
                  refine c_X12_canSend hR2 h8 (by omega) ?_
                  refine b_if_eq (tgt := 157) dX12_game_100 (by decide) (fun h100 => ?_) (fun h100 => ?_)
                  · have e100 := b2i_0 h100
                    refine b_iinc (v := bgI (b + 1)) (lv' := [(0, _), (1, _), (2, _), (3, _), (4, _), (5, _), (6, _), (7, _)]) dX12_game_157 rfl (bg1 b) (by decide) rfl rfl ?_
                    refine b_goto (tgt := 82) dX12_game_160 (by decide) ?_
                    have gk : gkB T S h o a b = false := by unfold gkB; rw [e100]; rfl
                    have z := ih (b + 1) (by omega) (by omega)
                    rw [gmI, gmS_f gk] at z
                    exact z
                  · have e100 := b2i_1 h100
                    refine b_aload_n dX12_game_103 rfl rfl ?_
                    refine b_iload_n dX12_game_104 rfl rfl ?_
                    refine b_iload dX12_game_105 rfl ?_
                    refine b_callV (As := [_, _]) (st := []) dX12_game_107 lk_X12_489 lm_X12_canSend lv_X12_canSend rfl (by decide) rfl rfl rfl (Nat.le_of_ble_eq_true rfl) (Nat.le_refl _) (by decide) ?_
                    refine c_X12_canSend hR2 h8 e90 ?_
                    refine b_if_eq (tgt := 157) dX12_game_110 (by decide) (fun h110 => ?_) (fun h110 => ?_)
                    · have e110 := b2i_0 h110
                      refine b_iinc (v := bgI (b + 1)) (lv' := [(0, _), (1, _), (2, _), (3, _), (4, _), (5, _), (6, _), (7, _)]) dX12_game_157 rfl (bg1 b) (by decide) rfl rfl ?_
                      refine b_goto (tgt := 82) dX12_game_160 (by decide) ?_
                      have gk : gkB T S h o a b = false := by unfold gkB; rw [e110]; simp
                      have z := ih (b + 1) (by omega) (by omega)
                      rw [gmI, gmS_f gk] at z
                      exact z
                    · have e110 := b2i_1 h110
                      refine b_aload_n dX12_game_113 rfl rfl ?_
                      refine b_iload_n dX12_game_114 rfl rfl ?_
                      refine b_iload_n dX12_game_115 rfl rfl ?_
                      refine b_iload dX12_game_116 rfl ?_
                      refine b_iload dX12_game_118 rfl ?_
                      refine b_callV (As := [_, _, _, _]) (st := []) dX12_game_120 lk_X12_497 lm_X12_stays lv_X12_stays rfl (by decide) rfl rfl rfl (Nat.le_of_ble_eq_true rfl) (Nat.le_refl _) (by decide) ?_
                      refine c_X12_stays hR2 hT2 oT oL gn (by omega) e90 ?_
                      refine b_if_ne (tgt := 129) dX12_game_123 (by decide) (fun h123 => ?_) (fun h123 => ?_)
                      · have e123 := b2i_1 h123
                        refine b_incN (j := (gmI T S h o (gmO T S h o a) a b).1) (lv' := [(0, _), (1, _), (2, _), (3, _), (4, _), (5, _), (6, _), (7, _)]) dX12_game_129 rfl rfl (by decide) rfl rfl ?_
                        refine b_iload dX12_game_132 rfl ?_
                        refine b_iconst (v := (-1)) dX12_game_134 (by decide +kernel) ?_
                        refine b_icmp_ne (tgt := 153) dX12_game_135 (by decide) (fun h135 => ?_) (fun h135 => ?_)
                        · refine b_iload dX12_game_153 rfl ?_
                          refine b_istore (lv' := [(0, _), (1, _), (2, _), (3, _), (4, _), (5, _), (6, _), (7, _)]) dX12_game_155 (by decide) rfl rfl ?_
                          refine b_iinc (v := bgI (b + 1)) (lv' := [(0, _), (1, _), (2, _), (3, _), (4, _), (5, _), (6, _), (7, _)]) dX12_game_157 rfl (bg1 b) (by decide) rfl rfl ?_
                          refine b_goto (tgt := 82) dX12_game_160 (by decide) ?_
                          have gk : gkB T S h o a b = true := by unfold gkB; rw [e100, e110, e123]; rfl
                          have z := ih (b + 1) (by omega) (by omega)
                          rw [gmI, gmS_t gk, if_neg h135] at z
                          exact z
                        · refine b_bipush (v := 10) dX12_game_138 (by decide +kernel) ?_
                          refine b_iload dX12_game_140 rfl ?_
                          refine b_iconst (v := 1) dX12_game_142 (by decide +kernel) ?_
                          refine b_iadd dX12_game_143 ?_
                          refine b_topE (bg1 a) ?_
                          refine b_imul dX12_game_144 ?_
                          refine b_topE (nI_mul 10 a) ?_
                          refine b_iload dX12_game_145 rfl ?_
                          refine b_iadd dX12_game_147 ?_
                          refine b_iconst (v := 1) dX12_game_148 (by decide +kernel) ?_
                          refine b_iadd dX12_game_149 ?_
                          refine b_topE (bg_ix (10 * a) b) ?_
                          refine b_goto (tgt := 155) dX12_game_150 (by decide) ?_
                          refine b_istore (lv' := [(0, _), (1, _), (2, _), (3, _), (4, _), (5, _), (6, _), (7, _)]) dX12_game_155 (by decide) rfl rfl ?_
                          refine b_iinc (v := bgI (b + 1)) (lv' := [(0, _), (1, _), (2, _), (3, _), (4, _), (5, _), (6, _), (7, _)]) dX12_game_157 rfl (bg1 b) (by decide) rfl rfl ?_
                          refine b_goto (tgt := 82) dX12_game_160 (by decide) ?_
                          have gk : gkB T S h o a b = true := by unfold gkB; rw [e100, e110, e123]; rfl
                          have z := ih (b + 1) (by omega) (by omega)
                          rw [gmI, gmS_t gk, if_pos h135] at z
                          exact z
                      · have e123 := b2i_0 h123
                        refine b_goto (tgt := 157) dX12_game_126 (by decide) ?_
                        refine b_iinc (v := bgI (b + 1)) (lv' := [(0, _), (1, _), (2, _), (3, _), (4, _), (5, _), (6, _), (7, _)]) dX12_game_157 rfl (bg1 b) (by decide) rfl rfl ?_
                        refine b_goto (tgt := 82) dX12_game_160 (by decide) ?_
                        have gk : gkB T S h o a b = false := by unfold gkB; rw [e123]; simp
                        have z := ih (b + 1) (by omega) (by omega)
                        rw [gmI, gmS_f gk] at z
                        exact z
              refine b_iload dX12_game_68 rfl ?_
              refine b_aload_n dX12_game_70 rfl rfl ?_
              refine b_getR (b := 87) lf_X12_40 rfl rfl dX12_game_71 ?_
              refine b_iconst (v := 0) dX12_game_74 (by decide +kernel) ?_
              refine b_ildN (j := 0) dX12_game_75 (rfl) (by show _ < 10; omega) ?_
              refine b_topE (y := nI (t_n T)) (hT2.n) ?_
              refine b_icmp_ge (tgt := 169) dX12_game_76 (by decide) (fun h76 => ?_) (fun h76 => ?_)
              · have e76 := bg_ge (by omega) (by omega) h76
                have ea : a = t_n T + 1 := by omega
                subst ea
                refine b_iload_n dX12_game_169 rfl rfl ?_
                refine b_if_ne (tgt := 178) dX12_game_170 (by decide) (fun h170 => ?_) (fun h170 => ?_)
                · refine b_iload dX12_game_178 rfl ?_
                  refine b_iret rfl (by decide) dX12_game_180 ?_
                  have hq := hq h5 (F1.tr D5) hR2 (by rw [gamM_0 hw hz, c5]; exact c1)
                  rw [gamM_0 hw hz] at hq
                  simp only [if_neg h170] at hq
                  exact hq
                · refine b_iload dX12_game_173 rfl ?_
                  refine b_goto (tgt := 180) dX12_game_175 (by decide) ?_
                  refine b_iret rfl (by decide) dX12_game_180 ?_
                  have hq := hq h5 (F1.tr D5) hR2 (by rw [gamM_0 hw hz, c5]; exact c1)
                  rw [gamM_0 hw hz] at hq
                  simp only [if_pos h170] at hq
                  exact hq
              · have e76 := bg_lt (by omega) (by omega) h76
                refine b_iconst (v := (-1)) dX12_game_79 (by decide +kernel) ?_
                refine b_istore (lv' := [(0, _), (1, _), (2, _), (3, _), (4, _), (5, _), (6, _), (7, _)]) dX12_game_80 (by decide) rfl rfl ?_
                exact IN e76 0 (Nat.zero_le _)
            refine b_iconst (v := 0) dX12_game_59 (by decide +kernel) ?_
            refine b_istore (lv' := [(0, _), (1, _), (2, _), (3, _), (4, _)]) dX12_game_60 (by decide) rfl rfl ?_
            refine b_iconst (v := (-1)) dX12_game_62 (by decide +kernel) ?_
            refine b_istore (lv' := [(0, _), (1, _), (2, _), (3, _), (4, _), (5, _)]) dX12_game_63 (by decide) rfl rfl ?_
            refine b_iconst (v := (-1)) dX12_game_65 (by decide +kernel) ?_
            refine b_istore (lv' := [(0, _), (1, _), (2, _), (3, _), (4, _), (5, _), (6, _)]) dX12_game_66 (by decide) rfl rfl ?_
            exact LO 0 (Nat.zero_le _)
          · refine b_aload_n dX12_game_49 rfl rfl ?_
            refine b_iconst (v := 2) dX12_game_50 (by decide +kernel) ?_
            refine b_callV (As := [_]) (st := []) dX12_game_51 lk_X12_303 lm_X12_fail lv_X12_fail rfl (by decide) rfl rfl rfl (Nat.le_of_ble_eq_true rfl) (Nat.le_refl _) (by decide) ?_
            refine c_X12_fail ?_
            refine b_iret rfl (by decide) dX12_game_54 ?_
            have hz : ¬ (inB h.toInt 0 3 = true ∧ inB o.toInt 0 3 = true ∧ ¬ h = o) := fun q => q.2.2 h46
            rw [show gamM T S h o w = (2, 0) from gamM_2 hw hz] at hq
            exact hq _ (F1.tr (FD.code 2)) hR.code (up2_s _ _ _ _)
    · refine b_aload_n dX12_game_14 rfl rfl ?_
      refine b_iconst (v := 1) dX12_game_15 (by decide +kernel) ?_
      refine b_callV (As := [_]) (st := []) dX12_game_16 lk_X12_303 lm_X12_fail lv_X12_fail rfl (by decide) rfl rfl rfl (Nat.le_of_ble_eq_true rfl) (Nat.le_refl _) (by decide) ?_
      refine c_X12_fail ?_
      refine b_iret rfl (by decide) dX12_game_19 ?_
      rw [show gamM T S h o w = (1, 0) from gamM_1 (in_gt rfl h11)] at hq
      exact hq _ (F1.tr (FD.code 1)) hR.code (up2_s _ _ _ _)
