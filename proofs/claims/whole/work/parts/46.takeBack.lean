theorem RLf.upd {g h : G2} {a : Nat} {T : TD} {sp : Int32} {S R : LfS} (hR : RLf g a T sp S) (hn : l_n R = l_n S) (h3 : h a 3 = g a 3) (h9 : h a 9 = g a 9) (h10 : h a 10 = g a 10) (e1 : h (a + 1) = g (a + 1)) (e2 : h (a + 2) = g (a + 2)) (e3 : h (a + 3) = g (a + 3)) (e5 : h (a + 5) = g (a + 5)) (e6 : h (a + 6) = g (a + 6))
    (r0 : l_g R 0 = l_g S 0) (r1 : l_g R 1 = l_g S 1) (r2 : l_g R 2 = l_g S 2) (r5 : l_g R 5 = l_g S 5) (hf : ∀ j, j < 5 → h a (4 + j) = l_g R 3 j) (hh : ∀ p, p < t_n T → h (a + 4) p = l_g R 4 p) (fn : h (a + 7) 2 = nI (l_fn R)) (f6 : l_fn R ≤ 6) (fa : ∀ i, i < l_fn R → h (a + 8) i = l_g R 6 i) (fb : ∀ i, i < l_fn R → h (a + 9) i = l_g R 7 i) : RLf h a T sp R := by
  refine ⟨by rw [h3, hn]; exact hR.n, by rw [hn]; exact hR.le, by rw [hn, e1, r0]; exact hR.sg, by rw [hn, e2, r1]; exact hR.wh, by rw [hn, e3, r2]; exact hR.yi, hf, hh, by rw [e5, r5]; exact hR.ba, fn, f6, fa, fb, by rw [h10, hn, r0]; exact hR.las, fun p hp => ?_, by rw [h9]; exact hR.low⟩
  rw [e6, hR.sun p hp]; unfold sunM; rw [hn, r1]
theorem RMl.upd {g h : G2} {T : TD} {S R : LfS} (hR : RMl g T S) (hn : l_n R = l_n S) (h32 : h 84 32 = g 84 32) (e4 : h 104 = g 104) (e5 : h 105 = g 105) (e6 : h 106 = g 106) (e0 : h 100 = g 100) (r0 : l_g R 0 = l_g S 0) (r1 : l_g R 1 = l_g S 1) (r2 : l_g R 2 = l_g S 2) (r5 : l_g R 5 = l_g S 5)
    (y : h 84 30 = l_g R 3 0) (k : h 84 31 = l_g R 3 1) (w : h 84 33 = l_g R 3 2) (de : h 84 34 = l_g R 3 3) (m : h 84 35 = l_g R 3 4) (hh : ∀ p, p < t_n T → h 99 p = l_g R 4 p) (fn : h 84 36 = nI (l_fn R)) (f6 : l_fn R ≤ 6) (fa : ∀ i, i < l_fn R → h 101 i = l_g R 6 i) (fb : ∀ i, i < l_fn R → h 102 i = l_g R 7 i) : RMl h T R := by
  refine ⟨by rw [h32, hn]; exact hR.n, by rw [hn]; exact hR.le, by rw [hn, e4, r0]; exact hR.sg, by rw [hn, e5, r1]; exact hR.wh, by rw [hn, e6, r2]; exact hR.yi, y, k, w, de, m, hh, by rw [e0, r5]; exact hR.ba, fn, f6, fa, fb⟩
theorem lg3 (n f : Nat) (G : G2) : l_g (n, f, G) = G := rfl
theorem lt5 {j : Nat} (h : j < 5) : j = 0 ∨ j = 1 ∨ j = 2 ∨ j = 3 ∨ j = 4 := by omega
theorem insF_cg {f f2 : Nat → Int32} {k n i : Nat} {x : Int32} (h : ∀ j, j < n → f j = f2 j) (hi : i < n + 1) (hk : k ≤ n) : insF f k n x i = insF f2 k n x i := by
  unfold insF
  by_cases h1 : i = k
  · rw [if_pos h1, if_pos h1]
  · rw [if_neg h1, if_neg h1]
    by_cases h2 : k < i ∧ i ≤ n
    · rw [if_pos h2, if_pos h2]; exact h _ (by omega)
    · rw [if_neg h2, if_neg h2]
      by_cases h3 : i < n
      · exact h i h3
      · by_cases h4 : k < i
        · exact absurd ⟨h4, by omega⟩ h2
        · exact absurd hk (by omega)
theorem c_X5_takeBack {E : En} {d : Nat} {Q : QT} {X : XT} {g : G2} {a b i : Nat} {T : TD} {S : LfS} {sp : Int32} (ha : is_life a) (hb : is_acts b) (hi : i < 40) (hT8 : t_n T ≤ 8) (hR : RLf g a T sp S) (oS : okS T S) (hok : okA T (fun j => g (b + 1) (4 * i + j)) S) (hq : ∀ h, FR [a, a + 4, a + 6, a + 7, a + 8, a + 9] g h → RLf h a T sp (unM (fun j => g (b + 1) (4 * i + j)) S) → Q none h) : M E md_X5_takeBack (d + 2) [.ref a, .ref b, .int (nI i)] g Q X := by
  refine M.of _ rfl rfl (Nat.le_of_ble_eq_true rfl) ?_
  have h400 := hR.le
  refine b_aload_n dX5_takeBack_0 rfl rfl ?_
  refine b_iload_n dX5_takeBack_1 rfl rfl ?_
  refine b_callV (As := [_]) (st := []) dX5_takeBack_2 lk_X5_125 lm_X0_one lv_X0_one (acts_c hb) (by decide) rfl rfl rfl (Nat.le_of_ble_eq_true rfl) (Nat.le_refl _) (by decide) ?_
  refine c_X0_one hb hi ?_
  refine b_istore_n (lv' := [(0, _), (1, _), (2, _), (3, _)]) dX5_takeBack_5 rfl (by decide) rfl rfl ?_
  refine b_aload_n dX5_takeBack_6 rfl rfl ?_
  refine b_iload_n dX5_takeBack_7 rfl rfl ?_
  refine b_callV (As := [_]) (st := []) dX5_takeBack_8 lk_X5_131 lm_X0_two lv_X0_two (acts_c hb) (by decide) rfl rfl rfl (Nat.le_of_ble_eq_true rfl) (Nat.le_refl _) (by decide) ?_
  refine c_X0_two hb hi ?_
  refine b_istore (lv' := [(0, _), (1, _), (2, _), (3, _), (4, _)]) dX5_takeBack_11 (by decide) rfl rfl ?_
  refine b_aload_n dX5_takeBack_13 rfl rfl ?_
  refine b_iload_n dX5_takeBack_14 rfl rfl ?_
  refine b_callV (As := [_]) (st := []) dX5_takeBack_15 lk_X5_134 lm_X0_kind lv_X0_kind (acts_c hb) (by decide) rfl rfl rfl (Nat.le_of_ble_eq_true rfl) (Nat.le_refl _) (by decide) ?_
  refine c_X0_kind hb hi ?_
  rcases hok with ⟨k0, n, k1, hn⟩ | k0 | k0 | ⟨k0, p, o, hp, ho, k1, k2⟩ | ⟨k0, hf0⟩ | ⟨k0, k, hk, hk6, k1⟩
  · refine b_topE (y := 0) k0 ?_
    refine b_tableIn (off := 38) (tgt := 56) dX5_takeBack_18 (by decide +kernel) (by decide +kernel) (by decide +kernel) (by decide) ?_
    have k1 : g (b + 1) (4 * i + 1) = nI n := k1
    rw [k1]
    refine b_aload_n dX5_takeBack_56 rfl rfl ?_
    refine b_iload_n dX5_takeBack_57 rfl rfl ?_
    refine b_iload dX5_takeBack_58 rfl ?_
    refine b_callV (As := [_, _]) (st := []) dX5_takeBack_60 lk_X5_136 lm_X5_cut lv_X5_cut (life_c ha) (by decide) rfl rfl rfl (Nat.le_of_ble_eq_true rfl) (Nat.le_refl _) (by decide) ?_
    refine c_X5_cut ha hT8 hR oS hn (fun h hF hR2 => ?_)
    refine b_goto (tgt := 148) dX5_takeBack_63 (by decide) ?_
    refine b_vret rfl (by decide) dX5_takeBack_148 ?_
    have eU : unM (fun j => g (b + 1) (4 * i + j)) S = (n, l_fn S, up2 (l_g S) 3 0 (g (b + 1) (4 * i + 2))) := by
      unfold unM
      rw [if_pos k0]
      show (Int32.toNatClampNeg (g (b + 1) (4 * i + 1)), _, _) = _
      rw [k1, nI_cl (by omega)]
    rw [eU] at hq
    exact hq h (fun y hy => hF y (fun q => hy (by simp only [List.mem_cons, List.not_mem_nil, or_false] at q ⊢; rcases q with q | q <;> simp [q]))) hR2
  · refine b_topE (y := 1) k0 ?_
    refine b_tableIn (off := 48) (tgt := 66) dX5_takeBack_18 (by decide +kernel) (by decide +kernel) (by decide +kernel) (by decide) ?_
    refine b_aload_n dX5_takeBack_66 rfl rfl ?_
    refine b_dup dX5_takeBack_67 rfl ?_
    refine b_getI lf_X5_31 (life_c ha) dX5_takeBack_68 ?_
    refine b_iconst (v := 1) dX5_takeBack_71 (by decide +kernel) ?_
    refine b_iload_n dX5_takeBack_72 rfl rfl ?_
    refine b_ishl dX5_takeBack_73 ?_
    refine b_ixor dX5_takeBack_74 ?_
    refine b_putI lf_X5_31 lp_5_6 (life_c ha) dX5_takeBack_75 ?_
    refine b_goto (tgt := 148) dX5_takeBack_78 (by decide) ?_
    refine b_vret rfl (by decide) dX5_takeBack_148 ?_
    have eU : unM (fun j => g (b + 1) (4 * i + j)) S = (l_n S, l_fn S, up2 (l_g S) 3 2 (l_g S 3 2 ^^^ sbI (g (b + 1) (4 * i + 1)))) := by
      unfold unM
      rw [if_neg (by rw [k0]; decide), if_pos k0]
    rw [eU] at hq
    refine hq _ (fun y hy => up2_f _ _ _ _ (fun q => hy (by rw [q]; exact List.mem_cons_self))) (hR.upd rfl (up2_k _ _ _ _ (by decide)) (up2_k _ _ _ _ (by decide)) (up2_k _ _ _ _ (by decide)) (up2_f _ _ _ _ (by omega)) (up2_f _ _ _ _ (by omega)) (up2_f _ _ _ _ (by omega)) (up2_f _ _ _ _ (by omega)) (up2_f _ _ _ _ (by omega)) (by rw [lg3]; exact up2_f _ _ _ _ (by decide)) (by rw [lg3]; exact up2_f _ _ _ _ (by decide)) (by rw [lg3]; exact up2_f _ _ _ _ (by decide)) (by rw [lg3]; exact up2_f _ _ _ _ (by decide)) (fun j hj => ?_) (fun p hp => ?_) ?_ hR.f6 (fun i hi => ?_) (fun i hi => ?_))
    · by_cases e : j = 2
      · subst e; rw [up2_s, hR.fld 2 (by decide)]; show _ = up2 (l_g S) 3 2 (l_g S 3 2 ^^^ sbI (g (b + 1) (4 * i + 1))) 3 2; rw [up2_s]; rfl
      · rw [up2_k _ _ _ _ (by omega), hR.fld j hj]; show _ = up2 (l_g S) 3 2 (l_g S 3 2 ^^^ sbI (g (b + 1) (4 * i + 1))) 3 j; rw [up2_k _ _ _ _ e]
    · rw [up2_a _ _ _ _ (by omega)]; exact hR.ho p hp
    · rw [up2_a _ _ _ _ (by omega)]; exact hR.fn
    · rw [up2_a _ _ _ _ (by omega)]; exact hR.fa i hi
    · rw [up2_a _ _ _ _ (by omega)]; exact hR.fb i hi
  · refine b_topE (y := 2) k0 ?_
    refine b_tableIn (off := 63) (tgt := 81) dX5_takeBack_18 (by decide +kernel) (by decide +kernel) (by decide +kernel) (by decide) ?_
    refine b_aload_n dX5_takeBack_81 rfl rfl ?_
    refine b_dup dX5_takeBack_82 rfl ?_
    refine b_getI lf_X5_34 (life_c ha) dX5_takeBack_83 ?_
    refine b_iconst (v := 1) dX5_takeBack_86 (by decide +kernel) ?_
    refine b_iload_n dX5_takeBack_87 rfl rfl ?_
    refine b_ishl dX5_takeBack_88 ?_
    refine b_ixor dX5_takeBack_89 ?_
    refine b_putI lf_X5_34 lp_5_7 (life_c ha) dX5_takeBack_90 ?_
    refine b_goto (tgt := 148) dX5_takeBack_93 (by decide) ?_
    refine b_vret rfl (by decide) dX5_takeBack_148 ?_
    have eU : unM (fun j => g (b + 1) (4 * i + j)) S = (l_n S, l_fn S, up2 (l_g S) 3 3 (l_g S 3 3 ^^^ sbI (g (b + 1) (4 * i + 1)))) := by
      unfold unM
      rw [if_neg (by rw [k0]; decide), if_neg (by rw [k0]; decide), if_pos k0]
    rw [eU] at hq
    refine hq _ (fun y hy => up2_f _ _ _ _ (fun q => hy (by rw [q]; exact List.mem_cons_self))) (hR.upd rfl (up2_k _ _ _ _ (by decide)) (up2_k _ _ _ _ (by decide)) (up2_k _ _ _ _ (by decide)) (up2_f _ _ _ _ (by omega)) (up2_f _ _ _ _ (by omega)) (up2_f _ _ _ _ (by omega)) (up2_f _ _ _ _ (by omega)) (up2_f _ _ _ _ (by omega)) (by rw [lg3]; exact up2_f _ _ _ _ (by decide)) (by rw [lg3]; exact up2_f _ _ _ _ (by decide)) (by rw [lg3]; exact up2_f _ _ _ _ (by decide)) (by rw [lg3]; exact up2_f _ _ _ _ (by decide)) (fun j hj => ?_) (fun p hp => ?_) ?_ hR.f6 (fun i hi => ?_) (fun i hi => ?_))
    · by_cases e : j = 3
      · subst e; rw [up2_s, hR.fld 3 (by decide)]; show _ = up2 (l_g S) 3 3 (l_g S 3 3 ^^^ sbI (g (b + 1) (4 * i + 1))) 3 3; rw [up2_s]; rfl
      · rw [up2_k _ _ _ _ (by omega), hR.fld j hj]; show _ = up2 (l_g S) 3 3 (l_g S 3 3 ^^^ sbI (g (b + 1) (4 * i + 1))) 3 j; rw [up2_k _ _ _ _ e]
    · rw [up2_a _ _ _ _ (by omega)]; exact hR.ho p hp
    · rw [up2_a _ _ _ _ (by omega)]; exact hR.fn
    · rw [up2_a _ _ _ _ (by omega)]; exact hR.fa i hi
    · rw [up2_a _ _ _ _ (by omega)]; exact hR.fb i hi
  · refine b_topE (y := 3) k0 ?_
    refine b_tableIn (off := 78) (tgt := 96) dX5_takeBack_18 (by decide +kernel) (by decide +kernel) (by decide +kernel) (by decide) ?_
    have k1 : g (b + 1) (4 * i + 1) = nI p := k1
    have k2 : g (b + 1) (4 * i + 2) = nI o := k2
    rw [k1, k2]
    refine b_aload_n dX5_takeBack_96 rfl rfl ?_
    refine b_iload_n dX5_takeBack_97 rfl rfl ?_
    refine b_iload dX5_takeBack_98 rfl ?_
    refine b_aload_n dX5_takeBack_100 rfl rfl ?_
    refine b_iload_n dX5_takeBack_101 rfl rfl ?_
    refine b_callV (As := [_]) (st := [_, _, _]) dX5_takeBack_102 lk_X5_139 lm_X0_three lv_X0_three (acts_c hb) (by decide) rfl rfl rfl (Nat.le_of_ble_eq_true rfl) (Nat.le_refl _) (by decide) ?_
    refine c_X0_three hb hi ?_
    refine b_callV (As := [_, _, _]) (st := []) dX5_takeBack_105 lk_X5_142 lm_X5_part lv_X5_part (life_c ha) (by decide) rfl rfl rfl (Nat.le_of_ble_eq_true rfl) (Nat.le_refl _) (by decide) ?_
    refine c_X5_part ha (by omega) (by omega) (fun h hF h1 h5 h8 h4 h4o => ?_)
    refine b_goto (tgt := 148) dX5_takeBack_108 (by decide) ?_
    refine b_vret rfl (by decide) dX5_takeBack_148 ?_
    have eU : unM (fun j => g (b + 1) (4 * i + j)) S = (l_n S, l_fn S, up2 (up2 (up2 (l_g S) 3 1 (rmI (l_g S 3 1 + 12 - 7) 12)) 4 o (g (b + 1) (4 * i + 3))) 3 4 (l_g S 3 4 &&& ((sbI (nI p) ||| sbI (nI o)) ^^^ (-1)))) := by
      unfold unM
      rw [if_neg (by rw [k0]; decide), if_neg (by rw [k0]; decide), if_neg (by rw [k0]; decide), if_pos k0]
      dsimp only
      rw [k1, k2, nI_cl (by omega)]
    rw [eU] at hq
    have hz : ∀ y, y ≠ a → y ≠ a + 4 → h y = g y := fun y y1 y2 => hF y (by simp [y1, y2])
    refine hq h (fun y hy => hz y (fun q => hy (by simp [q])) (fun q => hy (by simp [q]))) (hR.upd rfl (h1 3 (by decide) (by decide)) (h1 9 (by decide) (by decide)) (h1 10 (by decide) (by decide)) (hz _ (by omega) (by omega)) (hz _ (by omega) (by omega)) (hz _ (by omega) (by omega)) (hz _ (by omega) (by omega)) (hz _ (by omega) (by omega)) (by rw [lg3, up2_f _ _ _ _ (by decide), up2_f _ _ _ _ (by decide), up2_f _ _ _ _ (by decide)]) (by rw [lg3, up2_f _ _ _ _ (by decide), up2_f _ _ _ _ (by decide), up2_f _ _ _ _ (by decide)]) (by rw [lg3, up2_f _ _ _ _ (by decide), up2_f _ _ _ _ (by decide), up2_f _ _ _ _ (by decide)]) (by rw [lg3, up2_f _ _ _ _ (by decide), up2_f _ _ _ _ (by decide), up2_f _ _ _ _ (by decide)]) (fun j hj => ?_) (fun q hq2 => ?_) ?_ hR.f6 (fun i hi => ?_) (fun i hi => ?_))
    · rcases lt5 hj with rfl | rfl | rfl | rfl | rfl
      · rw [h1 _ (by decide) (by decide)]; simp [up2, l_g]; exact hR.yy
      · rw [h5, hR.key]; simp [up2, l_g]
      · rw [h1 _ (by decide) (by decide)]; simp [up2, l_g]; exact hR.aw
      · rw [h1 _ (by decide) (by decide)]; simp [up2, l_g]; exact hR.de
      · rw [h8, hR.ma]; simp [up2, l_g]
    · by_cases e : q = o
      · subst e; rw [h4o]; simp [up2, l_g]
      · rw [h4 q e, hR.ho q hq2]; simp [up2, e, l_g]
    · rw [hz _ (by omega) (by omega)]; exact hR.fn
    · rw [hz _ (by omega) (by omega), hR.fa i hi]; simp [up2, l_g]
    · rw [hz _ (by omega) (by omega), hR.fb i hi]; simp [up2, l_g]
  · refine b_topE (y := 4) k0 ?_
    refine b_tableIn (off := 93) (tgt := 111) dX5_takeBack_18 (by decide +kernel) (by decide +kernel) (by decide +kernel) (by decide) ?_
    refine b_aload_n dX5_takeBack_111 rfl rfl ?_
    refine b_getR (b := (a + 7)) lf_X5_58 (life_c ha) (life_r14 ha) dX5_takeBack_112 ?_
    refine b_aload_n dX5_takeBack_115 rfl rfl ?_
    refine b_getR (b := (a + 7)) lf_X5_58 (life_c ha) (life_r14 ha) dX5_takeBack_116 ?_
    refine b_getI lf_X5_146 (feuds_c (life_feuds ha)) dX5_takeBack_119 ?_
    refine b_topE (y := nI (l_fn S)) (hR.fn) ?_
    refine b_iconst (v := 1) dX5_takeBack_122 (by decide +kernel) ?_
    refine b_isub dX5_takeBack_123 ?_
    refine b_topE (nI_sub (l_fn S) 1 (by omega)) ?_
    refine b_callV (As := [_]) (st := []) dX5_takeBack_124 lk_X5_147 lm_X1_remove lv_X1_remove (feuds_c (life_feuds ha)) (by decide) rfl rfl rfl (Nat.le_of_ble_eq_true rfl) (Nat.le_refl _) (by decide) ?_
    refine c_X1_remove (n := l_fn S - 1) (k := l_fn S - 1) (life_feuds ha) (by rw [hR.fn]; exact congrArg nI (by omega)) (by have := hR.f6; omega) (Nat.le_refl _) (fun h hF h1 h2 ha8 hb8 => ?_)
    refine b_goto (tgt := 148) dX5_takeBack_127 (by decide) ?_
    refine b_vret rfl (by decide) dX5_takeBack_148 ?_
    have eU : unM (fun j => g (b + 1) (4 * i + j)) S = (l_n S, l_fn S - 1, l_g S) := by
      unfold unM
      rw [if_neg (by rw [k0]; decide), if_neg (by rw [k0]; decide), if_neg (by rw [k0]; decide), if_neg (by rw [k0]; decide), if_pos k0]
    rw [eU] at hq
    have hz : ∀ y, y ≠ a + 7 → y ≠ a + 8 → y ≠ a + 9 → h y = g y := fun y y1 y2 y3 => hF y (by simp only [List.mem_cons, List.not_mem_nil, or_false, not_or]; omega)
    have h6 := hR.f6
    refine hq h (fun y hy => hz y (fun q => hy (by simp [q])) (fun q => hy (by simp [q])) (fun q => hy (by simp [q]))) (hR.upd rfl (by rw [hz a (by omega) (by omega) (by omega)]) (by rw [hz a (by omega) (by omega) (by omega)]) (by rw [hz a (by omega) (by omega) (by omega)]) (hz _ (by omega) (by omega) (by omega)) (hz _ (by omega) (by omega) (by omega)) (hz _ (by omega) (by omega) (by omega)) (hz _ (by omega) (by omega) (by omega)) (hz _ (by omega) (by omega) (by omega)) rfl rfl rfl rfl (fun j hj => ?_) (fun q hq2 => ?_) h2 (by show l_fn S - 1 ≤ 6; omega) (fun i hi => ?_) (fun i hi => ?_))
    · rw [hz a (by omega) (by omega) (by omega)]; exact hR.fld j hj
    · rw [hz _ (by omega) (by omega) (by omega)]; exact hR.ho q hq2
    · have hi : i < l_fn S - 1 := hi
      rw [show a + 8 = a + 7 + 1 by omega, ha8 i hi, rmF, if_neg (by omega)]; exact hR.fa i (by omega)
    · have hi : i < l_fn S - 1 := hi
      rw [show a + 9 = a + 7 + 2 by omega, hb8 i hi, rmF, if_neg (by omega)]; exact hR.fb i (by omega)
  · refine b_topE (y := 5) k0 ?_
    refine b_tableIn (off := 112) (tgt := 130) dX5_takeBack_18 (by decide +kernel) (by decide +kernel) (by decide +kernel) (by decide) ?_
    have k1 : g (b + 1) (4 * i + 1) = nI k := k1
    rw [k1]
    refine b_aload_n dX5_takeBack_130 rfl rfl ?_
    refine b_getR (b := (a + 7)) lf_X5_58 (life_c ha) (life_r14 ha) dX5_takeBack_131 ?_
    refine b_iload_n dX5_takeBack_134 rfl rfl ?_
    refine b_iload dX5_takeBack_135 rfl ?_
    refine b_aload_n dX5_takeBack_137 rfl rfl ?_
    refine b_iload_n dX5_takeBack_138 rfl rfl ?_
    refine b_callV (As := [_]) (st := [_, _, _]) dX5_takeBack_139 lk_X5_139 lm_X0_three lv_X0_three (acts_c hb) (by decide) rfl rfl rfl (Nat.le_of_ble_eq_true rfl) (Nat.le_refl _) (by decide) ?_
    refine c_X0_three hb hi ?_
    refine b_callV (As := [_, _, _]) (st := []) dX5_takeBack_142 lk_X5_151 lm_X1_insert lv_X1_insert (feuds_c (life_feuds ha)) (by decide) rfl rfl rfl (Nat.le_of_ble_eq_true rfl) (Nat.le_refl _) (by decide) ?_
    refine c_X1_insert (life_feuds ha) hR.fn hk6 hk (fun h hF h1 h2 ha8 hb8 => ?_)
    refine b_goto (tgt := 148) dX5_takeBack_145 (by decide) ?_
    refine b_vret rfl (by decide) dX5_takeBack_148 ?_
    have eU : unM (fun j => g (b + 1) (4 * i + j)) S = (l_n S, l_fn S + 1, upA (upA (l_g S) 6 (insF (l_g S 6) k (l_fn S) (g (b + 1) (4 * i + 2)))) 7 (insF (l_g S 7) k (l_fn S) (g (b + 1) (4 * i + 3)))) := by
      unfold unM
      rw [if_neg (by rw [k0]; decide), if_neg (by rw [k0]; decide), if_neg (by rw [k0]; decide), if_neg (by rw [k0]; decide), if_neg (by rw [k0]; decide)]
      dsimp only
      rw [k1, nI_cl (by omega)]
    rw [eU] at hq
    have hz : ∀ y, y ≠ a + 7 → y ≠ a + 8 → y ≠ a + 9 → h y = g y := fun y y1 y2 y3 => hF y (by simp only [List.mem_cons, List.not_mem_nil, or_false, not_or]; omega)
    refine hq h (fun y hy => hz y (fun q => hy (by simp [q])) (fun q => hy (by simp [q])) (fun q => hy (by simp [q]))) (hR.upd rfl (by rw [hz a (by omega) (by omega) (by omega)]) (by rw [hz a (by omega) (by omega) (by omega)]) (by rw [hz a (by omega) (by omega) (by omega)]) (hz _ (by omega) (by omega) (by omega)) (hz _ (by omega) (by omega) (by omega)) (hz _ (by omega) (by omega) (by omega)) (hz _ (by omega) (by omega) (by omega)) (hz _ (by omega) (by omega) (by omega)) rfl rfl rfl rfl (fun j hj => ?_) (fun q hq2 => ?_) h2 (by show l_fn S + 1 ≤ 6; omega) (fun i hi => ?_) (fun i hi => ?_))
    · rw [hz a (by omega) (by omega) (by omega)]; exact hR.fld j hj
    · rw [hz _ (by omega) (by omega) (by omega)]; exact hR.ho q hq2
    · have hi : i < l_fn S + 1 := hi
      rw [show a + 8 = a + 7 + 1 by omega, ha8 i]
      show _ = insF (l_g S 6) k (l_fn S) _ i
      exact insF_cg (fun j hj => hR.fa j hj) hi hk
    · have hi : i < l_fn S + 1 := hi
      rw [show a + 9 = a + 7 + 2 by omega, hb8 i]
      show _ = insF (l_g S 7) k (l_fn S) _ i
      exact insF_cg (fun j hj => hR.fb j hj) hi hk
