theorem up2_if (g : G2) (a k : Nat) (x : Int32) (j : Nat) : up2 g a k x a j = if j = k then x else g a j := by
  by_cases h : j = k
  · rw [h, up2_s, if_pos rfl]
  · rw [up2_k _ _ _ _ h, if_neg h]
theorem lasC_cg {f f2 : Nat → Int32} : ∀ {n : Nat}, (∀ i, i < n → f2 i = f i) → lasC f2 n = lasC f n
  | 0, _ => rfl
  | n + 1, h => by rw [lasC, lasC, h n (by omega), lasC_cg (fun i hi => h i (by omega))]
theorem RLf.cg {g h : G2} {a : Nat} {T : TD} {sp : Int32} {S : LfS} (hR : RLf g a T sp S) (hz : ∀ k, k < 10 → h (a + k) = g (a + k)) : RLf h a T sp S := by
  unfold RLf at *
  have e0 := hz 0 (by decide); have e1 := hz 1 (by decide); have e2 := hz 2 (by decide); have e3 := hz 3 (by decide); have e4 := hz 4 (by decide)
  have e5 := hz 5 (by decide); have e6 := hz 6 (by decide); have e7 := hz 7 (by decide); have e8 := hz 8 (by decide); have e9 := hz 9 (by decide)
  rw [Nat.add_zero] at e0
  rw [e0, e1, e2, e3, e4, e5, e6, e7, e8, e9]
  exact hR
theorem RTn.cg {g h : G2} {t : Nat} {T : TD} (hR : RTn g t T) (hz : ∀ k, k < 12 → h (t + k) = g (t + k)) : RTn h t T := by
  unfold RTn at *
  have e0 := hz 0 (by decide); have e1 := hz 1 (by decide); have e3 := hz 3 (by decide); have e4 := hz 4 (by decide)
  have e5 := hz 5 (by decide); have e9 := hz 9 (by decide); have e10 := hz 10 (by decide); have e11 := hz 11 (by decide)
  rw [Nat.add_zero] at e0
  rw [e0, e1, e3, e4, e5, e9, e10, e11]
  exact hR
theorem nI_inj {a b : Nat} (ha : a < 2 ^ 31) (hb : b < 2 ^ 31) (h : nI a = nI b) : a = b := (nI_eq ha hb).mp h
theorem RLf.add {g g2 : G2} {a p : Nat} {T : TD} {sp x : Int32} {S : LfS} (hR : RLf g a T sp S) (hn4 : l_n S < 400) (hT8 : t_n T ≤ 8) (hp8 : p < 8) (F : FR [a, a + 1, a + 2, a + 3, a + 6] g g2)
    (h1 : ∀ j, j ≠ 3 → j ≠ 10 → g2 a j = g a j) (h2 : g2 a 3 = nI (l_n S + 1)) (h3 : g2 a 10 = (if x = 12 then g a 10 else x)) (h4 : ∀ j, j ≠ l_n S → g2 (a + 1) j = g (a + 1) j) (h5 : g2 (a + 1) (l_n S) = x)
    (h6 : ∀ j, j ≠ l_n S → g2 (a + 2) j = g (a + 2) j) (h7 : g2 (a + 2) (l_n S) = nI p) (h8 : ∀ j, j ≠ l_n S → g2 (a + 3) j = g (a + 3) j) (h9 : g2 (a + 3) (l_n S) = g a 4) (h10 : ∀ j, j ≠ p → g2 (a + 6) j = g (a + 6) j) (h11 : g2 (a + 6) p = g (a + 6) p + 1) : RLf g2 a T sp (addM S p x) := by
  obtain ⟨r1, r2, r3, r4, r5, r6, r7, r8, r9, r10, r11, r12, r13, r14, r15⟩ := hR
  have f4 : g2 (a + 4) = g (a + 4) := F _ (by simp)
  have f5 : g2 (a + 5) = g (a + 5) := F _ (by simp)
  have f7 : g2 (a + 7) = g (a + 7) := F _ (by simp)
  have f8 : g2 (a + 8) = g (a + 8) := F _ (by simp)
  have f9 : g2 (a + 9) = g (a + 9) := F _ (by simp)
  have s0 : ∀ i, l_g (addM S p x) 0 i = if i = l_n S then x else l_g S 0 i := by
    intro i; show (up2 (up2 (up2 (l_g S) 0 (l_n S) x) 1 (l_n S) (nI p)) 2 (l_n S) (l_g S 3 0)) 0 i = _; rw [up2_a _ _ _ _ (by decide), up2_a _ _ _ _ (by decide), up2_if]
  have s1 : ∀ i, l_g (addM S p x) 1 i = if i = l_n S then nI p else l_g S 1 i := by
    intro i; show (up2 (up2 (up2 (l_g S) 0 (l_n S) x) 1 (l_n S) (nI p)) 2 (l_n S) (l_g S 3 0)) 1 i = _; rw [up2_a _ _ _ _ (by decide), up2_if, up2_a _ _ _ _ (by decide)]
  have s2 : ∀ i, l_g (addM S p x) 2 i = if i = l_n S then l_g S 3 0 else l_g S 2 i := by
    intro i; show (up2 (up2 (up2 (l_g S) 0 (l_n S) x) 1 (l_n S) (nI p)) 2 (l_n S) (l_g S 3 0)) 2 i = _; rw [up2_if, up2_a _ _ _ _ (by decide), up2_a _ _ _ _ (by decide)]
  have s3 : ∀ c, 3 ≤ c → l_g (addM S p x) c = l_g S c := by 
    intro c hc; show (up2 (up2 (up2 (l_g S) 0 (l_n S) x) 1 (l_n S) (nI p)) 2 (l_n S) (l_g S 3 0)) c = _; rw [up2_f _ _ _ _ (by omega), up2_f _ _ _ _ (by omega), up2_f _ _ _ _ (by omega)]
  refine ⟨h2, by show l_n S + 1 ≤ 400; omega, fun i hi => ?_, fun i hi => ?_, fun i hi => ?_, fun j hj => ?_, fun q hq => ?_, fun q hq => ?_, by rw [f7]; exact r9, r10, fun i hi => ?_, fun i hi => ?_, ?_, fun q hq => ?_, fun q hq => ?_⟩
  · have hi : i < l_n S + 1 := hi
    rw [s0]; by_cases e : i = l_n S
    · rw [if_pos e, e]; exact h5
    · rw [if_neg e, h4 i e]; exact r3 i (by omega)
  · have hi : i < l_n S + 1 := hi
    rw [s1]; by_cases e : i = l_n S
    · rw [if_pos e, e]; exact h7
    · rw [if_neg e, h6 i e]; exact r4 i (by omega)
  · have hi : i < l_n S + 1 := hi
    rw [s2]; by_cases e : i = l_n S
    · rw [if_pos e, e, h9]; exact r6 0 (by decide)
    · rw [if_neg e, h8 i e]; exact r5 i (by omega)
  · rw [s3 3 (by decide), h1 _ (by omega) (by omega)]; exact r6 j hj
  · rw [s3 4 (by decide), f4]; exact r7 q hq
  · rw [s3 5 (by decide), f5]; exact r8 q hq
  · rw [s3 6 (by decide), f8]; exact r11 i hi
  · rw [s3 7 (by decide), f9]; exact r12 i hi
  · rw [h3, show l_n (addM S p x) = l_n S + 1 from rfl, lasC, s0, if_pos rfl, r13, lasC_cg (f := l_g S 0) (f2 := l_g (addM S p x) 0) (fun i hi => by rw [s0, if_neg (by omega)])]
  · have e : sunM (addM S p x) q = sunM S q + (if p = q then 1 else 0) := by
      unfold sunM
      rw [show l_n (addM S p x) = l_n S + 1 from rfl, cntN, cntN_cg (R := fun i => l_g S 1 i == nI q) (fun i hi => by show (l_g (addM S p x) 1 i == nI q) = _; rw [s1, if_neg (by omega)])]
      show _ + (if (l_g (addM S p x) 1 (l_n S) == nI q) = true then 1 else 0) = _
      rw [s1, if_pos rfl]
      by_cases e : p = q
      · rw [e]; simp
      · have : ¬ nI p = nI q := fun z => e (nI_inj (by omega) (by omega) z)
        simp [e, this]
    rw [e]
    by_cases e2 : p = q
    · rw [if_pos e2, ← e2, h11, r14 p (by rw [e2]; exact hq)]; exact nI_1 _
    · rw [if_neg e2, h10 q (fun z => e2 z.symm)]; exact r14 q hq
  · rw [h1 9 (by decide) (by decide)]; exact r15 q hq
/-- a year more -/
theorem RLf.yr {g g2 : G2} {a : Nat} {T : TD} {sp : Int32} {S : LfS} (hR : RLf g a T sp S) (F : FR [a] g g2) (h1 : ∀ j, j ≠ 4 → g2 a j = g a j) (h2 : g2 a 4 = g a 4 + 1) : RLf g2 a T sp (l_n S, l_fn S, up2 (l_g S) 3 0 (l_g S 3 0 + 1)) := by
  obtain ⟨r1, r2, r3, r4, r5, r6, r7, r8, r9, r10, r11, r12, r13, r14, r15⟩ := hR
  have f : ∀ k, 0 < k → g2 (a + k) = g (a + k) := fun k hk => F _ (by simp; omega)
  have s3 : ∀ c, c ≠ 3 → l_g (l_n S, l_fn S, up2 (l_g S) 3 0 (l_g S 3 0 + 1)) c = l_g S c := fun c hc => up2_f _ _ _ _ hc
  have s4 : ∀ j, l_g (l_n S, l_fn S, up2 (l_g S) 3 0 (l_g S 3 0 + 1)) 3 j = if j = 0 then l_g S 3 0 + 1 else l_g S 3 j := fun j => up2_if _ _ _ _ j
  have e4 := r6 0 (by decide)
  refine ⟨by rw [h1 3 (by decide)]; exact r1, r2, ?_, ?_, ?_, fun j hj => ?_, ?_, ?_, ?_, r10, ?_, ?_, ?_, ?_, ?_⟩
  · intro i hi; rw [f 1 (by decide)]; rw [s3 0 (by decide)]; exact r3 i hi
  · intro i hi; rw [f 2 (by decide)]; rw [s3 1 (by decide)]; exact r4 i hi
  · intro i hi; rw [f 3 (by decide)]; rw [s3 2 (by decide)]; exact r5 i hi
  · rw [s4]
    by_cases e : j = 0
    · subst e; rw [if_pos rfl, h2]; rw [show g a 4 = l_g S 3 0 from e4]
    · rw [if_neg e, h1 _ (by omega)]; exact r6 j hj
  · intro i hi; rw [f 4 (by decide)]; rw [s3 4 (by decide)]; exact r7 i hi
  · intro i hi; rw [f 5 (by decide)]; rw [s3 5 (by decide)]; exact r8 i hi
  · rw [f 7 (by decide)]; exact r9
  · intro i hi; rw [f 8 (by decide)]; rw [s3 6 (by decide)]; exact r11 i hi
  · intro i hi; rw [f 9 (by decide)]; rw [s3 7 (by decide)]; exact r12 i hi
  · rw [h1 10 (by decide), s3 0 (by decide)]; exact r13
  · intro q hq; rw [f 6 (by decide), r14 q hq]; unfold sunM; rw [s3 1 (by decide)]
  · intro q hq; rw [h1 9 (by decide)]; exact r15 q hq
theorem runM_full {T : TD} {sp : Int32} {S : LfS} {i : Nat} (h : l_n (runM T sp S i) = 400) : ∀ k, runM T sp S (i + k) = runM T sp S i
  | 0 => rfl
  | k + 1 => by
    have ih := runM_full h k
    show stpM T sp (runM T sp S (i + k)) (i + k) = _
    unfold stpM
    rw [ih, if_neg (by rw [h]; intro q; omega)]
theorem c_X5_passYear {E : En} {d : Nat} {Q : QT} {X : XT} {g : G2} {a t : Nat} {T : TD} {sp : Int32} {S : LfS} (ha : is_life a) (ht : is_town t) (hR : RLf g a T sp S) (hT : RTn g t T) (hw : wfT T) (hq : ∀ g2, FR [a, a + 1, a + 2, a + 3, a + 6, t + 12] g g2 → RLf g2 a T sp (yrM T sp S) → Q none g2) : M E md_X5_passYear (d + 3) [.ref a, .ref t] g Q X := by
  refine M.of _ rfl rfl (Nat.le_of_ble_eq_true rfl) ?_
  have EX : ∀ h : G2, FR [a, a + 1, a + 2, a + 3, a + 6, t + 12] g h → ∀ {S2 : LfS}, RLf h a T sp S2 → S2 = runM T sp S (t_n T) → B E md_X5_passYear (d + 3) Q X 55 [(0, .ref a), (1, .ref t)] [] h 0 := by
    intro h hF S2 hR hS
    refine b_aload_n dX5_passYear_55 rfl rfl ?_
    refine b_dup dX5_passYear_56 rfl ?_
    refine b_getI lf_X5_25 (life_c ha) dX5_passYear_57 ?_
    refine b_iconst (v := 1) dX5_passYear_60 (by decide +kernel) ?_
    refine b_iadd dX5_passYear_61 ?_
    refine b_putI lf_X5_25 lp_5_4 (life_c ha) dX5_passYear_62 ?_
    refine b_vret rfl (by decide) dX5_passYear_65 ?_
    have F5 : FR [a] h (up2 h a 4 (h a 4 + 1)) := fun b hb => up2_f _ _ _ _ (by simpa using hb)
    refine hq _ (fun b hb => ?_) ?_
    · rw [F5 b (by simp only [List.mem_cons, List.not_mem_nil, or_false, not_or] at hb ⊢; omega)]; exact hF b hb
    · rw [hS] at hR
      exact hR.yr F5 (fun j hj => up2_k _ _ _ _ hj) (up2_s _ _ _ _)
  have LP : ∀ i, i ≤ t_n T → ∀ h : G2, FR [a, a + 1, a + 2, a + 3, a + 6, t + 12] g h → RLf h a T sp (runM T sp S i) → B E md_X5_passYear (d + 3) Q X 2 [(0, .ref a), (1, .ref t), (2, .int (nI i))] [] h 0 := by
    refine lp_up (fun i hi ih h hF hR => ?_)
    have hT : RTn h t T := hT.cg (fun k hk => hF _ (by simp only [List.mem_cons, List.not_mem_nil, or_false, not_or]; unfold is_life is_town at *; omega))
    obtain ⟨hT1, hT2, hT3, hT4, hT5, hT6, hT7, hT8, hT9, hT10, hT11, hT12, hT13⟩ := id hT
    have hR6 := hR.2.2.2.2.2.1
    have h400 := hR.2.1
    have hR9 := hR.2.2.2.2.2.2.2.2.1
    have hR10 := hR.2.2.2.2.2.2.2.2.2.1
    refine b_iload_n dX5_passYear_2 rfl rfl ?_
    refine b_aload_n dX5_passYear_3 rfl rfl ?_
    refine b_getI lf_X5_67 (town_c ht) dX5_passYear_4 ?_
    refine b_icmp_ge (tgt := 55) dX5_passYear_7 (by decide) (fun h7 => ?_) (fun h7 => ?_)
    · have e : i = (t_n T) := by have := (nI_leI (by omega) (by omega)).mp (hT1 ▸ h7); omega
      refine b_take 2 ?_
      exact EX h hF hR (by rw [e])
    · have e : i < (t_n T) := by
        rcases Nat.lt_or_ge i (t_n T) with q | q
        · exact q
        · exact absurd (hT1 ▸ (nI_leI (by omega) (by omega)).mpr q) h7
      refine b_aload_n dX5_passYear_10 rfl rfl ?_
      refine b_getI lf_X5_21 (life_c ha) dX5_passYear_11 ?_
      refine b_sipush (v := 400) dX5_passYear_14 (by decide +kernel) ?_
      refine b_icmp_ge (tgt := 55) dX5_passYear_17 (by decide) (fun h17 => ?_) (fun h17 => ?_)
      · have hfull : l_n (runM T sp S i) = 400 := by rw [hR.1] at h17; have := (nI_leI (a := 400) (by decide) (by omega)).mp h17; omega
        refine b_take 2 ?_
        exact EX h hF hR (by rw [show t_n T = i + (t_n T - i) from by omega, runM_full hfull])
      · have hlt : l_n (runM T sp S i) < 400 := by
          rcases Nat.lt_or_ge (l_n (runM T sp S i)) 400 with q | q
          · exact q
          · rw [hR.1] at h17; exact absurd ((nI_leI (a := 400) (by decide) (by omega)).mpr q) h17
        refine b_aload_n dX5_passYear_20 rfl rfl ?_
        refine b_getR (b := (t + 5)) lf_X5_84 (town_c ht) (town_r5 ht) dX5_passYear_21 ?_
        refine b_iload_n dX5_passYear_24 rfl rfl ?_
        refine b_ildN (j := i) dX5_passYear_25 (rfl) (by rw [(town_n5 ht)]; omega) ?_
        obtain ⟨p, hp, ep0⟩ := hT13 i e
        have ep : ordM T i = (nI p).toNatClampNeg := by unfold ordM; rw [ep0]
        refine b_topE (y := nI p) (by rw [hT6 i e]; exact ep0) ?_
        refine b_istore_n (lv' := [(0, _), (1, _), (2, _), (3, _)]) dX5_passYear_26 rfl (by decide) rfl rfl ?_
        refine b_aload_n dX5_passYear_27 rfl rfl ?_
        refine b_getI lf_X5_34 (life_c ha) dX5_passYear_28 ?_
        refine b_iload_n dX5_passYear_31 rfl rfl ?_
        refine b_callSN (As := [_, _]) (st := []) dX5_passYear_32 (by decide +kernel) rfl lm_X11_isIn ls_X11_isIn rfl rfl (Nat.le_of_ble_eq_true rfl) (Nat.le_refl _) (by decide) ?_
        refine c_X11_isIn ?_
        refine b_if_ne (tgt := 49) dX5_passYear_35 (by decide) (fun h35 => ?_) (fun h35 => ?_)
        · have hdead0 := b2i_1 h35
          have hdead : ¬ btI (l_g (runM T sp S i) 3 3) (nI p) = 0 := by
            rw [show h a 7 = l_g (runM T sp S i) 3 3 from hR6 3 (by decide)] at hdead0
            intro q; rw [q] at hdead0; exact absurd hdead0 (by decide)
          refine b_incN (j := i) (lv' := [(0, _), (1, _), (2, _), (3, _)]) dX5_passYear_49 rfl rfl (by decide) rfl rfl ?_
          refine b_goto (tgt := 2) dX5_passYear_52 (by decide) ?_
          refine b_take 3 ?_
          exact ih (i + 1) (by omega) (by omega) h hF (by show RLf h a T sp (stpM T sp _ i); unfold stpM; rw [if_neg (fun q => by rw [ep, nI_clamp (by omega)] at q; exact hdead q.2)]; exact hR)
        · have hdead0 := b2i_0 h35
          have hdead : btI (l_g (runM T sp S i) 3 3) (nI p) = 0 := by
            rw [show h a 7 = l_g (runM T sp S i) 3 3 from hR6 3 (by decide)] at hdead0
            simpa using hdead0
          refine b_aload_n dX5_passYear_38 rfl rfl ?_
          refine b_iload_n dX5_passYear_39 rfl rfl ?_
          refine b_aload_n dX5_passYear_40 rfl rfl ?_
          refine b_aload_n dX5_passYear_41 rfl rfl ?_
          refine b_iload_n dX5_passYear_42 rfl rfl ?_
          refine b_callV (As := [_, _]) (st := [_, _]) dX5_passYear_43 lk_X5_91 lm_X5_nextSign lv_X5_nextSign (life_c ha) (by decide) rfl rfl rfl (Nat.le_of_ble_eq_true rfl) (Nat.le_refl _) (by decide) ?_
          refine c_X5_nextSign ha ht hR.1 hR.2.1 hR9 hR10 hT10 hT11 (by omega) (fun g2 hg2 => ?_)
          have hR2 : RLf g2 a T sp (runM T sp S i) := hR.cg (fun k hk => hg2 _ (by unfold is_life is_town at *; omega))
          rw [ns_eq hR hT hw hp]
          refine b_callV (As := [_, _]) (st := []) dX5_passYear_46 lk_X5_95 lm_X5_add lv_X5_add (life_c ha) (by decide) rfl rfl rfl (Nat.le_of_ble_eq_true rfl) (Nat.le_refl _) (by decide) ?_
          refine c_X5_add ha hR2.1 hlt (by omega) (fun g3 F3 u1 u2 u3 u4 u5 u6 u7 u8 u9 u10 u11 => ?_)
          have hR3 := hR2.add hlt hT2 (by omega) F3 u1 u2 u3 u4 u5 u6 u7 u8 u9 u10 u11
          have hF3 : FR [a, a + 1, a + 2, a + 3, a + 6, t + 12] g g3 := fun b hb => by
            simp only [List.mem_cons, List.not_mem_nil, or_false, not_or] at hb
            rw [F3 b (by simp only [List.mem_cons, List.not_mem_nil, or_false, not_or]; omega), hg2 b (by omega)]
            exact hF b (by simp only [List.mem_cons, List.not_mem_nil, or_false, not_or]; omega)
          refine b_incN (j := i) (lv' := [(0, _), (1, _), (2, _), (3, _)]) dX5_passYear_49 rfl rfl (by decide) rfl rfl ?_
          refine b_goto (tgt := 2) dX5_passYear_52 (by decide) ?_
          refine b_take 3 ?_
          exact ih (i + 1) (by omega) (by omega) g3 hF3 (by show RLf g3 a T sp (stpM T sp _ i); unfold stpM; rw [if_pos ⟨hlt, by rw [ep, nI_clamp (by omega)]; exact hdead⟩, ep, nI_clamp (by omega)]; exact hR3)
  refine b_iconst (v := 0) dX5_passYear_0 (by decide +kernel) ?_
  refine b_istore_n (lv' := [(0, _), (1, _), (2, _)]) dX5_passYear_1 rfl (by decide) rfl rfl ?_
  exact LP 0 (Nat.zero_le _) g (fun _ _ => rfl) hR
