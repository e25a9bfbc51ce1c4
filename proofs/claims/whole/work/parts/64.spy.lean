/-- all that was heard would be there in 20 years -/
def heB (T : TD) (F : FS) (sp : Int32) : Bool := !anyN (fun i => !(decide (f_g F 0 i < nI (l_n (yrsM T sp (f_S F) 20))) && l_g (yrsM T sp (f_S F) 20) 0 (f_g F 0 i).toNatClampNeg == f_g F 1 i)) (f_nh F)
def hsB (T : TD) (F : FS) (p : Nat) : Bool := heB T F (nI p)
theorem spy_low {T : TD} {x : Int32} {p q : Nat} (hp : p < 8) (hq : q < 8) (h : (!(btI x (nI q) == 0)) = lowB T (-1) q) : (!(btI (x ^^^ sbI (nI p)) (nI q) == 0)) = lowB T (nI p) q := by
  have e1 : ((-1 : Int32) == nI q) = false := beq_eq_false_iff_ne.mpr (fun z => nI_nm1 (by omega) z.symm)
  unfold lowB at *
  rw [btI_bt (by omega), Bool.not_not] at h ⊢
  rw [b_xor, bt_sb (by omega) (by omega), h, e1]
  by_cases e : q = p
  · subst e; simp
  · rw [decide_eq_false e, beq_eq_false_iff_ne.mpr (fun z => e (nI_inj (by omega) (by omega) z.symm))]; simp
theorem RLf.spy {g : G2} {a p : Nat} {T : TD} {S : LfS} (h8 : t_n T ≤ 8) (hp : p < t_n T) (hR : RLf g a T (-1) S) : RLf (up2 g a 9 (g a 9 ^^^ sbI (nI p))) a T (nI p) S := by
  obtain ⟨b1, b2, b3, b4, b5, b6, b7, b8, b9, b10, b11, b12, b13, b14, b15⟩ := hR
  refine ⟨by rw [up2_k _ _ _ _ (by decide)]; exact b1, b2, by rw [up2_f _ _ _ _ (by omega)]; exact b3, by rw [up2_f _ _ _ _ (by omega)]; exact b4, by rw [up2_f _ _ _ _ (by omega)]; exact b5, fun j hj => by rw [up2_k _ _ _ _ (by omega)]; exact b6 j hj, by rw [up2_f _ _ _ _ (by omega)]; exact b7, by rw [up2_f _ _ _ _ (by omega)]; exact b8, by rw [up2_f _ _ _ _ (by omega)]; exact b9, b10, by rw [up2_f _ _ _ _ (by omega)]; exact b11, by rw [up2_f _ _ _ _ (by omega)]; exact b12, by rw [up2_k _ _ _ _ (by decide)]; exact b13, by rw [up2_f _ _ _ _ (by omega)]; exact b14, fun q hq => ?_⟩
  rw [up2_s]; exact spy_low (by omega) (by omega) (b15 q hq)
theorem heB_eq {T : TD} {F : FS} {sp : Int32} {k pl : Nat} {f : Nat → Int32} (oF : okF T F) (h4 : l_n (yrsM T sp (f_S F) 20) ≤ 400) (hk : k ≤ 20) (hor : k = 20 ∨ pl < l_n (yrsM T sp (f_S F) k)) (hb : ∀ i, i < f_nh F → ∃ p, p ≤ pl ∧ f_g F 0 i = nI p) (hp : pl < 400) (hf : ∀ i, i < l_n (yrsM T sp (f_S F) k) → f i = l_g (yrsM T sp (f_S F) k) 0 i) :
    (!anyN (fun i => !(decide (f_g F 0 i < nI (l_n (yrsM T sp (f_S F) k))) && f (f_g F 0 i).toNatClampNeg == f_g F 1 i)) (f_nh F)) = heB T F sp := by
  have hm := yrsM_mono T sp (f_S F) hk
  unfold heB
  rw [anyN_cg (fun i hi => ?_)]
  obtain ⟨p, hpp, e⟩ := hb i hi
  rw [e, nI_cl (by omega)]
  by_cases q : p < l_n (yrsM T sp (f_S F) k)
  · have q2 : p < l_n (yrsM T sp (f_S F) 20) := Nat.lt_of_lt_of_le q hm.1
    have := hm.1
    rw [decide_eq_true (nI_lt q (by omega)), decide_eq_true (nI_lt q2 (by omega)), hf p q, hm.2 0 (by decide) p q]
  · have k9 : k = 20 := by omega
    subst k9
    rw [decide_eq_false (nI_nlt (by omega) (by omega))]; rfl
theorem mxN_ok {f : Nat → Int32} {z : Nat} (hz : z < 400) : ∀ n, (∀ i, i < n → ∃ p, p < 400 ∧ f i = nI p) → ∃ pl, pl < 400 ∧ z ≤ pl ∧ (if nI z < mxN f (-1) n then mxN f (-1) n else nI z) = nI pl ∧ (mxN f (-1) n = -1 ∨ ∃ q, q < 400 ∧ mxN f (-1) n = nI q) ∧ ∀ i, i < n → ∃ p, p ≤ pl ∧ f i = nI p := by
  intro n
  induction n with
  | zero => exact fun _ => ⟨z, hz, Nat.le_refl _, by rw [if_neg (fun q => ?_)]; rw [mxN] at q; exact absurd (Int32.lt_trans q (by decide)) (nI_pos (n := z) (by omega)), Or.inl rfl, fun i hi => absurd hi (by omega)⟩
  | succ n ih =>
    intro h
    obtain ⟨pl, h1, h2, h3, h4, h5⟩ := ih (fun i hi => h i (by omega))
    obtain ⟨p, p1, p2⟩ := h n (by omega)
    have e : mxN f (-1) (n + 1) = if mxN f (-1) n < nI p then nI p else mxN f (-1) n := by rw [← p2]; rfl
    rcases h4 with h4 | ⟨q, q1, q2⟩
    · rw [e, h4, if_pos (show (-1 : Int32) < nI p from Int32.lt_of_lt_of_le (show (-1 : Int32) < 0 from by decide) (nI_pos' (by omega))), mxN2 (by omega) (by omega)]
      rw [h4, if_neg (fun q => absurd (Int32.lt_trans q (show (-1 : Int32) < 0 from by decide)) (nI_pos (n := z) (by omega)))] at h3
      have e3 : z = pl := nI_inj (by omega) (by omega) h3
      refine ⟨if z < p then p else z, by split <;> omega, by split <;> omega, rfl, Or.inr ⟨p, p1, rfl⟩, fun i hi => ?_⟩
      by_cases ei : i = n
      · subst ei; exact ⟨p, by split <;> omega, p2⟩
      · obtain ⟨r, r1, r2⟩ := h5 i (by omega)
        exact ⟨r, by split <;> omega, r2⟩
    · rw [q2, mxN2 (by omega) (by omega)] at h3
      have e3 : (if z < q then q else z) = pl := nI_inj (by split <;> omega) (by omega) h3
      rw [e, q2, mxN2 (by omega) (by omega), mxN2 (by omega) (by split <;> omega)]
      refine ⟨if z < (if q < p then p else q) then (if q < p then p else q) else z, by split <;> split <;> omega, by split <;> split <;> omega, rfl, Or.inr ⟨if q < p then p else q, by split <;> omega, rfl⟩, fun i hi => ?_⟩
      by_cases ei : i = n
      · subst ei; exact ⟨p, by split <;> split <;> omega, p2⟩
      · obtain ⟨r, r1, r2⟩ := h5 i (by omega)
        refine ⟨r, ?_, r2⟩
        by_cases c1 : q < p
        · rw [if_pos c1]; split at e3 <;> split <;> omega
        · rw [if_neg c1]; split at e3 <;> split <;> omega
theorem RCh.fu {t : Nat} {g h : G2} {F : FS} (ht : is_town t) (f : FU t g h) (hh : RCh g 65 F) : RCh h 65 F := hh.cg (f _ (by decide) (by unfold is_town at ht; omega)) (f _ (by decide) (by unfold is_town at ht; omega)) (f _ (by decide) (by unfold is_town at ht; omega))
theorem mxN_cg {f f2 : Nat → Int32} {z : Int32} : ∀ {n : Nat}, (∀ i, i < n → f i = f2 i) → mxN f z n = mxN f2 z n
  | 0, _ => rfl
  | n + 1, h => by rw [mxN, mxN, mxN_cg (fun i hi => h i (by omega)), h n (by omega)]
theorem c_X11_wouldBe0 {E : En} {d : Nat} {Q : QT} {X : XT} {g : G2} {t : Nat} (ht : is_town t) (h0 : g 0 2 = nI t) {T : TD} {F : FS} {z : Nat} (hR : RLf g 31 T (-1) (f_S F)) (hH : RCh g 65 F) (hT : RTn g t T) (oT : okT T) (oF : okF T F) (tu : TU g (f_S F)) (hz : z < 400) (hq : ∀ h k, FU t g h → RLf h 41 T (-1) (yrsM T (-1) (f_S F) k) → k ≤ 20 → (k = 20 ∨ z < l_n (yrsM T (-1) (f_S F) k)) → Q (some (.int (b2i (heB T F (-1))))) h) : M E md_X11_wouldBeHeard (d + 6) [.ref 0, .int (-1), .int (nI z)] g Q X := by
  refine M.of _ rfl rfl (Nat.le_of_ble_eq_true rfl) ?_
  have ht5 : t = 5 ∨ t = 18 := ht
  have h8 := hT.le
  obtain ⟨pl, p1, p2, hpl, p4, p5⟩ := mxN_ok (f := f_g F 0) hz (f_nh F) oF.2.2.2.2
  have emx : mxN (g 66) (-1) (f_nh F) = mxN (f_g F 0) (-1) (f_nh F) := mxN_cg hH.2.1
  have hpl : (if nI z < mxN (g 66) (-1) (f_nh F) then mxN (g 66) (-1) (f_nh F) else nI z) = nI pl := by rw [emx]; exact hpl
  refine b_aload_n dX11_wouldBeHeard_0 rfl rfl ?_
  refine b_getR (b := 41) lf_X11_62 rfl rfl dX11_wouldBeHeard_1 ?_
  refine b_aload_n dX11_wouldBeHeard_4 rfl rfl ?_
  refine b_getR (b := 31) lf_X11_33 rfl rfl dX11_wouldBeHeard_5 ?_
  refine b_callV (As := [_]) (st := []) dX11_wouldBeHeard_8 lk_X11_309 lm_X5_copyRest lv_X5_copyRest (life_c is_life41) (by decide) rfl rfl rfl (Nat.le_of_ble_eq_true rfl) (Nat.le_refl _) (by decide) ?_
  refine c_X5_copyRest (T := T) (sp := -1) (S := f_S F) is_life41 is_life31 (by decide) hT.le hR tu.1 tu.2.1 tu.2.2 (fun h2 F2 hR2 => ?_)
  have U2 : FU t g h2 := FU.cr F2
  refine b_aload_n dX11_wouldBeHeard_11 rfl rfl ?_
  refine b_iload_n dX11_wouldBeHeard_12 rfl rfl ?_
  refine b_callV (As := [_]) (st := []) dX11_wouldBeHeard_13 lk_X11_190 lm_X11_isPerson lv_X11_isPerson rfl (by decide) rfl rfl rfl (Nat.le_of_ble_eq_true rfl) (Nat.le_refl _) (by decide) ?_
  refine c_X11_isPerson ht (by rw [U2 0 (by decide) (by omega)]; exact h0) (U2.tn ht hT).n hT.le ?_
  refine b_if_eq (tgt := 34) dX11_wouldBeHeard_16 (by decide) (fun h16 => ?_) (fun h16 => ?_)
  · have e16 := b2i_0 h16
    have hR3 := hR2
    have U3 := U2
    refine b_aload_n dX11_wouldBeHeard_34 rfl rfl ?_
    refine b_getR (b := 41) lf_X11_62 rfl rfl dX11_wouldBeHeard_35 ?_
    refine b_aload_n dX11_wouldBeHeard_38 rfl rfl ?_
    refine b_getD lf_X11_26 rfl (by rw [U3 0 (by decide) (by omega)]; exact h0) (town_31 ht) dX11_wouldBeHeard_39 ?_
    refine b_iload_n dX11_wouldBeHeard_42 rfl rfl ?_
    refine b_aload_n dX11_wouldBeHeard_43 rfl rfl ?_
    refine b_getR (b := 65) lf_X11_47 rfl rfl dX11_wouldBeHeard_44 ?_
    refine b_callV (As := []) (st := [_, _, _]) dX11_wouldBeHeard_47 lk_X11_345 lm_X3_furthest lv_X3_furthest (heard_c is_heard65) (by decide) rfl rfl rfl (Nat.le_of_ble_eq_true rfl) (Nat.le_refl _) (by decide) ?_
    refine c_X3_furthest is_heard65 (hH.fu ht U3).1 oF.2.1 ?_
    refine b_max dX11_wouldBeHeard_50 lc_X11_279 (by omega) (Nat.le_of_ble_eq_true rfl) (by decide) ?_
    refine b_topE (y := nI pl) (by rw [U3 66 (by decide) (by omega)]; exact hpl) ?_
    refine b_callV (As := [_, _]) (st := []) dX11_wouldBeHeard_53 lk_X11_312 lm_X5_passYearsTo lv_X5_passYearsTo (life_c is_life41) (by decide) rfl rfl rfl (Nat.le_of_ble_eq_true rfl) (Nat.le_refl _) (by decide) ?_
    refine c_X5_passYearsTo is_life41 ht hR3 (U3.tn ht hT) (wfT_of oT) p1 (fun h4 k F4 hR4 k1 k2 k3 => ?_)
    have U4 := U3.tr (FU.py F4)
    have hH4 := hH.fu ht U4
    refine b_aload_n dX11_wouldBeHeard_56 rfl rfl ?_
    refine b_getR (b := 65) lf_X11_47 rfl rfl dX11_wouldBeHeard_57 ?_
    refine b_aload_n dX11_wouldBeHeard_60 rfl rfl ?_
    refine b_getR (b := 41) lf_X11_62 rfl rfl dX11_wouldBeHeard_61 ?_
    refine b_callV (As := [_]) (st := []) dX11_wouldBeHeard_64 lk_X11_348 lm_X3_allIn lv_X3_allIn (heard_c is_heard65) (by decide) rfl rfl rfl (Nat.le_of_ble_eq_true rfl) (Nat.le_refl _) (by decide) ?_
    refine c_X3_allIn (n := f_nh F) (t := l_n (yrsM T (-1) (f_S F) k)) is_heard65 is_life41 hH4.1 oF.2.1 hR4.n hR4.le (fun i hi => ?_) ?_
    · obtain ⟨p, p1, p2⟩ := oF.2.2.2.2 i hi
      rw [hH4.2.1 i hi, p2, nI_toInt (by omega)]; omega
    have ev : (!anyN (fun i => !(decide (h4 (65 + 1) i < nI (l_n (yrsM T (-1) (f_S F) k))) && h4 (41 + 1) (h4 (65 + 1) i).toNatClampNeg == h4 (65 + 2) i)) (f_nh F)) = heB T F (-1) := by
      rw [← heB_eq oF ((oF.S.1.yrs oT 20).1) k1 k2 p5 p1 (fun i hi => hR4.sg i hi)]
      rw [anyN_cg (fun i hi => by rw [hH4.2.1 i hi, hH4.2.2 i hi])]
    rw [ev]
    refine b_zret (b2i_01 _) rfl (by decide) dX11_wouldBeHeard_67 ?_
    exact hq h4 k U4 hR4 k1 (k2.imp id (fun q => Nat.lt_of_le_of_lt p2 q))
  · have e16 := b2i_1 h16
    exact absurd e16 (by rw [in_lt (by decide)]; decide)
theorem c_X11_wouldBe1 {E : En} {d : Nat} {Q : QT} {X : XT} {g : G2} {t : Nat} (ht : is_town t) (h0 : g 0 2 = nI t) {T : TD} {F : FS} {z : Nat} (hR : RLf g 31 T (-1) (f_S F)) (hH : RCh g 65 F) (hT : RTn g t T) (oT : okT T) (oF : okF T F) (tu : TU g (f_S F)) (hz : z < 400) {p : Nat} (hp : p < t_n T) (hq : ∀ h k, FU t g h → RLf h 41 T (nI p) (yrsM T (nI p) (f_S F) k) → k ≤ 20 → (k = 20 ∨ z < l_n (yrsM T (nI p) (f_S F) k)) → Q (some (.int (b2i (heB T F (nI p))))) h) : M E md_X11_wouldBeHeard (d + 6) [.ref 0, .int (nI p), .int (nI z)] g Q X := by
  refine M.of _ rfl rfl (Nat.le_of_ble_eq_true rfl) ?_
  have ht5 : t = 5 ∨ t = 18 := ht
  have h8 := hT.le
  obtain ⟨pl, p1, p2, hpl, p4, p5⟩ := mxN_ok (f := f_g F 0) hz (f_nh F) oF.2.2.2.2
  have emx : mxN (g 66) (-1) (f_nh F) = mxN (f_g F 0) (-1) (f_nh F) := mxN_cg hH.2.1
  have hpl : (if nI z < mxN (g 66) (-1) (f_nh F) then mxN (g 66) (-1) (f_nh F) else nI z) = nI pl := by rw [emx]; exact hpl
  refine b_aload_n dX11_wouldBeHeard_0 rfl rfl ?_
  refine b_getR (b := 41) lf_X11_62 rfl rfl dX11_wouldBeHeard_1 ?_
  refine b_aload_n dX11_wouldBeHeard_4 rfl rfl ?_
  refine b_getR (b := 31) lf_X11_33 rfl rfl dX11_wouldBeHeard_5 ?_
  refine b_callV (As := [_]) (st := []) dX11_wouldBeHeard_8 lk_X11_309 lm_X5_copyRest lv_X5_copyRest (life_c is_life41) (by decide) rfl rfl rfl (Nat.le_of_ble_eq_true rfl) (Nat.le_refl _) (by decide) ?_
  refine c_X5_copyRest (T := T) (sp := -1) (S := f_S F) is_life41 is_life31 (by decide) hT.le hR tu.1 tu.2.1 tu.2.2 (fun h2 F2 hR2 => ?_)
  have U2 : FU t g h2 := FU.cr F2
  refine b_aload_n dX11_wouldBeHeard_11 rfl rfl ?_
  refine b_iload_n dX11_wouldBeHeard_12 rfl rfl ?_
  refine b_callV (As := [_]) (st := []) dX11_wouldBeHeard_13 lk_X11_190 lm_X11_isPerson lv_X11_isPerson rfl (by decide) rfl rfl rfl (Nat.le_of_ble_eq_true rfl) (Nat.le_refl _) (by decide) ?_
  refine c_X11_isPerson ht (by rw [U2 0 (by decide) (by omega)]; exact h0) (U2.tn ht hT).n hT.le ?_
  rw [in_nI hp (by omega)]
  refine b_if_eq (tgt := 34) dX11_wouldBeHeard_16 (by decide) (fun h16 => ?_) (fun h16 => ?_)
  · have e16 := b2i_0 h16
    exact absurd e16 (by decide)
  · have e16 := b2i_1 h16
    refine b_aload_n dX11_wouldBeHeard_19 rfl rfl ?_
    refine b_getR (b := 41) lf_X11_62 rfl rfl dX11_wouldBeHeard_20 ?_
    refine b_dup dX11_wouldBeHeard_23 rfl ?_
    refine b_getI lf_X11_342 (life_c is_life41) dX11_wouldBeHeard_24 ?_
    refine b_iconst (v := 1) dX11_wouldBeHeard_27 (by decide +kernel) ?_
    refine b_iload_n dX11_wouldBeHeard_28 rfl rfl ?_
    refine b_ishl dX11_wouldBeHeard_29 ?_
    refine b_ixor dX11_wouldBeHeard_30 ?_
    refine b_putI lf_X11_342 lp_5_9 (life_c is_life41) dX11_wouldBeHeard_31 ?_
    have hR3 : RLf (up2 h2 41 9 (h2 41 9 ^^^ sbI (nI p))) 41 T (nI p) (f_S F) := hR2.spy h8 hp
    have U3 : FU t g (up2 h2 41 9 (h2 41 9 ^^^ sbI (nI p))) := U2.tr (fun y y1 _ => up2_f _ _ _ _ (by omega))
    rw [show (1 : Int32) <<< (nI p &&& 31) = sbI (nI p) from rfl]
    generalize up2 h2 41 9 (h2 41 9 ^^^ sbI (nI p)) = h3 at hR3 U3 ⊢
    refine b_aload_n dX11_wouldBeHeard_34 rfl rfl ?_
    refine b_getR (b := 41) lf_X11_62 rfl rfl dX11_wouldBeHeard_35 ?_
    refine b_aload_n dX11_wouldBeHeard_38 rfl rfl ?_
    refine b_getD lf_X11_26 rfl (by rw [U3 0 (by decide) (by omega)]; exact h0) (town_31 ht) dX11_wouldBeHeard_39 ?_
    refine b_iload_n dX11_wouldBeHeard_42 rfl rfl ?_
    refine b_aload_n dX11_wouldBeHeard_43 rfl rfl ?_
    refine b_getR (b := 65) lf_X11_47 rfl rfl dX11_wouldBeHeard_44 ?_
    refine b_callV (As := []) (st := [_, _, _]) dX11_wouldBeHeard_47 lk_X11_345 lm_X3_furthest lv_X3_furthest (heard_c is_heard65) (by decide) rfl rfl rfl (Nat.le_of_ble_eq_true rfl) (Nat.le_refl _) (by decide) ?_
    refine c_X3_furthest is_heard65 (hH.fu ht U3).1 oF.2.1 ?_
    refine b_max dX11_wouldBeHeard_50 lc_X11_279 (by omega) (Nat.le_of_ble_eq_true rfl) (by decide) ?_
    refine b_topE (y := nI pl) (by rw [U3 66 (by decide) (by omega)]; exact hpl) ?_
    refine b_callV (As := [_, _]) (st := []) dX11_wouldBeHeard_53 lk_X11_312 lm_X5_passYearsTo lv_X5_passYearsTo (life_c is_life41) (by decide) rfl rfl rfl (Nat.le_of_ble_eq_true rfl) (Nat.le_refl _) (by decide) ?_
    refine c_X5_passYearsTo is_life41 ht hR3 (U3.tn ht hT) (wfT_of oT) p1 (fun h4 k F4 hR4 k1 k2 k3 => ?_)
    have U4 := U3.tr (FU.py F4)
    have hH4 := hH.fu ht U4
    refine b_aload_n dX11_wouldBeHeard_56 rfl rfl ?_
    refine b_getR (b := 65) lf_X11_47 rfl rfl dX11_wouldBeHeard_57 ?_
    refine b_aload_n dX11_wouldBeHeard_60 rfl rfl ?_
    refine b_getR (b := 41) lf_X11_62 rfl rfl dX11_wouldBeHeard_61 ?_
    refine b_callV (As := [_]) (st := []) dX11_wouldBeHeard_64 lk_X11_348 lm_X3_allIn lv_X3_allIn (heard_c is_heard65) (by decide) rfl rfl rfl (Nat.le_of_ble_eq_true rfl) (Nat.le_refl _) (by decide) ?_
    refine c_X3_allIn (n := f_nh F) (t := l_n (yrsM T (nI p) (f_S F) k)) is_heard65 is_life41 hH4.1 oF.2.1 hR4.n hR4.le (fun i hi => ?_) ?_
    · obtain ⟨p9, p91, p92⟩ := oF.2.2.2.2 i hi
      rw [hH4.2.1 i hi, p92, nI_toInt (by omega)]; omega
    have ev : (!anyN (fun i => !(decide (h4 (65 + 1) i < nI (l_n (yrsM T (nI p) (f_S F) k))) && h4 (41 + 1) (h4 (65 + 1) i).toNatClampNeg == h4 (65 + 2) i)) (f_nh F)) = heB T F (nI p) := by
      rw [← heB_eq oF ((oF.S.1.yrs oT 20).1) k1 k2 p5 p1 (fun i hi => hR4.sg i hi)]
      rw [anyN_cg (fun i hi => by rw [hH4.2.1 i hi, hH4.2.2 i hi])]
    rw [ev]
    refine b_zret (b2i_01 _) rfl (by decide) dX11_wouldBeHeard_67 ?_
    exact hq h4 k U4 hR4 k1 (k2.imp id (fun q => Nat.lt_of_le_of_lt p2 q))
def spyM (T : TD) (F : FS) (w : Int32) : Nat × Int32 := if inB w.toInt 0 2 then (0, if w = 2 then b2i (heB T F (-1)) else if w = 0 then nI (cntN (hsB T F) (t_n T)) else fndF (hsB T F) (t_n T) 0) else (1, 0)
theorem spyM_1 {T : TD} {F : FS} {w : Int32} (h : inB w.toInt 0 2 = false) : spyM T F w = (1, 0) := by unfold spyM; rw [h]; rfl
theorem spyM_0 {T : TD} {F : FS} {w : Int32} (h : inB w.toInt 0 2 = true) : spyM T F w = (0, if w = 2 then b2i (heB T F (-1)) else if w = 0 then nI (cntN (hsB T F) (t_n T)) else fndF (hsB T F) (t_n T) 0) := by unfold spyM; rw [h]; rfl
theorem cntF_0 (P : Nat → Bool) (n : Nat) : cntF P n 0 = cntN P n := by have := cntF_cntN (P := P) n 0; rw [Nat.zero_add, cntN, Nat.zero_add] at this; exact this.symm
theorem c_X11_spy {E : En} {d : Nat} {Q : QT} {X : XT} {g : G2} {t : Nat} (ht : is_town t) (h0 : g 0 2 = nI t) {T : TD} {F : FS} {w : Int32} (hR : RLf g 31 T (-1) (f_S F)) (hH : RCh g 65 F) (hT : RTn g t T) (oT : okT T) (oF : okF T F) (hq : ∀ h, FC g h → (spyM T F w).1 = 0 → Q (some (.int (spyM T F w).2)) h) (hx : ∀ h, FC g h → (spyM T F w).1 = 1 → X nsN h) : M E md_X11_spy (d + 7) [.ref 0, .int w] g Q X := by
  refine M.of _ rfl rfl (Nat.le_of_ble_eq_true rfl) ?_
  have ht5 : t = 5 ∨ t = 18 := ht
  have h8 := hT.le
  refine b_iload_n dX11_spy_0 rfl rfl ?_
  refine b_iconst (v := 2) dX11_spy_1 (by decide +kernel) ?_
  refine b_callS (As := [_, _]) (st := []) dX11_spy_2 lk_X11_198 lm_X11_needWhat ls_X11_needWhat rfl rfl (Nat.le_of_ble_eq_true rfl) (Nat.le_refl _) (by decide) ?_
  refine c_X11_needWhat (fun hw => ?_) (fun hw => hx g (FC.rf g) (by rw [spyM_1 hw]))
  rw [spyM_0 hw] at hq
  have LP : ¬ w = 2 → ∀ j, j ≤ t_n T → ∀ h, FU t g h → TU h (f_S F) → B E md_X11_spy (d + 7) Q X 51 [(0, .ref 0), (1, .int w), (2, .int (nI (cntF (hsB T F) (t_n T - j) j))), (3, .int (fndF (hsB T F) (t_n T - j) j)), (4, .int (bgI j))] [] h 1 := by
    intro hw2
    refine lp_dn (fun j ih hj h U tu => ?_)
    cases j with
    | zero =>
      show B E md_X11_spy (d + 7) Q X 51 [(0, .ref 0), (1, .int w), (2, .int (nI (cntF (hsB T F) (t_n T - 0) 0))), (3, .int (fndF (hsB T F) (t_n T - 0) 0)), (4, .int (-1))] [] h 1
      refine b_iload dX11_spy_51 rfl ?_
      refine b_if_lt (tgt := 78) dX11_spy_53 (by decide) (fun h53 => ?_) (fun h53 => ?_)
      · refine b_iload_n dX11_spy_78 rfl rfl ?_
        refine b_if_ne (tgt := 86) dX11_spy_79 (by decide) (fun h79 => ?_) (fun h79 => ?_)
        · refine b_iload_n dX11_spy_86 rfl rfl ?_
          refine b_iret rfl (by decide) dX11_spy_87 ?_
          have hq := hq h (U.fc ht) rfl
          rw [if_neg hw2, if_neg h79] at hq
          exact hq
        · refine b_iload_n dX11_spy_82 rfl rfl ?_
          refine b_goto (tgt := 87) dX11_spy_83 (by decide) ?_
          refine b_iret rfl (by decide) dX11_spy_87 ?_
          have hq := hq h (U.fc ht) rfl
          rw [if_neg hw2, if_pos h79, ← cntF_0] at hq
          exact hq
      · exact absurd (show (-1 : Int32) < 0 from by decide +kernel) h53
    | succ j =>
      show B E md_X11_spy (d + 7) Q X 51 [(0, .ref 0), (1, .int w), (2, .int (nI (cntF (hsB T F) (t_n T - (j + 1)) (j + 1)))), (3, .int (fndF (hsB T F) (t_n T - (j + 1)) (j + 1))), (4, .int (nI j))] [] h 1
      refine b_iload dX11_spy_51 rfl ?_
      refine b_if_lt (tgt := 78) dX11_spy_53 (by decide) (fun h53 => ?_) (fun h53 => ?_)
      · exact absurd h53 (nI_pos (by omega))
      · refine b_aload_n dX11_spy_56 rfl rfl ?_
        refine b_iload dX11_spy_57 rfl ?_
        refine b_iconst (v := 0) dX11_spy_59 (by decide +kernel) ?_
        refine b_callV (As := [_, _]) (st := []) dX11_spy_60 lk_X11_339 lm_X11_wouldBeHeard lv_X11_wouldBeHeard rfl (by decide) rfl rfl rfl (Nat.le_of_ble_eq_true rfl) (Nat.le_refl _) (by decide) ?_
        refine c_X11_wouldBe1 (z := 0) ht (by rw [U 0 (by decide) (by omega)]; exact h0) (U.lf ht hR) (hH.fu ht U) (U.tn ht hT) oT oF tu (by decide) (by omega) (fun h3 k U3 hR3 _ _ => ?_)
        refine b_if_eq (tgt := 72) dX11_spy_63 (by decide) (fun h63 => ?_) (fun h63 => ?_)
        · have e63 := b2i_0 h63
          refine b_iinc (v := bgI j) (lv' := [(0, _), (1, _), (2, _), (3, _), (4, _)]) dX11_spy_72 rfl (bgI_dec _) (by decide) rfl rfl ?_
          refine b_goto (tgt := 51) dX11_spy_75 (by decide) ?_
          have z := ih j (by omega) (by omega) h3 (U.tr U3) (hR3.tu (yrsM_pre T (nI j) (f_S F) k))
          rw [show t_n T - j = (t_n T - (j + 1)) + 1 by omega, cntF, fndF, if_neg (by unfold hsB; rw [e63]; decide), if_neg (by unfold hsB; rw [e63]; decide)] at z
          rw [Nat.zero_add] at z
          exact z
        · have e63 := b2i_1 h63
          refine b_incN (j := (cntF (hsB T F) (t_n T - (j + 1)) (j + 1))) (lv' := [(0, _), (1, _), (2, _), (3, _), (4, _)]) dX11_spy_66 rfl rfl (by decide) rfl rfl ?_
          refine b_iload dX11_spy_69 rfl ?_
          refine b_istore_n (lv' := [(0, _), (1, _), (2, _), (3, _), (4, _)]) dX11_spy_71 rfl (by decide) rfl rfl ?_
          refine b_iinc (v := bgI j) (lv' := [(0, _), (1, _), (2, _), (3, _), (4, _)]) dX11_spy_72 rfl (bgI_dec _) (by decide) rfl rfl ?_
          refine b_goto (tgt := 51) dX11_spy_75 (by decide) ?_
          have z := ih j (by omega) (by omega) h3 (U.tr U3) (hR3.tu (yrsM_pre T (nI j) (f_S F) k))
          rw [show t_n T - j = (t_n T - (j + 1)) + 1 by omega, cntF, fndF, if_pos (show hsB T F j = true from e63), if_pos (show hsB T F j = true from e63)] at z
          rw [Nat.add_comm 1] at z
          exact z
  refine b_aload_n dX11_spy_5 rfl rfl ?_
  refine b_getR (b := 41) lf_X11_62 rfl rfl dX11_spy_6 ?_
  refine b_aload_n dX11_spy_9 rfl rfl ?_
  refine b_getR (b := 31) lf_X11_33 rfl rfl dX11_spy_10 ?_
  refine b_callV (As := [_]) (st := []) dX11_spy_13 lk_X11_305 lm_X5_copyTune lv_X5_copyTune (life_c is_life41) (by decide) rfl rfl rfl (Nat.le_of_ble_eq_true rfl) (Nat.le_refl _) (by decide) ?_
  refine c_X5_copyTune is_life41 is_life31 (by decide) hR.n hR.le (fun h1 F1 t1 t2 t3 => ?_)
  have U1 : FU t g h1 := FU.ct F1
  have tu := TU.ct hR t1 t2 t3
  refine b_iload_n dX11_spy_16 rfl rfl ?_
  refine b_iconst (v := 2) dX11_spy_17 (by decide +kernel) ?_
  refine b_icmp_ne (tgt := 36) dX11_spy_18 (by decide) (fun h18 => ?_) (fun h18 => ?_)
  · refine b_iconst (v := 0) dX11_spy_36 (by decide +kernel) ?_
    refine b_istore_n (lv' := [(0, _), (1, _), (2, _)]) dX11_spy_37 rfl (by decide) rfl rfl ?_
    refine b_iconst (v := (-1)) dX11_spy_38 (by decide +kernel) ?_
    refine b_istore_n (lv' := [(0, _), (1, _), (2, _), (3, _)]) dX11_spy_39 rfl (by decide) rfl rfl ?_
    refine b_aload_n dX11_spy_40 rfl rfl ?_
    refine b_getD lf_X11_26 rfl (by rw [U1 0 (by decide) (by omega)]; exact h0) (town_31 ht) dX11_spy_41 ?_
    refine b_getI lf_X11_124 (town_c ht) dX11_spy_44 ?_
    refine b_topE (y := nI (t_n T)) ((U1.tn ht hT).n) ?_
    refine b_iconst (v := 1) dX11_spy_47 (by decide +kernel) ?_
    refine b_isub dX11_spy_48 ?_
    refine b_istore (lv' := [(0, _), (1, _), (2, _), (3, _), (4, _)]) dX11_spy_49 (by decide) rfl rfl ?_
    rw [bgI_sub]
    have z := LP h18 (t_n T) (Nat.le_refl _) h1 U1 tu
    rw [Nat.sub_self, cntF, fndF] at z
    exact z
  · refine b_aload_n dX11_spy_21 rfl rfl ?_
    refine b_iconst (v := (-1)) dX11_spy_22 (by decide +kernel) ?_
    refine b_iconst (v := 0) dX11_spy_23 (by decide +kernel) ?_
    refine b_callV (As := [_, _]) (st := []) dX11_spy_24 lk_X11_339 lm_X11_wouldBeHeard lv_X11_wouldBeHeard rfl (by decide) rfl rfl rfl (Nat.le_of_ble_eq_true rfl) (Nat.le_refl _) (by decide) ?_
    refine c_X11_wouldBe0 (z := 0) ht (by rw [U1 0 (by decide) (by omega)]; exact h0) (U1.lf ht hR) (hH.fu ht U1) (U1.tn ht hT) oT oF tu (by decide) (fun h3 k U3 hR3 _ _ => ?_)
    refine b_if_eq (tgt := 34) dX11_spy_27 (by decide) (fun h27 => ?_) (fun h27 => ?_)
    · have e27 := b2i_0 h27
      refine b_iconst (v := 0) dX11_spy_34 (by decide +kernel) ?_
      refine b_iret rfl (by decide) dX11_spy_35 ?_
      have hq := hq h3 ((U1.tr U3).fc ht) rfl
      rw [if_pos h18, e27] at hq
      exact hq
    · have e27 := b2i_1 h27
      refine b_iconst (v := 1) dX11_spy_30 (by decide +kernel) ?_
      refine b_goto (tgt := 35) dX11_spy_31 (by decide) ?_
      refine b_iret rfl (by decide) dX11_spy_35 ?_
      have hq := hq h3 ((U1.tr U3).fc ht) rfl
      rw [if_pos h18, e27] at hq
      exact hq
