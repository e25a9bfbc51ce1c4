/-! UNDONE ACTS: two lives that are alike; what an act's record does to a life -/
def eqS (T : TD) (S R : LfS) : Prop := l_n S = l_n R ∧ l_fn S = l_fn R ∧ (∀ c, c < 3 → ∀ i, i < l_n S → l_g S c i = l_g R c i) ∧ (∀ j, j < 5 → l_g S 3 j = l_g R 3 j) ∧ (∀ p, p < t_n T → l_g S 4 p = l_g R 4 p ∧ l_g S 5 p = l_g R 5 p) ∧ (∀ i, i < l_fn S → l_g S 6 i = l_g R 6 i ∧ l_g S 7 i = l_g R 7 i)
theorem eqS.rf {T : TD} (S : LfS) : eqS T S S := ⟨rfl, rfl, fun _ _ _ _ => rfl, fun _ _ => rfl, fun _ _ => ⟨rfl, rfl⟩, fun _ _ => ⟨rfl, rfl⟩⟩
theorem eqS.sy {T : TD} {S R : LfS} (h : eqS T S R) : eqS T R S := by
  obtain ⟨a1, a2, a3, a4, a5, a6⟩ := h
  exact ⟨a1.symm, a2.symm, fun c hc i hi => (a3 c hc i (by omega)).symm, fun j hj => (a4 j hj).symm, fun p hp => ⟨(a5 p hp).1.symm, (a5 p hp).2.symm⟩, fun i hi => ⟨(a6 i (by omega)).1.symm, (a6 i (by omega)).2.symm⟩⟩
theorem RLf.eqv {g : G2} {a : Nat} {T : TD} {sp : Int32} {S R : LfS} (hR : RLf g a T sp S) (h : eqS T S R) : RLf g a T sp R := by
  obtain ⟨a1, a2, a3, a4, a5, a6⟩ := h
  refine ⟨by rw [← a1]; exact hR.n, by rw [← a1]; exact hR.le, fun i hi => ?_, fun i hi => ?_, fun i hi => ?_, fun j hj => ?_, fun p hp => ?_, fun p hp => ?_, by rw [← a2]; exact hR.fn, by rw [← a2]; exact hR.f6, fun i hi => ?_, fun i hi => ?_, ?_, fun p hp => ?_, hR.low⟩
  · rw [hR.sg i (by omega)]; exact a3 0 (by decide) i (by omega)
  · rw [hR.wh i (by omega)]; exact a3 1 (by decide) i (by omega)
  · rw [hR.yi i (by omega)]; exact a3 2 (by decide) i (by omega)
  · rw [hR.fld j hj]; exact a4 j hj
  · rw [hR.ho p hp]; exact (a5 p hp).1
  · rw [hR.ba p hp]; exact (a5 p hp).2
  · rw [hR.fa i (by omega)]; exact (a6 i (by omega)).1
  · rw [hR.fb i (by omega)]; exact (a6 i (by omega)).2
  · rw [hR.las, ← a1]; exact (lasC_cg (fun i hi => (a3 0 (by decide) i hi).symm)).symm
  · rw [hR.sun p hp]; unfold sunM; rw [← a1, cntN_cg (fun i hi => by rw [a3 1 (by decide) i hi])]
def unM (r : Nat → Int32) (S : LfS) : LfS :=
  if r 0 = 0 then ((r 1).toNatClampNeg, l_fn S, up2 (l_g S) 3 0 (r 2)) else if r 0 = 1 then (l_n S, l_fn S, up2 (l_g S) 3 2 (l_g S 3 2 ^^^ sbI (r 1))) else if r 0 = 2 then (l_n S, l_fn S, up2 (l_g S) 3 3 (l_g S 3 3 ^^^ sbI (r 1)))
  else if r 0 = 3 then (l_n S, l_fn S, up2 (up2 (up2 (l_g S) 3 1 (rmI (l_g S 3 1 + 12 - 7) 12)) 4 (r 2).toNatClampNeg (r 3)) 3 4 (l_g S 3 4 &&& ((sbI (r 1) ||| sbI (r 2)) ^^^ (-1))))
  else if r 0 = 4 then (l_n S, l_fn S - 1, l_g S) else (l_n S, l_fn S + 1, upA (upA (l_g S) 6 (insF (l_g S 6) (r 1).toNatClampNeg (l_fn S) (r 2))) 7 (insF (l_g S 7) (r 1).toNatClampNeg (l_fn S) (r 3)))
def okA (T : TD) (r : Nat → Int32) (S : LfS) : Prop :=
  (r 0 = 0 ∧ ∃ n, r 1 = nI n ∧ n ≤ l_n S) ∨ (r 0 = 1) ∨ (r 0 = 2) ∨ (r 0 = 3 ∧ ∃ p o, p < t_n T ∧ o < t_n T ∧ r 1 = nI p ∧ r 2 = nI o) ∨ (r 0 = 4 ∧ 0 < l_fn S) ∨ (r 0 = 5 ∧ ∃ k, k ≤ l_fn S ∧ l_fn S < 6 ∧ r 1 = nI k)
theorem bgI_lt {j n : Nat} (hj : j < 2 ^ 31) (hn : n < 2 ^ 31) : bgI j < nI n ↔ j ≤ n := by
  cases j with
  | zero => simp only [bgI, Nat.zero_le, iff_true]; rw [Int32.lt_iff_toInt_lt, nI_toInt hn, show (-1 : Int32).toInt = -1 from by decide]; omega
  | succ j => simp only [bgI]; rw [nI_ltI (by omega) hn]; omega
theorem bgI_sub (n : Nat) : nI n - 1 = bgI n := by
  cases n with
  | zero => decide +kernel
  | succ c => exact nI_pred c
theorem bgI_dec (j : Nat) : nI j + Int32.ofInt (-1) = bgI j := by
  cases j with
  | zero => decide +kernel
  | succ c => exact pk_m1 c
theorem nI_nm1 {s : Nat} (h : s < 2 ^ 31) : ¬ nI s = -1 := fun q => by
  have := nI_pos h
  rw [q] at this
  exact this (by decide)
theorem c_X5_cut {E : En} {d : Nat} {Q : QT} {X : XT} {g : G2} {a n : Nat} {y : Int32} {T : TD} {S : LfS} {sp : Int32} (ha : is_life a) (hT8 : t_n T ≤ 8) (hR : RLf g a T sp S) (oS : okS T S) (hn : n ≤ l_n S) (hq : ∀ h, FR [a, a + 6] g h → RLf h a T sp (n, l_fn S, up2 (l_g S) 3 0 y) → Q none h) : M E md_X5_cut d [.ref a, .int (nI n), .int y] g Q X := by
  refine M.of _ rfl rfl (Nat.le_of_ble_eq_true rfl) ?_
  have h400 := hR.le
  have DN : ∀ h, (∀ z, z ≠ a → z ≠ a + 6 → h z = g z) → (∀ i, i ≠ 3 → i ≠ 4 → i ≠ 10 → h a i = g a i) → h a 3 = nI n → h a 4 = y → (∀ p, p < t_n T → h (a + 6) p = nI (cntN (fun i => l_g S 1 i == nI p) n)) → h a 10 = lasC (l_g S 0) n → Q none h := by
    intro h hF hA h3 h4 hs hl2
    refine hq h (fun b hb => ?_) ⟨h3, by have := hR.le; show n ≤ 400; omega, fun i hi => ?_, fun i hi => ?_, fun i hi => ?_, fun j hj => ?_, fun p hp => ?_, fun p hp => ?_, ?_, hR.f6, fun i hi => ?_, fun i hi => ?_, hl2, fun p hp => ?_, fun p hp => ?_⟩
    · simp only [List.mem_cons, List.not_mem_nil, or_false, not_or] at hb; exact hF b hb.1 hb.2
    · rw [hF _ (by omega) (by omega)]; exact hR.sg i (by have hi : i < n := hi; omega)
    · rw [hF _ (by omega) (by omega)]; exact hR.wh i (by have hi : i < n := hi; omega)
    · rw [hF _ (by omega) (by omega)]; exact hR.yi i (by have hi : i < n := hi; omega)
    · by_cases e : j = 0
      · subst e; exact h4.trans (show y = up2 (l_g S) 3 0 y 3 0 from (up2_s _ _ _ _).symm)
      · rw [hA _ (by omega) (by omega) (by omega), hR.fld j hj]; exact (up2_k _ _ _ _ e).symm
    · rw [hF _ (by omega) (by omega)]; exact hR.ho p hp
    · rw [hF _ (by omega) (by omega)]; exact hR.ba p hp
    · rw [hF _ (by omega) (by omega)]; exact hR.fn
    · rw [hF _ (by omega) (by omega)]; exact hR.fa i hi
    · rw [hF _ (by omega) (by omega)]; exact hR.fb i hi
    · exact hs p hp
    · rw [hA _ (by decide) (by decide) (by decide)]; exact hR.low p hp
  have L3 : ∀ j, j ≤ n → ∀ h, (∀ z, z ≠ a → z ≠ a + 6 → h z = g z) → (∀ i, i ≠ 3 → i ≠ 4 → i ≠ 10 → h a i = g a i) → h a 3 = nI n → h a 4 = y → (∀ p, p < t_n T → h (a + 6) p = nI (cntN (fun i => l_g S 1 i == nI p) n)) → h a 10 = -1 → lasC (l_g S 0) n = lasC (l_g S 0) j → B E md_X5_cut d Q X 55 [(0, .ref a), (1, .int (nI n)), (2, .int y), (3, .int (bgI j))] [] h 0 := by
    refine lp_dn (fun j ih hj h hF hA h3 h4 hs hl hz => ?_)
    cases j with
    | zero =>
      show B E md_X5_cut d Q X 55 [(0, .ref a), (1, .int (nI n)), (2, .int y), (3, .int (-1))] [] h 0
      refine b_iload_n dX5_cut_55 rfl rfl ?_
      refine b_if_lt (tgt := 98) dX5_cut_56 (by decide) (fun h56 => ?_) (fun h56 => ?_)
      · refine b_vret rfl (by decide) dX5_cut_98 ?_
        exact DN h hF hA h3 h4 hs (hl.trans hz.symm)
      · exact absurd (show (-1 : Int32) < 0 from by decide +kernel) h56
    | succ j =>
      show B E md_X5_cut d Q X 55 [(0, .ref a), (1, .int (nI n)), (2, .int y), (3, .int (nI j))] [] h 0
      have hsj : h (a + 1) j = l_g S 0 j := by rw [hF _ (by omega) (by omega)]; exact hR.sg j (by omega)
      have hnm : ¬ l_g S 0 j = -1 := by
        obtain ⟨s, s1, s2⟩ := oS.2.1 j (by omega)
        rw [s2]; exact nI_nm1 (by omega)
      refine b_iload_n dX5_cut_55 rfl rfl ?_
      refine b_if_lt (tgt := 98) dX5_cut_56 (by decide) (fun h56 => ?_) (fun h56 => ?_)
      · exact absurd h56 (nI_pos (by omega))
      · refine b_aload_n dX5_cut_59 rfl rfl ?_
        refine b_getI lf_X5_43 (life_c ha) dX5_cut_60 ?_
        refine b_iconst (v := (-1)) dX5_cut_63 (by decide +kernel) ?_
        refine b_icmp_ne (tgt := 98) dX5_cut_64 (by decide) (fun h64 => ?_) (fun h64 => ?_)
        · exact absurd hl h64
        · refine b_aload_n dX5_cut_67 rfl rfl ?_
          refine b_aload_n dX5_cut_68 rfl rfl ?_
          refine b_getR (b := (a + 1)) lf_X5_9 (life_c ha) (life_r0 ha) dX5_cut_69 ?_
          refine b_iload_n dX5_cut_72 rfl rfl ?_
          refine b_ildN (j := j) dX5_cut_73 (rfl) (by rw [(life_n1 ha)]; omega) ?_
          refine b_bipush (v := 12) dX5_cut_74 (by decide +kernel) ?_
          refine b_icmp_ne (tgt := 83) dX5_cut_76 (by decide) (fun h76 => ?_) (fun h76 => ?_)
          · refine b_aload_n dX5_cut_83 rfl rfl ?_
            refine b_getR (b := (a + 1)) lf_X5_9 (life_c ha) (life_r0 ha) dX5_cut_84 ?_
            refine b_iload_n dX5_cut_87 rfl rfl ?_
            refine b_ildN (j := j) dX5_cut_88 (rfl) (by rw [(life_n1 ha)]; omega) ?_
            refine b_putI lf_X5_43 lp_5_10 (life_c ha) dX5_cut_89 ?_
            refine b_iinc (v := bgI j) (lv' := [(0, _), (1, _), (2, _), (3, _)]) dX5_cut_92 rfl (bgI_dec _) (by decide) rfl rfl ?_
            refine b_goto (tgt := 55) dX5_cut_95 (by decide) ?_
            refine b_iload_n dX5_cut_55 rfl rfl ?_
            refine b_if_lt (tgt := 98) dX5_cut_56 (by decide) (fun _ => ?_) (fun _ => ?_)
            · refine b_vret rfl (by decide) dX5_cut_98 ?_
              exact DN _ (fun z z1 z2 => by rw [up2_f _ _ _ _ z1]; exact hF z z1 z2) (fun i i1 i2 i3 => by rw [up2_k _ _ _ _ i3]; exact hA i i1 i2 i3) (by rw [up2_k _ _ _ _ (by decide)]; exact h3) (by rw [up2_k _ _ _ _ (by decide)]; exact h4) (fun p hp => by rw [up2_f _ _ _ _ (by omega)]; exact hs p hp) (by rw [up2_s, hz, lasC, if_neg (hsj ▸ h76)]; exact hsj)
            · refine b_aload_n dX5_cut_59 rfl rfl ?_
              refine b_getI lf_X5_43 (life_c ha) dX5_cut_60 ?_
              refine b_iconst (v := (-1)) dX5_cut_63 (by decide +kernel) ?_
              refine b_icmp_ne (tgt := 98) dX5_cut_64 (by decide) (fun _ => ?_) (fun q => ?_)
              · refine b_vret rfl (by decide) dX5_cut_98 ?_
                exact DN _ (fun z z1 z2 => by rw [up2_f _ _ _ _ z1]; exact hF z z1 z2) (fun i i1 i2 i3 => by rw [up2_k _ _ _ _ i3]; exact hA i i1 i2 i3) (by rw [up2_k _ _ _ _ (by decide)]; exact h3) (by rw [up2_k _ _ _ _ (by decide)]; exact h4) (fun p hp => by rw [up2_f _ _ _ _ (by omega)]; exact hs p hp) (by rw [up2_s, hz, lasC, if_neg (hsj ▸ h76)]; exact hsj)
              · rw [up2_s, hsj] at q; exact absurd q hnm
          · refine b_iconst (v := (-1)) dX5_cut_79 (by decide +kernel) ?_
            refine b_goto (tgt := 89) dX5_cut_80 (by decide) ?_
            refine b_putI lf_X5_43 lp_5_10 (life_c ha) dX5_cut_89 ?_
            refine b_iinc (v := bgI j) (lv' := [(0, _), (1, _), (2, _), (3, _)]) dX5_cut_92 rfl (bgI_dec _) (by decide) rfl rfl ?_
            refine b_goto (tgt := 55) dX5_cut_95 (by decide) ?_
            refine ih j (by omega) (by omega) _ (fun z z1 z2 => by rw [up2_f _ _ _ _ z1]; exact hF z z1 z2) (fun i i1 i2 i3 => by rw [up2_k _ _ _ _ i3]; exact hA i i1 i2 i3) (by rw [up2_k _ _ _ _ (by decide)]; exact h3) (by rw [up2_k _ _ _ _ (by decide)]; exact h4) (fun p hp => by rw [up2_f _ _ _ _ (by omega)]; exact hs p hp) (up2_s _ _ _ _) (by rw [hz, lasC, if_pos (hsj ▸ h76)])
  have L2 : ∀ j, j = n → ∀ h, (∀ z, z ≠ a + 6 → h z = g z) → (∀ p, p < t_n T → h (a + 6) p = nI (cntN (fun i => l_g S 1 i == nI p) j)) → ∀ x, B E md_X5_cut d Q X 33 [(0, .ref a), (1, .int (nI n)), (2, .int y), (3, .int x)] [] h 0 := by
    intro j hjn h hF hs x
    refine b_aload_n dX5_cut_33 rfl rfl ?_
    refine b_iload_n dX5_cut_34 rfl rfl ?_
    refine b_putI lf_X5_21 lp_5_3 (life_c ha) dX5_cut_35 ?_
    refine b_aload_n dX5_cut_38 rfl rfl ?_
    refine b_iload_n dX5_cut_39 rfl rfl ?_
    refine b_putI lf_X5_25 lp_5_4 (life_c ha) dX5_cut_40 ?_
    refine b_aload_n dX5_cut_43 rfl rfl ?_
    refine b_iconst (v := (-1)) dX5_cut_44 (by decide +kernel) ?_
    refine b_putI lf_X5_43 lp_5_10 (life_c ha) dX5_cut_45 ?_
    refine b_aload_n dX5_cut_48 rfl rfl ?_
    refine b_getI lf_X5_21 (life_c ha) dX5_cut_49 ?_
    refine b_topE (y := nI n) (by rw [up2_k _ _ _ _ (by decide), up2_k _ _ _ _ (by decide), up2_s]) ?_
    refine b_iconst (v := 1) dX5_cut_52 (by decide +kernel) ?_
    refine b_isub dX5_cut_53 ?_
    refine b_istore_n (lv' := [(0, _), (1, _), (2, _), (3, _)]) dX5_cut_54 rfl (by decide) rfl rfl ?_
    rw [bgI_sub]
    refine L3 n (Nat.le_refl _) _ (fun z z1 z2 => by rw [up2_f _ _ _ _ z1, up2_f _ _ _ _ z1, up2_f _ _ _ _ z1]; exact hF z z2) (fun i i1 i2 i3 => by rw [up2_k _ _ _ _ i3, up2_k _ _ _ _ i2, up2_k _ _ _ _ i1, hF a (by omega)]) (by rw [up2_k _ _ _ _ (by decide), up2_k _ _ _ _ (by decide), up2_s]) (by rw [up2_k _ _ _ _ (by decide), up2_s]) (fun p hp => by rw [up2_f _ _ _ _ (by omega), up2_f _ _ _ _ (by omega), up2_f _ _ _ _ (by omega)]; have := hs p hp; rwa [show j = n by omega] at this) (up2_s _ _ _ _) rfl
  have L1 : ∀ j, n ≤ j → j ≤ l_n S → ∀ h, (∀ z, z ≠ a + 6 → h z = g z) → (∀ p, p < t_n T → h (a + 6) p = nI (cntN (fun i => l_g S 1 i == nI p) j)) → B E md_X5_cut d Q X 7 [(0, .ref a), (1, .int (nI n)), (2, .int y), (3, .int (bgI j))] [] h 0 := by
    refine lp_dn (fun j ih hnj hj h hF hs => ?_)
    cases j with
    | zero =>
      show B E md_X5_cut d Q X 7 [(0, .ref a), (1, .int (nI n)), (2, .int y), (3, .int (-1))] [] h 0
      refine b_iload_n dX5_cut_7 rfl rfl ?_
      refine b_iload_n dX5_cut_8 rfl rfl ?_
      refine b_icmp_lt (tgt := 33) dX5_cut_9 (by decide) (fun h9 => ?_) (fun h9 => ?_)
      · exact L2 0 (by omega) h hF hs _
      · exact absurd ((bgI_lt (j := 0) (by decide) (by omega)).mpr (Nat.zero_le _)) h9
    | succ j =>
      show B E md_X5_cut d Q X 7 [(0, .ref a), (1, .int (nI n)), (2, .int y), (3, .int (nI j))] [] h 0
      refine b_iload_n dX5_cut_7 rfl rfl ?_
      refine b_iload_n dX5_cut_8 rfl rfl ?_
      refine b_icmp_lt (tgt := 33) dX5_cut_9 (by decide) (fun h9 => ?_) (fun h9 => ?_)
      · have e9 := (nI_ltI (by omega) (by omega)).mp h9
        exact L2 (j + 1) (by omega) h hF hs _
      · have e9 := nn_nlt (by omega) (by omega) h9
        obtain ⟨p, hp, hwp⟩ := oS.2.2.1 j (by omega)
        refine b_aload_n dX5_cut_12 rfl rfl ?_
        refine b_getR (b := (a + 6)) lf_X5_52 (life_c ha) (life_r13 ha) dX5_cut_13 ?_
        refine b_aload_n dX5_cut_16 rfl rfl ?_
        refine b_getR (b := (a + 2)) lf_X5_15 (life_c ha) (life_r1 ha) dX5_cut_17 ?_
        refine b_iload_n dX5_cut_20 rfl rfl ?_
        refine b_ildN (j := j) dX5_cut_21 (rfl) (by rw [(life_n2 ha)]; omega) ?_
        refine b_topE (y := nI p) (by rw [hF _ (by omega), hR.wh j (by omega)]; exact hwp) ?_
        refine b_dup2 dX5_cut_22 rfl rfl ?_
        refine b_ildN (j := p) dX5_cut_23 (rfl) (by rw [(life_n6 ha)]; omega) ?_
        refine b_iconst (v := 1) dX5_cut_24 (by decide +kernel) ?_
        refine b_isub dX5_cut_25 ?_
        refine b_istN (j := p) dX5_cut_26 (rfl) (by rw [(life_n6 ha)]; omega) ?_
        refine b_iinc (v := bgI j) (lv' := [(0, _), (1, _), (2, _), (3, _)]) dX5_cut_27 rfl (bgI_dec _) (by decide) rfl rfl ?_
        refine b_goto (tgt := 7) dX5_cut_30 (by decide) ?_
        refine ih j (by omega) (by omega) (by omega) _ (fun z hz => by rw [up2_f _ _ _ _ hz]; exact hF z hz) (fun q hq8 => ?_)
        have e1 := hs q hq8
        rw [cntN] at e1
        by_cases e : q = p
        · subst e
          rw [if_pos (by rw [hwp]; simp)] at e1
          rw [up2_s, e1, nI_succ]; exact Int32.add_sub_cancel _ _
        · rw [if_neg (by rw [hwp]; simp only [beq_iff_eq]; exact fun q2 => e (nI_inj (by omega) (by omega) q2.symm)), Nat.add_zero] at e1
          rw [up2_k _ _ _ _ e]; exact e1
  refine b_aload_n dX5_cut_0 rfl rfl ?_
  refine b_getI lf_X5_21 (life_c ha) dX5_cut_1 ?_
  refine b_topE (hR.n) ?_
  refine b_iconst (v := 1) dX5_cut_4 (by decide +kernel) ?_
  refine b_isub dX5_cut_5 ?_
  refine b_istore_n (lv' := [(0, _), (1, _), (2, _), (3, _)]) dX5_cut_6 rfl (by decide) rfl rfl ?_
  rw [bgI_sub]
  exact L1 (l_n S) hn (Nat.le_refl _) g (fun _ _ => rfl) (fun p hp => hR.sun p hp)
