theorem gmS_f {T : TD} {S : LfS} {h o : Int32} {q : Nat × Int32} {a b : Nat} (e : gkB T S h o a b = false) : gmS T S h o q a b = q := by unfold gmS; rw [e]; rfl
theorem gmS_t {T : TD} {S : LfS} {h o : Int32} {q : Nat × Int32} {a b : Nat} (e : gkB T S h o a b = true) : gmS T S h o q a b = (q.1 + 1, if q.2 = -1 then nI (10 * a + b) else q.2) := by unfold gmS; rw [e]; rfl
theorem gmI_sk {T : TD} {S : LfS} {h o : Int32} {q : Nat × Int32} {a : Nat} (e : csB S h a = false) : ∀ b, gmI T S h o q a b = q
  | 0 => rfl
  | b + 1 => by rw [gmI, gmI_sk e b, gmS_f (by unfold gkB; rw [e]; rfl)]
theorem gmI_cn {T : TD} {S : LfS} {h o : Int32} {q : Nat × Int32} {a : Nat} : ∀ k b, cntN (csB S o) b = cntN (csB S o) (b + k) → gmI T S h o q a (b + k) = gmI T S h o q a b
  | 0, _, _ => rfl
  | k + 1, b, e => by
    have e1 := cnt_mono (P := csB S o) (show b ≤ b + k by omega)
    rw [show b + (k + 1) = (b + k) + 1 by omega, cntN] at e
    have ef : csB S o (b + k) = false := by
      cases q : csB S o (b + k) with
      | false => rfl
      | true => rw [q] at e; simp at e; omega
    rw [ef] at e
    rw [show b + (k + 1) = (b + k) + 1 by omega, gmI, gmS_f (by unfold gkB; rw [ef]; simp)]
    exact gmI_cn k b (by simpa using e)
theorem gmO_cn {T : TD} {S : LfS} {h o : Int32} : ∀ k a, cntN (csB S h) a = cntN (csB S h) (a + k) → gmO T S h o (a + k) = gmO T S h o a
  | 0, _, _ => rfl
  | k + 1, a, e => by
    have e1 := cnt_mono (P := csB S h) (show a ≤ a + k by omega)
    rw [show a + (k + 1) = (a + k) + 1 by omega, cntN] at e
    have ef : csB S h (a + k) = false := by
      cases q : csB S h (a + k) with
      | false => rfl
      | true => rw [q] at e; simp at e; omega
    rw [ef] at e
    rw [show a + (k + 1) = (a + k) + 1 by omega, gmO, gmI_sk ef]
    exact gmO_cn k a (by simpa using e)
theorem gmO_eq {T : TD} {S : LfS} {h o : Int32} {a k : Nat} (e : cntN (csB S h) a = cntN (csB S h) k) : gmO T S h o a = gmO T S h o k := by
  rcases Nat.le_total a k with q | q
  · have := gmO_cn (T := T) (S := S) (h := h) (o := o) (k - a) a (by rw [show a + (k - a) = k by omega]; exact e)
    rw [show a + (k - a) = k by omega] at this; exact this.symm
  · have := gmO_cn (T := T) (S := S) (h := h) (o := o) (a - k) k (by rw [show k + (a - k) = a by omega]; exact e.symm)
    rw [show k + (a - k) = a by omega] at this; exact this
theorem gmI_eq {T : TD} {S : LfS} {h o : Int32} {q : Nat × Int32} {a b k : Nat} (e : cntN (csB S o) b = cntN (csB S o) k) : gmI T S h o q a b = gmI T S h o q a k := by
  rcases Nat.le_total b k with z | z
  · have := gmI_cn (T := T) (S := S) (h := h) (o := o) (q := q) (a := a) (k - b) b (by rw [show b + (k - b) = k by omega]; exact e)
    rw [show b + (k - b) = k by omega] at this; exact this.symm
  · have := gmI_cn (T := T) (S := S) (h := h) (o := o) (q := q) (a := a) (b - k) k (by rw [show k + (b - k) = b by omega]; exact e.symm)
    rw [show k + (b - k) = b by omega] at this; exact this
theorem gmS_kp {T : TD} {S : LfS} {h o : Int32} {q : Nat × Int32} {a b : Nat} (e : ¬ q.2 = -1) : (gmS T S h o q a b).2 = q.2 := by
  unfold gmS; rw [if_neg e]; split <;> rfl
theorem gmI_kp {T : TD} {S : LfS} {h o : Int32} {q : Nat × Int32} {a : Nat} : ∀ k b, ¬ (gmI T S h o q a b).2 = -1 → (gmI T S h o q a (b + k)).2 = (gmI T S h o q a b).2
  | 0, _, _ => rfl
  | k + 1, b, e => by
    have ih := gmI_kp k b e
    rw [show b + (k + 1) = (b + k) + 1 by omega, gmI, gmS_kp (by rw [ih]; exact e)]; exact ih
theorem gmO_kp {T : TD} {S : LfS} {h o : Int32} : ∀ k a, ¬ (gmO T S h o a).2 = -1 → (gmO T S h o (a + k)).2 = (gmO T S h o a).2
  | 0, _, _ => rfl
  | k + 1, a, e => by
    have ih := gmO_kp k a e
    rw [show a + (k + 1) = (a + k) + 1 by omega, gmO]
    have := gmI_kp (T := T) (S := S) (h := h) (o := o) (q := gmO T S h o (a + k)) (a := a + k) (t_n T + 1) 0 (by rw [gmI, ih]; exact e)
    rw [Nat.zero_add, gmI] at this
    rw [this]; exact ih
theorem gm_fst {T : TD} {S : LfS} {h o : Int32} {a b : Nat} (ha : a ≤ t_n T) (hb : b ≤ t_n T) (h8 : t_n T ≤ 8) (e : (gmI T S h o (gmO T S h o a) a b).2 = -1) (k : gkB T S h o a b = true) : (gmO T S h o (t_n T + 1)).2 = nI (10 * a + b) := by
  have e1 : (gmI T S h o (gmO T S h o a) a (b + 1)).2 = nI (10 * a + b) := by rw [gmI, gmS_t k]; exact if_pos e
  have e2 := gmI_kp (T := T) (S := S) (h := h) (o := o) (q := gmO T S h o a) (a := a) (t_n T - b) (b + 1) (by rw [e1]; exact nI_nm1 (by omega))
  rw [show b + 1 + (t_n T - b) = t_n T + 1 by omega, e1] at e2
  have e3 : (gmO T S h o (a + 1)).2 = nI (10 * a + b) := e2
  have e4 := gmO_kp (T := T) (S := S) (h := h) (o := o) (t_n T - a) (a + 1) (by rw [e3]; exact nI_nm1 (by omega))
  rw [show a + 1 + (t_n T - a) = t_n T + 1 by omega, e3] at e4
  exact e4
theorem bg1 (k : Nat) : bgI k + 1 = nI k := by
  cases k with
  | zero => decide +kernel
  | succ k => exact nI_1 k
theorem bg_ix (x b : Nat) : nI x + bgI b + 1 = nI (x + b) := by rw [Int32.add_assoc, bg1, nI_add]
theorem c_X2_resting {E : En} {d : Nat} {Q : QT} {X : XT} {g : G2} {T : TD} {S : LfS} {ha hb : Int32} (h8 : t_n T ≤ 8) (gm : GM g T S ha hb) (gg : GG g T S ha hb (fun _ _ => True)) (hle : ∀ a b, l_n (gmL T S a b) ≤ 400) (hq : Q (some (.int (nI (gmO T S ha hb (t_n T + 1)).1))) g) : M E md_X2_resting (d + 1) [.ref 77] g Q X := by
  refine M.of _ rfl rfl (Nat.le_of_ble_eq_true rfl) ?_
  have s1 := cntN_le (csB S ha) (t_n T + 1)
  have s2 := cntN_le (csB S hb) (t_n T + 1)
  have LO : ∀ i, i ≤ cntN (csB S ha) (t_n T + 1) → ∀ a, a ≤ t_n T + 1 → cntN (csB S ha) a = i → B E md_X2_resting (d + 1) Q X 4 [(0, .ref 77), (1, .int (nI (gmO T S ha hb a).1)), (2, .int (nI i))] [] g 0 := by
    refine lp_up (fun i hi ihO a ha0 hai => ?_)
    refine b_iload_n dX2_resting_4 rfl rfl ?_
    refine b_aload_n dX2_resting_5 rfl rfl ?_
    refine b_getI lf_X2_18 rfl dX2_resting_6 ?_
    refine b_topE (y := nI (cntN (csB S ha) (t_n T + 1))) (gm.1) ?_
    refine b_icmp_ge (tgt := 46) dX2_resting_9 (by decide) (fun h9 => ?_) (fun h9 => ?_)
    · have e9 : (cntN (csB S ha) (t_n T + 1)) ≤ i := nn_le (a := (cntN (csB S ha) (t_n T + 1))) (b := i) (by omega) (by omega) h9
      rw [gmO_eq (k := t_n T + 1) (show cntN (csB S ha) a = _ by omega)]
      refine b_iload_n dX2_resting_46 rfl rfl ?_
      refine b_iret rfl (by decide) dX2_resting_47 ?_
      exact hq
    · have e9 : i < (cntN (csB S ha) (t_n T + 1)) := nn_nle (a := (cntN (csB S ha) (t_n T + 1))) (b := i) (by omega) (by omega) h9
      obtain ⟨k, k1, k2, k3⟩ := cnt_ex (P := csB S ha) (t_n T + 1) i (by omega)
      have IN : ∀ j, j ≤ cntN (csB S hb) (t_n T + 1) → ∀ b, b ≤ t_n T + 1 → cntN (csB S hb) b = j → B E md_X2_resting (d + 1) Q X 14 [(0, .ref 77), (1, .int (nI (gmI T S ha hb (gmO T S ha hb k) k b).1)), (2, .int (nI i)), (3, .int (nI j))] [] g 0 := by
        refine lp_up (fun j hj ih b hb0 hbj => ?_)
        refine b_iload_n dX2_resting_14 rfl rfl ?_
        refine b_aload_n dX2_resting_15 rfl rfl ?_
        refine b_getI lf_X2_22 rfl dX2_resting_16 ?_
        refine b_topE (y := nI (cntN (csB S hb) (t_n T + 1))) (gm.2.1) ?_
        refine b_icmp_ge (tgt := 40) dX2_resting_19 (by decide) (fun h19 => ?_) (fun h19 => ?_)
        · have e19 : (cntN (csB S hb) (t_n T + 1)) ≤ j := nn_le (a := (cntN (csB S hb) (t_n T + 1))) (b := j) (by omega) (by omega) h19
          refine b_incN (j := i) (lv' := [(0, _), (1, _), (2, _), (3, _)]) dX2_resting_40 rfl rfl (by decide) rfl rfl ?_
          refine b_goto (tgt := 4) dX2_resting_43 (by decide) ?_
          refine b_take 3 ?_
          have eb : gmI T S ha hb (gmO T S ha hb k) k b = gmI T S ha hb (gmO T S ha hb k) k (t_n T + 1) := gmI_eq (by omega)
          rw [eb]
          exact ihO (i + 1) (by omega) (by omega) (k + 1) (by omega) (by rw [cntN, if_pos k2, k3])
        · have e19 : j < (cntN (csB S hb) (t_n T + 1)) := nn_nle (a := (cntN (csB S hb) (t_n T + 1))) (b := j) (by omega) (by omega) h19
          obtain ⟨l, l1, l2, l3⟩ := cnt_ex (P := csB S hb) (t_n T + 1) j (by omega)
          refine b_aload_n dX2_resting_22 rfl rfl ?_
          refine b_iload_n dX2_resting_23 rfl rfl ?_
          refine b_iload_n dX2_resting_24 rfl rfl ?_
          refine b_callV (As := [_, _]) (st := []) dX2_resting_25 lk_X2_83 lm_X2_isResting lv_X2_isResting rfl (by decide) rfl rfl rfl (Nat.le_of_ble_eq_true rfl) (Nat.le_refl _) (by decide) ?_
          rw [← k3, ← l3]
          refine c_X2_isResting h8 gm gg hle (by omega) (by omega) k2 l2 ?_
          rw [k3, l3]
          refine b_if_eq (tgt := 34) dX2_resting_28 (by decide) (fun h28 => ?_) (fun h28 => ?_)
          · have e28 := b2i_0 h28
            refine b_incN (j := j) (lv' := [(0, _), (1, _), (2, _), (3, _)]) dX2_resting_34 rfl rfl (by decide) rfl rfl ?_
            refine b_goto (tgt := 14) dX2_resting_37 (by decide) ?_
            have gk : gkB T S ha hb k l = false := by unfold gkB; rw [k2, l2, e28]; rfl
            have z := ih (j + 1) (by omega) (by omega) (l + 1) (by omega) (by rw [cntN, if_pos l2, l3])
            rw [gmI, gmS_f gk] at z
            rw [gmI_eq (b := b) (k := l) (by rw [hbj, l3])]
            exact z
          · have e28 := b2i_1 h28
            refine b_incN (j := (gmI T S ha hb (gmO T S ha hb k) k b).1) (lv' := [(0, _), (1, _), (2, _), (3, _)]) dX2_resting_31 rfl rfl (by decide) rfl rfl ?_
            refine b_incN (j := j) (lv' := [(0, _), (1, _), (2, _), (3, _)]) dX2_resting_34 rfl rfl (by decide) rfl rfl ?_
            refine b_goto (tgt := 14) dX2_resting_37 (by decide) ?_
            have gk : gkB T S ha hb k l = true := by unfold gkB; rw [k2, l2, e28]; rfl
            have z := ih (j + 1) (by omega) (by omega) (l + 1) (by omega) (by rw [cntN, if_pos l2, l3])
            rw [gmI, gmS_t gk] at z
            rw [gmI_eq (b := b) (k := l) (by rw [hbj, l3])]
            exact z
      refine b_iconst (v := 0) dX2_resting_12 (by decide +kernel) ?_
      refine b_istore_n (lv' := [(0, _), (1, _), (2, _), (3, _)]) dX2_resting_13 rfl (by decide) rfl rfl ?_
      rw [gmO_eq (show cntN (csB S ha) a = cntN (csB S ha) k by omega)]
      exact IN 0 (Nat.zero_le _) 0 (by omega) rfl
  refine b_iconst (v := 0) dX2_resting_0 (by decide +kernel) ?_
  refine b_istore_n (lv' := [(0, _), (1, _)]) dX2_resting_1 rfl (by decide) rfl rfl ?_
  refine b_iconst (v := 0) dX2_resting_2 (by decide +kernel) ?_
  refine b_istore_n (lv' := [(0, _), (1, _), (2, _)]) dX2_resting_3 rfl (by decide) rfl rfl ?_
  exact LO 0 (Nat.zero_le _) 0 (by omega) rfl
theorem c_X2_firstResting {E : En} {d : Nat} {Q : QT} {X : XT} {g : G2} {T : TD} {S : LfS} {ha hb : Int32} (h8 : t_n T ≤ 8) (gm : GM g T S ha hb) (gg : GG g T S ha hb (fun _ _ => True)) (hle : ∀ a b, l_n (gmL T S a b) ≤ 400) (hq : Q (some (.int (gmO T S ha hb (t_n T + 1)).2)) g) : M E md_X2_firstResting (d + 1) [.ref 77] g Q X := by
  refine M.of _ rfl rfl (Nat.le_of_ble_eq_true rfl) ?_
  have s1 := cntN_le (csB S ha) (t_n T + 1)
  have s2 := cntN_le (csB S hb) (t_n T + 1)
  have LO : ∀ i, i ≤ cntN (csB S ha) (t_n T + 1) → ∀ a, a ≤ t_n T + 1 → cntN (csB S ha) a = i → (gmO T S ha hb a).2 = -1 → B E md_X2_firstResting (d + 1) Q X 2 [(0, .ref 77), (1, .int (nI i))] [] g 0 := by
    refine lp_up (fun i hi ihO a ha0 hai hm => ?_)
    refine b_iload_n dX2_firstResting_2 rfl rfl ?_
    refine b_aload_n dX2_firstResting_3 rfl rfl ?_
    refine b_getI lf_X2_18 rfl dX2_firstResting_4 ?_
    refine b_topE (y := nI (cntN (csB S ha) (t_n T + 1))) (gm.1) ?_
    refine b_icmp_ge (tgt := 62) dX2_firstResting_7 (by decide) (fun h7 => ?_) (fun h7 => ?_)
    · have e7 : (cntN (csB S ha) (t_n T + 1)) ≤ i := nn_le (a := (cntN (csB S ha) (t_n T + 1))) (b := i) (by omega) (by omega) h7
      refine b_iconst (v := (-1)) dX2_firstResting_62 (by decide +kernel) ?_
      refine b_iret rfl (by decide) dX2_firstResting_63 ?_
      rw [gmO_eq (k := t_n T + 1) (show cntN (csB S ha) a = _ by omega)] at hm
      rw [hm] at hq
      exact hq
    · have e7 : i < (cntN (csB S ha) (t_n T + 1)) := nn_nle (a := (cntN (csB S ha) (t_n T + 1))) (b := i) (by omega) (by omega) h7
      obtain ⟨k, k1, k2, k3⟩ := cnt_ex (P := csB S ha) (t_n T + 1) i (by omega)
      have IN : ∀ j, j ≤ cntN (csB S hb) (t_n T + 1) → ∀ b, b ≤ t_n T + 1 → cntN (csB S hb) b = j → (gmI T S ha hb (gmO T S ha hb k) k b).2 = -1 → B E md_X2_firstResting (d + 1) Q X 12 [(0, .ref 77), (1, .int (nI i)), (2, .int (nI j))] [] g 0 := by
        refine lp_up (fun j hj ih b hb0 hbj hm => ?_)
        refine b_iload_n dX2_firstResting_12 rfl rfl ?_
        refine b_aload_n dX2_firstResting_13 rfl rfl ?_
        refine b_getI lf_X2_22 rfl dX2_firstResting_14 ?_
        refine b_topE (y := nI (cntN (csB S hb) (t_n T + 1))) (gm.2.1) ?_
        refine b_icmp_ge (tgt := 56) dX2_firstResting_17 (by decide) (fun h17 => ?_) (fun h17 => ?_)
        · have e17 : (cntN (csB S hb) (t_n T + 1)) ≤ j := nn_le (a := (cntN (csB S hb) (t_n T + 1))) (b := j) (by omega) (by omega) h17
          refine b_incN (j := i) (lv' := [(0, _), (1, _), (2, _)]) dX2_firstResting_56 rfl rfl (by decide) rfl rfl ?_
          refine b_goto (tgt := 2) dX2_firstResting_59 (by decide) ?_
          refine b_take 2 ?_
          have eb : gmI T S ha hb (gmO T S ha hb k) k b = gmI T S ha hb (gmO T S ha hb k) k (t_n T + 1) := gmI_eq (by omega)
          exact ihO (i + 1) (by omega) (by omega) (k + 1) (by omega) (by rw [cntN, if_pos k2, k3]) (by rw [eb] at hm; exact hm)
        · have e17 : j < (cntN (csB S hb) (t_n T + 1)) := nn_nle (a := (cntN (csB S hb) (t_n T + 1))) (b := j) (by omega) (by omega) h17
          obtain ⟨l, l1, l2, l3⟩ := cnt_ex (P := csB S hb) (t_n T + 1) j (by omega)
          refine b_aload_n dX2_firstResting_20 rfl rfl ?_
          refine b_iload_n dX2_firstResting_21 rfl rfl ?_
          refine b_iload_n dX2_firstResting_22 rfl rfl ?_
          refine b_callV (As := [_, _]) (st := []) dX2_firstResting_23 lk_X2_83 lm_X2_isResting lv_X2_isResting rfl (by decide) rfl rfl rfl (Nat.le_of_ble_eq_true rfl) (Nat.le_refl _) (by decide) ?_
          rw [← k3, ← l3]
          refine c_X2_isResting h8 gm gg hle (by omega) (by omega) k2 l2 ?_
          rw [k3, l3]
          refine b_if_eq (tgt := 50) dX2_firstResting_26 (by decide) (fun h26 => ?_) (fun h26 => ?_)
          · have e26 := b2i_0 h26
            refine b_incN (j := j) (lv' := [(0, _), (1, _), (2, _)]) dX2_firstResting_50 rfl rfl (by decide) rfl rfl ?_
            refine b_goto (tgt := 12) dX2_firstResting_53 (by decide) ?_
            have gk : gkB T S ha hb k l = false := by unfold gkB; rw [k2, l2, e26]; rfl
            refine ih (j + 1) (by omega) (by omega) (l + 1) (by omega) (by rw [cntN, if_pos l2, l3]) ?_
            rw [gmI, gmS_f gk, ← gmI_eq (b := b) (by rw [hbj, l3])]
            exact hm
          · have e26 := b2i_1 h26
            refine b_bipush (v := 10) dX2_firstResting_29 (by decide +kernel) ?_
            refine b_aload_n dX2_firstResting_31 rfl rfl ?_
            refine b_getR (b := 78) lf_X2_11 rfl rfl dX2_firstResting_32 ?_
            refine b_iload_n dX2_firstResting_35 rfl rfl ?_
            refine b_ildN (j := i) dX2_firstResting_36 (rfl) (by show _ < 9; omega) ?_
            refine b_topE (y := bgI k) (by rw [← k3]; exact gm.2.2.1 k (by omega) k2) ?_
            refine b_iconst (v := 1) dX2_firstResting_37 (by decide +kernel) ?_
            refine b_iadd dX2_firstResting_38 ?_
            refine b_topE (bg1 k) ?_
            refine b_imul dX2_firstResting_39 ?_
            refine b_topE (nI_mul 10 k) ?_
            refine b_aload_n dX2_firstResting_40 rfl rfl ?_
            refine b_getR (b := 79) lf_X2_15 rfl rfl dX2_firstResting_41 ?_
            refine b_iload_n dX2_firstResting_44 rfl rfl ?_
            refine b_ildN (j := j) dX2_firstResting_45 (rfl) (by show _ < 9; omega) ?_
            refine b_topE (y := bgI l) (by rw [← l3]; exact gm.2.2.2 l (by omega) l2) ?_
            refine b_iadd dX2_firstResting_46 ?_
            refine b_iconst (v := 1) dX2_firstResting_47 (by decide +kernel) ?_
            refine b_iadd dX2_firstResting_48 ?_
            refine b_topE (bg_ix (10 * k) l) ?_
            refine b_iret rfl (by decide) dX2_firstResting_49 ?_
            have gk : gkB T S ha hb k l = true := by unfold gkB; rw [k2, l2, e26]; rfl
            rw [gm_fst (a := k) (b := l) (by omega) (by omega) h8 (by rw [← gmI_eq (b := b) (by rw [hbj, l3])]; exact hm) gk] at hq
            exact hq
      refine b_iconst (v := 0) dX2_firstResting_10 (by decide +kernel) ?_
      refine b_istore_n (lv' := [(0, _), (1, _), (2, _)]) dX2_firstResting_11 rfl (by decide) rfl rfl ?_
      exact IN 0 (Nat.zero_le _) 0 (by omega) rfl (by rw [gmI, ← gmO_eq (a := a) (show cntN (csB S ha) a = cntN (csB S ha) k by omega)]; exact hm)
  refine b_iconst (v := 0) dX2_firstResting_0 (by decide +kernel) ?_
  refine b_istore_n (lv' := [(0, _), (1, _)]) dX2_firstResting_1 rfl (by decide) rfl rfl ?_
  exact LO 0 (Nat.zero_le _) 0 (by omega) rfl rfl
theorem c_X11_game {E : En} {d : Nat} {Q : QT} {X : XT} {g : G2} {t : Nat} (ht : is_town t) (h0 : g 0 2 = nI t) {T : TD} {S : LfS} {h o w : Int32} (hR : RLf g 31 T (-1) S) (hT : RTn g t T) (oT : okT T) (oL : okL T S) (hq : ∀ h9, FC g h9 → (gamM T S h o w).1 = 0 → Q (some (.int (gamM T S h o w).2)) h9) (hx : ∀ h9, FC g h9 → (gamM T S h o w).1 = 1 → X nsN h9) (hy : ∀ h9, FC g h9 → (gamM T S h o w).1 = 2 → X iaN h9) : M E md_X11_game (d + 7) [.ref 0, .int h, .int o, .int w] g Q X := by
  refine M.of _ rfl rfl (Nat.le_of_ble_eq_true rfl) ?_
  have ht5 : t = 5 ∨ t = 18 := ht
  refine b_iload_n dX11_game_0 rfl rfl ?_
  refine b_iconst (v := 1) dX11_game_1 (by decide +kernel) ?_
  refine b_callS (As := [_, _]) (st := []) dX11_game_2 lk_X11_198 lm_X11_needWhat ls_X11_needWhat rfl rfl (Nat.le_of_ble_eq_true rfl) (Nat.le_refl _) (by decide) ?_
  refine c_X11_needWhat (fun hw => ?_) (fun hw => hx g (FC.rf g) (by rw [gamM_1 hw]))
  refine b_iload_n dX11_game_5 rfl rfl ?_
  refine b_if_lt (tgt := 27) dX11_game_6 (by decide) (fun h6 => ?_) (fun h6 => ?_)
  · have hz : ¬ (inB h.toInt 0 3 = true ∧ inB o.toInt 0 3 = true ∧ ¬ h = o) := fun q => by rw [in_lt h6] at q; simp at q
    have hy := hy g (FC.rf g) (by rw [gamM_2 hw hz])
    refine b_iconst (v := 0) dX11_game_27 (by decide +kernel) ?_
    refine b_istore (lv' := [(0, _), (1, _), (2, _), (3, _), (4, _)]) dX11_game_28 (by decide) rfl rfl ?_
    refine b_iload dX11_game_30 rfl ?_
    refine b_if_eq (tgt := 40) dX11_game_32 (by decide) (fun h32 => ?_) (fun h32 => ?_)
    · refine b_throwW (text := "no two houses") (n := 40) rfl th_iae (by decide +kernel) (by omega) (by decide) (by decide) dX11_game_40 dX11_game_43 dX11_game_44 dX11_game_47 dX11_game_50 ?_
      exact hy
    · exact absurd rfl h32
  · refine b_iload_n dX11_game_9 rfl rfl ?_
    refine b_iconst (v := 4) dX11_game_10 (by decide +kernel) ?_
    refine b_icmp_ge (tgt := 27) dX11_game_11 (by decide) (fun h11 => ?_) (fun h11 => ?_)
    · have hz : ¬ (inB h.toInt 0 3 = true ∧ inB o.toInt 0 3 = true ∧ ¬ h = o) := fun q => by rw [in_gt (x := h) (m := 3) (b := 3) rfl (ge_nle (n := 3) (by decide) (by decide) h11)] at q; simp at q
      have hy := hy g (FC.rf g) (by rw [gamM_2 hw hz])
      refine b_iconst (v := 0) dX11_game_27 (by decide +kernel) ?_
      refine b_istore (lv' := [(0, _), (1, _), (2, _), (3, _), (4, _)]) dX11_game_28 (by decide) rfl rfl ?_
      refine b_iload dX11_game_30 rfl ?_
      refine b_if_eq (tgt := 40) dX11_game_32 (by decide) (fun h32 => ?_) (fun h32 => ?_)
      · refine b_throwW (text := "no two houses") (n := 40) rfl th_iae (by decide +kernel) (by omega) (by decide) (by decide) dX11_game_40 dX11_game_43 dX11_game_44 dX11_game_47 dX11_game_50 ?_
        exact hy
      · exact absurd rfl h32
    · refine b_iload_n dX11_game_14 rfl rfl ?_
      refine b_if_lt (tgt := 27) dX11_game_15 (by decide) (fun h15 => ?_) (fun h15 => ?_)
      · have hz : ¬ (inB h.toInt 0 3 = true ∧ inB o.toInt 0 3 = true ∧ ¬ h = o) := fun q => by rw [in_lt (x := o) h15] at q; simp at q
        have hy := hy g (FC.rf g) (by rw [gamM_2 hw hz])
        refine b_iconst (v := 0) dX11_game_27 (by decide +kernel) ?_
        refine b_istore (lv' := [(0, _), (1, _), (2, _), (3, _), (4, _)]) dX11_game_28 (by decide) rfl rfl ?_
        refine b_iload dX11_game_30 rfl ?_
        refine b_if_eq (tgt := 40) dX11_game_32 (by decide) (fun h32 => ?_) (fun h32 => ?_)
        · refine b_throwW (text := "no two houses") (n := 40) rfl th_iae (by decide +kernel) (by omega) (by decide) (by decide) dX11_game_40 dX11_game_43 dX11_game_44 dX11_game_47 dX11_game_50 ?_
          exact hy
        · exact absurd rfl h32
      · refine b_iload_n dX11_game_18 rfl rfl ?_
        refine b_iconst (v := 4) dX11_game_19 (by decide +kernel) ?_
        refine b_icmp_ge (tgt := 27) dX11_game_20 (by decide) (fun h20 => ?_) (fun h20 => ?_)
        · have hz : ¬ (inB h.toInt 0 3 = true ∧ inB o.toInt 0 3 = true ∧ ¬ h = o) := fun q => by rw [in_gt (x := o) (m := 3) (b := 3) rfl (ge_nle (n := 3) (by decide) (by decide) h20)] at q; simp at q
          have hy := hy g (FC.rf g) (by rw [gamM_2 hw hz])
          refine b_iconst (v := 0) dX11_game_27 (by decide +kernel) ?_
          refine b_istore (lv' := [(0, _), (1, _), (2, _), (3, _), (4, _)]) dX11_game_28 (by decide) rfl rfl ?_
          refine b_iload dX11_game_30 rfl ?_
          refine b_if_eq (tgt := 40) dX11_game_32 (by decide) (fun h32 => ?_) (fun h32 => ?_)
          · refine b_throwW (text := "no two houses") (n := 40) rfl th_iae (by decide +kernel) (by omega) (by decide) (by decide) dX11_game_40 dX11_game_43 dX11_game_44 dX11_game_47 dX11_game_50 ?_
            exact hy
          · exact absurd rfl h32
        · refine b_iconst (v := 1) dX11_game_23 (by decide +kernel) ?_
          refine b_goto (tgt := 28) dX11_game_24 (by decide) ?_
          refine b_istore (lv' := [(0, _), (1, _), (2, _), (3, _), (4, _)]) dX11_game_28 (by decide) rfl rfl ?_
          refine b_iload dX11_game_30 rfl ?_
          refine b_if_eq (tgt := 40) dX11_game_32 (by decide) (fun h32 => ?_) (fun h32 => ?_)
          · exact absurd h32 (by decide)
          · refine b_iload_n dX11_game_35 rfl rfl ?_
            refine b_iload_n dX11_game_36 rfl rfl ?_
            refine b_icmp_ne (tgt := 51) dX11_game_37 (by decide) (fun h37 => ?_) (fun h37 => ?_)
            · have hz : inB h.toInt 0 3 = true ∧ inB o.toInt 0 3 = true ∧ ¬ h = o := ⟨in_ok (m := 3) rfl h6 (lt_le (n := 3) (by decide) (by decide) (Int32.not_le.mp h11)), in_ok (m := 3) rfl h15 (lt_le (n := 3) (by decide) (by decide) (Int32.not_le.mp h20)), h37⟩
              rw [gamM_0 hw hz] at hq
              refine b_aload_n dX11_game_51 rfl rfl ?_
              refine b_getR (b := 77) lf_X11_75 rfl rfl dX11_game_52 ?_
              refine b_aload_n dX11_game_55 rfl rfl ?_
              refine b_getD lf_X11_26 rfl h0 (town_31 ht) dX11_game_56 ?_
              refine b_aload_n dX11_game_59 rfl rfl ?_
              refine b_getR (b := 31) lf_X11_33 rfl rfl dX11_game_60 ?_
              refine b_iload_n dX11_game_63 rfl rfl ?_
              refine b_iload_n dX11_game_64 rfl rfl ?_
              refine b_callV (As := [_, _, _, _]) (st := []) dX11_game_65 lk_X11_360 lm_X2_gather lv_X2_gather rfl (by decide) rfl rfl rfl (Nat.le_of_ble_eq_true rfl) (Nat.le_refl _) (by decide) ?_
              refine c_X2_gather ht hR hT (fun h1 F1 g1 g2 g3 g4 => ?_)
              have gm : GM h1 T S h o := ⟨g1, g2, g3, g4⟩
              have hR1 : RLf h1 31 T (-1) S := hR.cg (fun k hk => F1 _ (by omega) (by omega) (by omega))
              have hT1 : RTn h1 t T := hT.fa ht (fun y y1 y2 _ => F1 y (by omega) (by omega) (by omega))
              refine b_aload_n dX11_game_68 rfl rfl ?_
              refine b_getR (b := 77) lf_X11_75 rfl rfl dX11_game_69 ?_
              refine b_aload_n dX11_game_72 rfl rfl ?_
              refine b_getD lf_X11_26 rfl (by rw [F1 0 (by decide) (by decide) (by decide)]; exact h0) (town_31 ht) dX11_game_73 ?_
              refine b_aload_n dX11_game_76 rfl rfl ?_
              refine b_getR (b := 31) lf_X11_33 rfl rfl dX11_game_77 ?_
              refine b_aload_n dX11_game_80 rfl rfl ?_
              refine b_getR (b := 41) lf_X11_62 rfl rfl dX11_game_81 ?_
              refine b_callV (As := [_, _, _]) (st := []) dX11_game_84 lk_X11_364 lm_X2_tryAll lv_X2_tryAll rfl (by decide) rfl rfl rfl (Nat.le_of_ble_eq_true rfl) (Nat.le_refl _) (by decide) ?_
              refine c_X2_tryAll ht hR1 hT1 oT oL.2.2.1 gm (fun h2 F2 gg => ?_)
              have gm2 := F2.gm ht gm
              have FCx : FC g h2 := fun y hy => by
                unfold scC at hy
                rw [F2 y (by omega) (by omega) (by omega) (by omega), F1 y (by omega) (by omega) (by omega)]
              refine b_iload_n dX11_game_87 rfl rfl ?_
              refine b_if_ne (tgt := 101) dX11_game_88 (by decide) (fun h88 => ?_) (fun h88 => ?_)
              · refine b_aload_n dX11_game_101 rfl rfl ?_
                refine b_getR (b := 77) lf_X11_75 rfl rfl dX11_game_102 ?_
                refine b_callV (As := []) (st := []) dX11_game_105 lk_X11_371 lm_X2_firstResting lv_X2_firstResting rfl (by decide) rfl rfl rfl (Nat.le_of_ble_eq_true rfl) (Nat.le_refl _) (by decide) ?_
                refine c_X2_firstResting hT.le gm2 gg (gmL_le oT oL.1) ?_
                refine b_iret rfl (by decide) dX11_game_108 ?_
                have hq := hq h2 FCx rfl
                rw [if_neg h88] at hq
                exact hq
              · refine b_aload_n dX11_game_91 rfl rfl ?_
                refine b_getR (b := 77) lf_X11_75 rfl rfl dX11_game_92 ?_
                refine b_callV (As := []) (st := []) dX11_game_95 lk_X11_368 lm_X2_resting lv_X2_resting rfl (by decide) rfl rfl rfl (Nat.le_of_ble_eq_true rfl) (Nat.le_refl _) (by decide) ?_
                refine c_X2_resting hT.le gm2 gg (gmL_le oT oL.1) ?_
                refine b_goto (tgt := 108) dX11_game_98 (by decide) ?_
                refine b_iret rfl (by decide) dX11_game_108 ?_
                have hq := hq h2 FCx rfl
                rw [if_pos h88] at hq
                exact hq
            · have hz : ¬ (inB h.toInt 0 3 = true ∧ inB o.toInt 0 3 = true ∧ ¬ h = o) := fun q => q.2.2 h37
              have hy := hy g (FC.rf g) (by rw [gamM_2 hw hz])
              refine b_throwW (text := "no two houses") (n := 40) rfl th_iae (by decide +kernel) (by omega) (by decide) (by decide) dX11_game_40 dX11_game_43 dX11_game_44 dX11_game_47 dX11_game_50 ?_
              exact hy
