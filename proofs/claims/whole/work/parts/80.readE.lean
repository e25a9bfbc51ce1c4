section Rules
variable {E : En} {md : MD} {d : Nat} {Q : QT} {X : XT} {pc : Nat} {lv lv' : List (Nat × Value)} {st : List Value} {g : G2} {k : Nat}
theorem b_ldcSW {idx n : Nat} {tx : String} (hm : (md_own md, idx, tx, n) ∈ strL) (hd : decode (md_cc md) pc = .ok (.ldc_w idx, 3)) (kk : B E md d Q X (pc + 3) lv (.ref (1000 + n) :: st) g k) : B E md d Q X pc lv st g k := by
  intro p l e R s m args below meth c H locs ls C hl hP hS
  have hZ := C.2.2.2.2.2.2.2.2.2.2.2.1.2.2.2.1 _ hm
  intro T hT Y
  obtain ⟨t, a1, b1⟩ := kk p l e R s m args below meth c H locs ls C hl hP hS T hT Y
  exact ⟨t, Y.ldcStringW C.1 C.2.2.2.2.2.1 (text := tx) (a := E.1 (1000 + n)) hZ.1 hZ.2 (g := F0 m pc ls (st.map (cv E))) rfl (by rw [C.2.1]; exact hd) t a1, b1⟩
end Rules
/-! the descent's lengths -/
section Lens
variable {f : Nat → Nat} {n : Nat}
def Len (f : Nat → Nat) (n : Nat) (body : MS → MS) : Prop := (∀ s, s.bad ≠ 0 → body s = s) ∧ ∀ s, s.bad = 0 → okTk n s.t → (body s).bad = 0 → okTk n (body s).t ∧ s.t.pl < (body s).t.pl ∧ (body s).c.length + s.t.pl ≤ s.c.length + (body s).t.pl
theorem Len.part {rE : MS → MS} (hE : Len f n rE) : Len f n (rPart f n rE) := by
  refine ⟨fun s hs => if_neg hs, fun s hb ht h0 => ?_⟩
  unfold rPart at h0 ⊢
  rw [if_pos hb] at h0 ⊢
  by_cases h2 : s.t.k = 2
  · rw [if_pos h2] at h0 ⊢
    by_cases h4 : 4 < s.t.dg
    · rw [if_pos h4, wr_ok hb] at h0; cases h0
    · rw [if_neg h4, layM_ok (s := adv f n s) hb]
      obtain ⟨ht1, hpl⟩ := ht.adv (f := f) (by rw [h2]; decide)
      exact ⟨ht1, hpl, by show s.c.length + 1 + s.t.pl ≤ s.c.length + (nxt f n s.t.af).pl; omega⟩
  · rw [if_neg h2] at h0 ⊢
    by_cases h99 : 99 ≤ s.t.k
    · rw [if_pos h99] at h0 ⊢
      by_cases h110 : 110 ≤ s.t.k
      · rw [if_pos h110, layM_ok hb]
        obtain ⟨ht1, hpl⟩ := ht.adv (f := f) (by omega)
        exact ⟨ht1, hpl, by show s.c.length + 1 + s.t.pl ≤ s.c.length + (nxt f n s.t.af).pl; omega⟩
      · rw [if_neg h110, wr_ok hb] at h0; cases h0
    · rw [if_neg h99] at h0 ⊢
      by_cases h40 : s.t.k = 40
      · have hmk : mkM f n 40 s = adv f n s := by unfold mkM adB; rw [if_pos h40, if_pos hb]
        rw [hmk] at h0 ⊢
        obtain ⟨ht1, hpl⟩ := ht.adv (f := f) (by omega)
        by_cases hb2 : (rE (adv f n s)).bad = 0
        · obtain ⟨q1, q2, q3⟩ := hE.2 (adv f n s) hb ht1 hb2
          by_cases h41 : (rE (adv f n s)).t.k = 41
          · have hmk2 : mkM f n 41 (rE (adv f n s)) = adv f n (rE (adv f n s)) := by unfold mkM adB; rw [if_pos h41, if_pos hb2]
            rw [hmk2]
            obtain ⟨ht3, hpl3⟩ := q1.adv (f := f) (by omega)
            have q2 : (nxt f n s.t.af).pl < (rE (adv f n s)).t.pl := q2
            have q3 : (rE (adv f n s)).c.length + (nxt f n s.t.af).pl ≤ s.c.length + (rE (adv f n s)).t.pl := q3
            refine ⟨ht3, ?_, ?_⟩
            · show s.t.pl < (nxt f n (rE (adv f n s)).t.af).pl; omega
            · show (rE (adv f n s)).c.length + s.t.pl ≤ s.c.length + (nxt f n (rE (adv f n s)).t.af).pl; omega
          · have hmk2 : mkM f n 41 (rE (adv f n s)) = ⟨(rE (adv f n s)).t, 1, (rE (adv f n s)).t.pl, (rE (adv f n s)).c⟩ := by unfold mkM adB; rw [if_neg h41, wr_ok hb2]; rfl
            rw [hmk2] at h0; cases h0
        · have hmk2 : mkM f n 41 (rE (adv f n s)) = rE (adv f n s) := by
            unfold mkM adB wr
            split <;> simp [hb2]
          rw [hmk2] at h0; exact absurd h0 hb2
      · have hmk : mkM f n 40 s = ⟨s.t, 1, s.t.pl, s.c⟩ := by unfold mkM adB; rw [if_neg h40, wr_ok hb]; rfl
        rw [hmk, hE.1 _ (fun e => by cases e)] at h0
        have hmk2 : mkM f n 41 ⟨s.t, 1, s.t.pl, s.c⟩ = ⟨s.t, 1, s.t.pl, s.c⟩ := by
          unfold mkM adB wr
          split <;> rfl
        rw [hmk2] at h0; cases h0
theorem lpW_len {P : Nat → Bool} {body : MS → MS} (hP : ∀ k, P k = true → k ≠ 0) (hB : Len f n body) : ∀ (F : Nat) (s : MS), s.bad = 0 → okTk n s.t → (lpW f n P body F s).bad = 0 → okTk n (lpW f n P body F s).t ∧ s.t.pl ≤ (lpW f n P body F s).t.pl ∧ (lpW f n P body F s).c.length + s.t.pl ≤ s.c.length + (lpW f n P body F s).t.pl := by
  intro F
  induction F with
  | zero => intro s hb ht h0; exact ⟨ht, Nat.le_refl _, Nat.le_refl _⟩
  | succ F ih =>
    intro s hb ht h0
    simp only [lpW] at h0 ⊢
    by_cases hp : P s.t.k = true
    · rw [if_pos ⟨hb, hp⟩] at h0 ⊢
      obtain ⟨ht1, hpl⟩ := ht.adv (f := f) (hP _ hp)
      by_cases hb2 : (body (adv f n s)).bad = 0
      · obtain ⟨q1, q2, q3⟩ := hB.2 (adv f n s) hb ht1 hb2
        rw [layM_ok hb2] at h0 ⊢
        obtain ⟨r1, r2, r3⟩ := ih ((body (adv f n s)).t, (body (adv f n s)).bad, (body (adv f n s)).bp, -(nI s.t.k) :: (body (adv f n s)).c) hb2 q1 h0
        have q2 : (nxt f n s.t.af).pl < (body (adv f n s)).t.pl := q2
        have q3 : (body (adv f n s)).c.length + (nxt f n s.t.af).pl ≤ s.c.length + (body (adv f n s)).t.pl := q3
        have r2 : (body (adv f n s)).t.pl ≤ _ := r2
        have r3 : _ + (body (adv f n s)).t.pl ≤ (body (adv f n s)).c.length + 1 + _ := r3
        exact ⟨r1, by omega, by omega⟩
      · rw [layM_bad hb2, lpW_bad hb2] at h0; exact absurd h0 hb2
    · rw [if_neg (fun q => hp q.2)]; exact ⟨ht, Nat.le_refl _, Nat.le_refl _⟩
theorem Len.lev {P : Nat → Bool} {body : MS → MS} (hP : ∀ k, P k = true → k ≠ 0) (hB : Len f n body) : Len f n (rLev f n P body) := by
  refine ⟨fun s hs => by unfold rLev; rw [hB.1 s hs, lpW_bad hs], fun s hb ht h0 => ?_⟩
  unfold rLev at h0 ⊢
  by_cases hb2 : (body s).bad = 0
  · obtain ⟨q1, q2, q3⟩ := hB.2 s hb ht hb2
    obtain ⟨r1, r2, r3⟩ := lpW_len hP hB 601 _ hb2 q1 h0
    exact ⟨r1, by omega, by omega⟩
  · rw [lpW_bad hb2] at h0; exact absurd h0 hb2
theorem ntL_len : ∀ (F m : Nat) (s : MS), s.bad = 0 → okTk n s.t → (ntL f n F m s).2.bad = 0 → okTk n (ntL f n F m s).2.t ∧ (ntL f n F m s).2.c = s.c ∧ (ntL f n F m s).1 + s.t.pl ≤ m + (ntL f n F m s).2.t.pl
  | 0, m, s, hb, ht, h0 => ⟨ht, rfl, Nat.le_refl _⟩
  | F + 1, m, s, hb, ht, h0 => by
    simp only [ntL] at h0 ⊢
    by_cases hk : s.t.k = 109
    · rw [if_pos ⟨hb, hk⟩] at h0 ⊢
      by_cases h6 : m = 6
      · rw [if_pos h6, wr_ok hb] at h0
        have : adB f n ⟨s.t, 2, s.t.pl, s.c⟩ = ⟨s.t, 2, s.t.pl, s.c⟩ := rfl
        rw [this, ntL_bad (fun e => by cases e)] at h0
        cases h0
      · rw [if_neg h6, show adB f n s = adv f n s from if_pos hb] at h0 ⊢
        obtain ⟨ht1, hpl⟩ := ht.adv (f := f) (by omega)
        obtain ⟨a, b, c⟩ := ntL_len F (m + 1) (adv f n s) hb ht1 h0
        have c : _ + (nxt f n s.t.af).pl ≤ m + 1 + _ := c
        exact ⟨a, b, by omega⟩
    · rw [if_neg (fun q => hk q.2)]; exact ⟨ht, rfl, Nat.le_refl _⟩
theorem P60_0 {k : Nat} (h : P60 k = true) : k ≠ 0 := by rintro rfl; revert h; decide
theorem rTst_len {sum : MS → MS} (hB : Len f n sum) {s : MS} (hb : s.bad = 0) (ht : okTk n s.t) (h0 : (rTst f n sum s).bad = 0) : okTk n (rTst f n sum s).t ∧ s.t.pl ≤ (rTst f n sum s).t.pl ∧ (rTst f n sum s).c.length + s.t.pl ≤ s.c.length + (rTst f n sum s).t.pl := by
  unfold rTst at h0 ⊢
  by_cases hp : P60 s.t.k = true
  · rw [if_pos ⟨hb, hp⟩] at h0 ⊢
    obtain ⟨ht1, hpl⟩ := ht.adv (f := f) (P60_0 hp)
    by_cases hb2 : (sum (adv f n s)).bad = 0
    · obtain ⟨q1, q2, q3⟩ := hB.2 (adv f n s) hb ht1 hb2
      rw [layM_ok hb2]
      have q2 : (nxt f n s.t.af).pl < (sum (adv f n s)).t.pl := q2
      have q3 : (sum (adv f n s)).c.length + (nxt f n s.t.af).pl ≤ s.c.length + (sum (adv f n s)).t.pl := q3
      refine ⟨q1, ?_, ?_⟩
      · show s.t.pl ≤ (sum (adv f n s)).t.pl; omega
      · show (sum (adv f n s)).c.length + 1 + s.t.pl ≤ s.c.length + (sum (adv f n s)).t.pl; omega
    · rw [layM_bad hb2] at h0; exact absurd h0 hb2
  · rw [if_neg (fun q => hp q.2)]; exact ⟨ht, Nat.le_refl _, Nat.le_refl _⟩
theorem rTst_bad {sum : MS → MS} {s : MS} (hb : s.bad ≠ 0) : rTst f n sum s = s := by unfold rTst; rw [if_neg (fun q => hb q.1)]
theorem Len.not {sum : MS → MS} (hB : Len f n sum) : Len f n (rNot f n sum) := by
  refine ⟨fun s hs => ?_, fun s hb ht h0 => ?_⟩
  · unfold rNot; rw [ntL_bad hs]; simp only; rw [hB.1 s hs, rTst_bad hs]; rfl
  · unfold rNot at h0 ⊢
    have hN := ntL_len (f := f) 8 0 s hb ht
    generalize ntL f n 8 0 s = q at hN h0 ⊢
    obtain ⟨m, s1⟩ := q
    simp only at hN h0 ⊢
    by_cases hb1 : s1.bad = 0
    · obtain ⟨a1, a2, a3⟩ := hN hb1
      by_cases hb2 : (sum s1).bad = 0
      · obtain ⟨q1, q2, q3⟩ := hB.2 s1 hb1 a1 hb2
        by_cases hb3 : (rTst f n sum (sum s1)).bad = 0
        · obtain ⟨r1, r2, r3⟩ := rTst_len hB hb2 q1 hb3
          rw [layN_ok hb3]
          refine ⟨r1, ?_, ?_⟩
          · show s.t.pl < (rTst f n sum (sum s1)).t.pl; omega
          · show (List.replicate m (-109) ++ (rTst f n sum (sum s1)).c).length + s.t.pl ≤ s.c.length + (rTst f n sum (sum s1)).t.pl
            rw [List.length_append, List.length_replicate, ← a2]; omega
        · rw [layN_bad hb3] at h0; exact absurd h0 hb3
      · rw [rTst_bad hb2, layN_bad hb2] at h0; exact absurd h0 hb2
    · rw [hB.1 s1 hb1, rTst_bad hb1, layN_bad hb1] at h0; exact absurd h0 hb1
theorem P0_42 (k : Nat) (h : P42 k = true) : k ≠ 0 := by rintro rfl; revert h; decide
theorem P0_43 (k : Nat) (h : P43 k = true) : k ≠ 0 := by rintro rfl; revert h; decide
theorem P0_108 (k : Nat) (h : P108 k = true) : k ≠ 0 := by rintro rfl; revert h; decide
theorem P0_107 (k : Nat) (h : P107 k = true) : k ≠ 0 := by rintro rfl; revert h; decide
theorem rE_len : ∀ a, Len f n (rE f n a)
  | 0 => by
    refine ⟨fun s hs => by simp only [rE]; rw [if_neg hs], fun s hb ht h0 => ?_⟩
    simp only [rE] at h0
    rw [if_pos hb] at h0
    split at h0 <;> (rw [wr_ok hb] at h0; cases h0)
  | a + 1 => by
    have h1 := Len.lev (f := f) (n := n) P0_107 (Len.lev P0_108 (Len.not (Len.lev P0_43 (Len.lev P0_42 (Len.part (rE_len a))))))
    refine ⟨fun s hs => by simp only [rE]; rw [if_neg hs], fun s hb ht h0 => ?_⟩
    simp only [rE] at h0 ⊢
    rw [if_pos hb] at h0 ⊢
    by_cases h : s.t.k = 2 ∨ 99 ≤ s.t.k ∨ s.t.k = 40
    · rw [if_pos h] at h0 ⊢; exact h1.2 s hb ht h0
    · rw [if_neg h, wr_ok hb] at h0; cases h0
end Lens
def ksV (i : Nat) : Nat := [111, 112, 113, 110, 114, 115, 116].getD i 0
theorem ksV_str : ∀ i, i < 7 → ∃ (q : Nat × Nat × List Int32) (w : List Nat), q ∈ strC ∧ q.1 = 4 + i ∧ strW q w ∧ (ksV i, w) ∈ wds := by
  intro i hi
  match i, hi with
  | 0, _ => exact ⟨(4, 4, [121, 101, 97, 114]), [121, 101, 97, 114], by decide +kernel, rfl, ⟨rfl, rfl, by decide, by decide⟩, by decide +kernel⟩
  | 1, _ => exact ⟨(5, 4, [98, 97, 115, 101]), [98, 97, 115, 101], by decide +kernel, rfl, ⟨rfl, rfl, by decide, by decide⟩, by decide +kernel⟩
  | 2, _ => exact ⟨(6, 4, [108, 97, 115, 116]), [108, 97, 115, 116], by decide +kernel, rfl, ⟨rfl, rfl, by decide, by decide⟩, by decide +kernel⟩
  | 3, _ => exact ⟨(7, 3, [107, 101, 121]), [107, 101, 121], by decide +kernel, rfl, ⟨rfl, rfl, by decide, by decide⟩, by decide +kernel⟩
  | 4, _ => exact ⟨(8, 5, [104, 111, 117, 115, 101]), [104, 111, 117, 115, 101], by decide +kernel, rfl, ⟨rfl, rfl, by decide, by decide⟩, by decide +kernel⟩
  | 5, _ => exact ⟨(9, 4, [107, 105, 110, 100]), [107, 105, 110, 100], by decide +kernel, rfl, ⟨rfl, rfl, by decide, by decide⟩, by decide +kernel⟩
  | 6, _ => exact ⟨(10, 4, [115, 117, 110, 103]), [115, 117, 110, 103], by decide +kernel, rfl, ⟨rfl, rfl, by decide, by decide⟩, by decide +kernel⟩
  | m + 7, h => exact absurd h (by omega)
theorem c_X12_whichV {E : En} {d : Nat} {Q : QT} {X : XT} {g : G2} {f : Nat → Nat} {n : Nat} {s : MS} (hR : RMs g f n s) (hy : ∀ i, i < 7 → s.bad = 0 ∧ s.t.k = ksV i → Q (some (.int (nI i))) g) (hn : (∀ i, i < 7 → ¬ (s.bad = 0 ∧ s.t.k = ksV i)) → Q (some (.int (-1))) g) : M E md_X12_which (d + 5) [.ref 84, .ref 86] g Q X := by
  refine M.of _ rfl rfl (Nat.le_of_ble_eq_true rfl) ?_
  have key : ∀ i, i ≤ 7 → (∀ j, j < i → ¬ (s.bad = 0 ∧ s.t.k = ksV j)) → B E md_X12_which (d + 5) Q X 2 [(0, .ref 84), (1, .ref 86), (2, .int (nI i))] [] g 0 := by
    refine lp_up (P := fun i => (∀ j, j < i → ¬ (s.bad = 0 ∧ s.t.k = ksV j)) → B E md_X12_which (d + 5) Q X 2 [(0, .ref 84), (1, .ref 86), (2, .int (nI i))] [] g 0) (fun i hi ih h2 => ?_)
    refine b_iload_n dX12_which_2 rfl rfl ?_
    refine b_aload_n dX12_which_3 rfl rfl ?_
    refine b_slen (n := 7) dX12_which_4 rfl (by decide) ?_
    refine b_icmp_ge (tgt := 26) dX12_which_5 (by decide) (fun h5 => ?_) (fun h5 => ?_)
    · have e5 : 7 ≤ i := nn_le (a := 7) (b := i) (by omega) (by omega) h5
      refine b_iconst (v := (-1)) dX12_which_26 (by decide +kernel) ?_
      refine b_iret rfl (by decide) dX12_which_27 (hn (fun j hj => h2 j (by omega)))
    · have e5 : i < 7 := nn_nle (a := 7) (b := i) (by omega) (by omega) h5
      refine b_aload_n dX12_which_8 rfl rfl ?_
      refine b_aload_n dX12_which_9 rfl rfl ?_
      refine b_iload_n dX12_which_10 rfl rfl ?_
      obtain ⟨q, w, q1, q2, q3, q4⟩ := ksV_str i (by omega)
      refine b_saldN (j := i) dX12_which_11 rfl (by show _ < 7; omega) ?_
      rw [show 1000 + sof 86 + i = 1000 + q.1 from by rw [q2]; show 1000 + 4 + i = 1000 + (4 + i); omega]
      refine b_callV (As := [_]) (st := []) dX12_which_12 lk_X12_228 lm_X12_is lv_X12_is rfl (by decide) rfl rfl rfl (Nat.le_of_ble_eq_true rfl) (Nat.le_refl _) (by decide) ?_
      refine c_X12_is hR q1 q3 q4 ?_
      refine b_if_eq (tgt := 20) dX12_which_15 (by decide) (fun h15 => ?_) (fun h15 => ?_)
      · have e15 := b2i_0 h15
        refine b_incN (j := i) (lv' := [(0, _), (1, _), (2, _)]) dX12_which_20 rfl rfl (by decide) rfl rfl ?_
        refine b_goto (tgt := 2) dX12_which_23 (by decide) ?_
        refine ih (i + 1) (by omega) (by omega) (fun j hj => ?_)
        rcases Nat.lt_or_ge j i with q9 | q9
        · exact h2 j q9
        · rw [show j = i by omega]; exact of_decide_eq_false e15
      · have e15 := b2i_1 h15
        refine b_iload_n dX12_which_18 rfl rfl ?_
        refine b_iret rfl (by decide) dX12_which_19 ?_
        exact hy i (by omega) (of_decide_eq_true e15)
  refine b_iconst (v := 0) dX12_which_0 (by decide +kernel) ?_
  refine b_istore_n (lv' := [(0, _), (1, _), (2, _)]) dX12_which_1 rfl (by decide) rfl rfl ?_
  exact key 0 (Nat.zero_le _) (fun j hj => absurd hj (by omega))
def ksK (i : Nat) : Nat := [100, 101, 102, 103].getD i 0
theorem ksK_str : ∀ i, i < 4 → ∃ (q : Nat × Nat × List Int32) (w : List Nat), q ∈ strC ∧ q.1 = 0 + i ∧ strW q w ∧ (ksK i, w) ∈ wds := by
  intro i hi
  match i, hi with
  | 0, _ => exact ⟨(0, 5, [101, 108, 100, 101, 114]), [101, 108, 100, 101, 114], by decide +kernel, rfl, ⟨rfl, rfl, by decide, by decide⟩, by decide +kernel⟩
  | 1, _ => exact ⟨(1, 5, [99, 104, 105, 108, 100]), [99, 104, 105, 108, 100], by decide +kernel, rfl, ⟨rfl, rfl, by decide, by decide⟩, by decide +kernel⟩
  | 2, _ => exact ⟨(2, 4, [100, 101, 97, 102]), [100, 101, 97, 102], by decide +kernel, rfl, ⟨rfl, rfl, by decide, by decide⟩, by decide +kernel⟩
  | 3, _ => exact ⟨(3, 3, [115, 112, 121]), [115, 112, 121], by decide +kernel, rfl, ⟨rfl, rfl, by decide, by decide⟩, by decide +kernel⟩
  | m + 4, h => exact absurd h (by omega)
theorem c_X12_whichK {E : En} {d : Nat} {Q : QT} {X : XT} {g : G2} {f : Nat → Nat} {n : Nat} {s : MS} (hR : RMs g f n s) (hy : ∀ i, i < 4 → s.bad = 0 ∧ s.t.k = ksK i → Q (some (.int (nI i))) g) (hn : (∀ i, i < 4 → ¬ (s.bad = 0 ∧ s.t.k = ksK i)) → Q (some (.int (-1))) g) : M E md_X12_which (d + 5) [.ref 84, .ref 85] g Q X := by
  refine M.of _ rfl rfl (Nat.le_of_ble_eq_true rfl) ?_
  have key : ∀ i, i ≤ 4 → (∀ j, j < i → ¬ (s.bad = 0 ∧ s.t.k = ksK j)) → B E md_X12_which (d + 5) Q X 2 [(0, .ref 84), (1, .ref 85), (2, .int (nI i))] [] g 0 := by
    refine lp_up (P := fun i => (∀ j, j < i → ¬ (s.bad = 0 ∧ s.t.k = ksK j)) → B E md_X12_which (d + 5) Q X 2 [(0, .ref 84), (1, .ref 85), (2, .int (nI i))] [] g 0) (fun i hi ih h2 => ?_)
    refine b_iload_n dX12_which_2 rfl rfl ?_
    refine b_aload_n dX12_which_3 rfl rfl ?_
    refine b_slen (n := 4) dX12_which_4 rfl (by decide) ?_
    refine b_icmp_ge (tgt := 26) dX12_which_5 (by decide) (fun h5 => ?_) (fun h5 => ?_)
    · have e5 : 4 ≤ i := nn_le (a := 4) (b := i) (by omega) (by omega) h5
      refine b_iconst (v := (-1)) dX12_which_26 (by decide +kernel) ?_
      refine b_iret rfl (by decide) dX12_which_27 (hn (fun j hj => h2 j (by omega)))
    · have e5 : i < 4 := nn_nle (a := 4) (b := i) (by omega) (by omega) h5
      refine b_aload_n dX12_which_8 rfl rfl ?_
      refine b_aload_n dX12_which_9 rfl rfl ?_
      refine b_iload_n dX12_which_10 rfl rfl ?_
      obtain ⟨q, w, q1, q2, q3, q4⟩ := ksK_str i (by omega)
      refine b_saldN (j := i) dX12_which_11 rfl (by show _ < 4; omega) ?_
      rw [show 1000 + sof 85 + i = 1000 + q.1 from by rw [q2]; show 1000 + 0 + i = 1000 + (0 + i); omega]
      refine b_callV (As := [_]) (st := []) dX12_which_12 lk_X12_228 lm_X12_is lv_X12_is rfl (by decide) rfl rfl rfl (Nat.le_of_ble_eq_true rfl) (Nat.le_refl _) (by decide) ?_
      refine c_X12_is hR q1 q3 q4 ?_
      refine b_if_eq (tgt := 20) dX12_which_15 (by decide) (fun h15 => ?_) (fun h15 => ?_)
      · have e15 := b2i_0 h15
        refine b_incN (j := i) (lv' := [(0, _), (1, _), (2, _)]) dX12_which_20 rfl rfl (by decide) rfl rfl ?_
        refine b_goto (tgt := 2) dX12_which_23 (by decide) ?_
        refine ih (i + 1) (by omega) (by omega) (fun j hj => ?_)
        rcases Nat.lt_or_ge j i with q9 | q9
        · exact h2 j q9
        · rw [show j = i by omega]; exact of_decide_eq_false e15
      · have e15 := b2i_1 h15
        refine b_iload_n dX12_which_18 rfl rfl ?_
        refine b_iret rfl (by decide) dX12_which_19 ?_
        exact hy i (by omega) (of_decide_eq_true e15)
  refine b_iconst (v := 0) dX12_which_0 (by decide +kernel) ?_
  refine b_istore_n (lv' := [(0, _), (1, _), (2, _)]) dX12_which_1 rfl (by decide) rfl rfl ?_
  exact key 0 (Nat.zero_le _) (fun j hj => absurd hj (by omega))
