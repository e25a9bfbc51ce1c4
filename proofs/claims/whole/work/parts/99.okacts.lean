/-! acts keep what is true of every state -/
theorem okL.cg {T : TD} {S R : LfS} (o : okL T S) (hn : l_n R = l_n S) (h0 : l_g R 0 = l_g S 0) (h1 : l_g R 1 = l_g S 1) (h5 : l_g R 5 = l_g S 5) (hk : ∃ k, k < 12 ∧ l_g R 3 1 = nI k) (hd : ∃ m, m < 2 ^ t_n T ∧ l_g R 3 3 = nI m) (h6 : l_fn R ≤ 6) : okL T R := by
  obtain ⟨⟨a1, a2, a3, a4⟩, a5, -, -, -⟩ := o
  refine ⟨⟨by rw [hn]; exact a1, by rw [hn, h0]; exact a2, by rw [hn, h1]; exact a3, by rw [h5]; exact a4⟩, ?_, hk, hd, h6⟩
  intro p hp
  rw [h5]; exact a5 p hp
theorem preL.cg {S R : LfS} (hn : l_n R = l_n S) (h0 : l_g R 0 = l_g S 0) (h1 : l_g R 1 = l_g S 1) (h2 : l_g R 2 = l_g S 2) : preL S R := by
  refine ⟨Nat.le_of_eq hn.symm, fun c hc i _ => ?_⟩
  have hc : c = 0 ∨ c = 1 ∨ c = 2 := by omega
  rcases hc with rfl | rfl | rfl
  · rw [h0]
  · rw [h1]
  · rw [h2]
theorem okF.yea {T : TD} {F : FS} {n : Int32} (oT : okT T) (h : okF T F) : okF T (yeaM T F n).2.2 := by
  unfold yeaM
  split
  · exact h.push (okL.yrs oT h.S _) (yrsM_pre _ _ _ _)
  · exact h.ref
theorem or_dead : ∀ m, m < 256 → ∀ p, p < 8 → nI m ||| sbI (nI p) = nI (m ||| 2 ^ p) := by decide +kernel
theorem setS_k3 {S : LfS} {j k : Nat} {x : Int32} (h : k ≠ j) : l_g (setS S j x) 3 k = l_g S 3 k := up2_k (l_g S) 3 j x h
theorem setS_s3 {S : LfS} {j : Nat} {x : Int32} : l_g (setS S j x) 3 j = x := up2_s (l_g S) 3 j x
theorem okF.awa {T : TD} {F : FS} {p : Int32} {b : Bool} (h : okF T F) : okF T (awaM T F p b).2.2 := by
  unfold awaM
  split
  · split
    · exact h.ref
    · have o := h.S
      exact h.push (o.cg rfl (setS_c (by decide)) (setS_c (by decide)) (setS_c (by decide)) (by rw [setS_k3 (by decide)]; exact o.2.2.1) (by rw [setS_k3 (by decide)]; exact o.2.2.2.1) o.2.2.2.2) (setS_pre _ _ _)
  · exact h
theorem okF.die {T : TD} {F : FS} {p : Int32} (h8 : t_n T ≤ 8) (h : okF T F) : okF T (dieM T F p).2.2 := by
  unfold dieM
  split
  · rename_i hin
    split
    · exact h.ref
    · have o := h.S
      obtain ⟨q, hq, rfl⟩ := in_nat hin
      obtain ⟨m, hm, em⟩ := o.2.2.2.1
      have hm8 : m < 256 := Nat.lt_of_lt_of_le hm (Nat.pow_le_pow_right (by decide) h8)
      refine h.push (o.cg rfl (setS_c (by decide)) (setS_c (by decide)) (setS_c (by decide)) (by rw [setS_k3 (by decide)]; exact o.2.2.1) ⟨m ||| 2 ^ q, Nat.or_lt_two_pow hm (Nat.pow_lt_pow_right (by decide) hq), ?_⟩ o.2.2.2.2) (setS_pre _ _ _)
      rw [setS_s3, em]
      exact or_dead m hm8 q (by omega)
  · exact h
theorem wedS_31 {S : LfS} {p o : Nat} : l_g (wedS S p o) 3 1 = byM (l_g S 3 1 + 7) := by
  show up2 (up2 (up2 (l_g S) 3 1 (byM (l_g S 3 1 + 7))) 4 o (l_g S 4 p)) 3 4 (l_g S 3 4 ||| (sbI (nI p) ||| sbI (nI o))) 3 1 = _
  rw [up2_k _ _ _ _ (by decide), up2_a _ _ _ _ (by decide), up2_s]
theorem wedS_33 {S : LfS} {p o : Nat} : l_g (wedS S p o) 3 3 = l_g S 3 3 := by
  show up2 (up2 (up2 (l_g S) 3 1 (byM (l_g S 3 1 + 7))) 4 o (l_g S 4 p)) 3 4 (l_g S 3 4 ||| (sbI (nI p) ||| sbI (nI o))) 3 3 = _
  rw [up2_k _ _ _ _ (by decide), up2_a _ _ _ _ (by decide), up2_k _ _ _ _ (by decide)]
theorem okF.mar {T : TD} {F : FS} {p q : Int32} (h : okF T F) : okF T (marM T F p q).2.2 := by
  unfold marM
  split
  · split
    · have o := h.S
      refine h.push (o.cg rfl (wedS_c (by decide) (by decide)) (wedS_c (by decide) (by decide)) (wedS_c (by decide) (by decide)) ?_ ?_ o.2.2.2.2) (wedS_pre _ _ _)
      · obtain ⟨b, hb, eb⟩ := byM_ok (l_g (f_S F) 3 1 + 7)
        refine ⟨b, hb, ?_⟩
        rw [← eb]
        exact wedS_31
      · obtain ⟨m, hm, em⟩ := o.2.2.2.1
        refine ⟨m, hm, ?_⟩
        rw [← em]
        exact wedS_33
    · exact h.ref
  · exact h
theorem okF.qua {T : TD} {F : FS} {p q : Int32} (h : okF T F) : okF T (quaM T F p q).2.2 := by
  unfold quaM
  split
  · split
    · exact h.ref
    · rename_i c
      have o := h.S
      have e : ∀ r, r ≠ 6 → r ≠ 7 → l_g (quaS (f_S F) p q) r = l_g (f_S F) r := fun r a b => by
        show up2 (up2 (l_g (f_S F)) 6 _ p) 7 _ q r = _
        rw [up2_f _ _ _ _ b, up2_f _ _ _ _ a]
      refine h.push (o.cg rfl (e 0 (by decide) (by decide)) (e 1 (by decide) (by decide)) (e 5 (by decide) (by decide)) (by rw [e 3 (by decide) (by decide)]; exact o.2.2.1) (by rw [e 3 (by decide) (by decide)]; exact o.2.2.2.1) ?_) (preL.cg rfl (e 0 (by decide) (by decide)) (e 1 (by decide) (by decide)) (e 2 (by decide) (by decide)))
      show l_fn (f_S F) + 1 ≤ 6
      have : ¬ 6 ≤ l_fn (f_S F) := fun z => c (Or.inr (Or.inr z))
      omega
  · exact h
theorem okF.pea {T : TD} {F : FS} {k : Int32} (h : okF T F) : okF T (peaM F k).2.2 := by
  unfold peaM
  split
  · have o := h.S
    have e : ∀ r, r ≠ 6 → r ≠ 7 → l_g (peaS (f_S F) k.toNatClampNeg) r = l_g (f_S F) r := fun r a b => by
      show upA (upA (l_g (f_S F)) 6 _) 7 _ r = _
      rw [upA_a _ _ _ b, upA_a _ _ _ a]
    refine h.push (o.cg rfl (e 0 (by decide) (by decide)) (e 1 (by decide) (by decide)) (e 5 (by decide) (by decide)) (by rw [e 3 (by decide) (by decide)]; exact o.2.2.1) (by rw [e 3 (by decide) (by decide)]; exact o.2.2.2.1) ?_) (preL.cg rfl (e 0 (by decide) (by decide)) (e 1 (by decide) (by decide)) (e 2 (by decide) (by decide)))
    show l_fn (f_S F) - 1 ≤ 6
    have := o.2.2.2.2
    omega
  · exact h.ref
theorem okF.und {T : TD} {F : FS} (h : okF T F) : okF T (undM F).2.2 := by
  unfold undM
  split
  · exact h
  · exact h.pop (by omega)
