theorem stpM_c {T : TD} {sp : Int32} {S : LfS} {i c : Nat} (hc : 3 ≤ c) : l_g (stpM T sp S i) c = l_g S c := by
  unfold stpM; split
  · exact addM_c S _ _ hc
  · rfl
theorem stpM_fn {T : TD} {sp : Int32} {S : LfS} {i : Nat} : l_fn (stpM T sp S i) = l_fn S := by unfold stpM; split <;> rfl
theorem addM_pre (S : LfS) (p : Nat) (x : Int32) : preL S (addM S p x) := by
  refine ⟨Nat.le_succ _, fun c hc i hi => ?_⟩
  have : c = 0 ∨ c = 1 ∨ c = 2 := by omega
  rcases this with rfl | rfl | rfl
  · rw [addM_0, if_neg (by omega)]
  · rw [addM_1, if_neg (by omega)]
  · rw [addM_2, if_neg (by omega)]
theorem stpM_pre (T : TD) (sp : Int32) (S : LfS) (i : Nat) : preL S (stpM T sp S i) := by
  unfold stpM; split
  · exact addM_pre S _ _
  · exact preL.rf S
theorem runM_c {T : TD} {sp : Int32} {S : LfS} {c : Nat} (hc : 3 ≤ c) : ∀ i, l_g (runM T sp S i) c = l_g S c
  | 0 => rfl
  | i + 1 => (stpM_c hc).trans (runM_c hc i)
theorem runM_fn {T : TD} {sp : Int32} {S : LfS} : ∀ i, l_fn (runM T sp S i) = l_fn S
  | 0 => rfl
  | i + 1 => stpM_fn.trans (runM_fn i)
theorem runM_pre (T : TD) (sp : Int32) (S : LfS) : ∀ i, preL S (runM T sp S i)
  | 0 => preL.rf S
  | i + 1 => (runM_pre T sp S i).tr (stpM_pre T sp _ i)
theorem yrM_c {T : TD} {sp : Int32} {S : LfS} {c : Nat} (hc : 4 ≤ c) : l_g (yrM T sp S) c = l_g S c := by
  have := runM_c (T := T) (sp := sp) (S := S) (c := c) (by omega) (t_n T)
  rw [← this]; exact up2_f _ _ _ _ (by omega)
theorem yrM_3 {T : TD} {sp : Int32} {S : LfS} {j : Nat} (hj : j ≠ 0) : l_g (yrM T sp S) 3 j = l_g S 3 j := by
  have := runM_c (T := T) (sp := sp) (S := S) (c := 3) (by omega) (t_n T)
  rw [← this]; exact up2_k _ _ _ _ hj
theorem yrM_fn {T : TD} {sp : Int32} {S : LfS} : l_fn (yrM T sp S) = l_fn S := runM_fn (t_n T)
theorem yrM_pre (T : TD) (sp : Int32) (S : LfS) : preL S (yrM T sp S) := by
  have h := runM_pre T sp S (t_n T)
  refine ⟨h.1, fun c hc i hi => (h.2 c hc i hi).trans ?_⟩
  exact (up2_a _ _ _ _ (by omega) _).symm
theorem yrsM_c {T : TD} {sp : Int32} {S : LfS} {c : Nat} (hc : 4 ≤ c) : ∀ k, l_g (yrsM T sp S k) c = l_g S c
  | 0 => rfl
  | k + 1 => (yrM_c hc).trans (yrsM_c hc k)
theorem yrsM_3 {T : TD} {sp : Int32} {S : LfS} {j : Nat} (hj : j ≠ 0) : ∀ k, l_g (yrsM T sp S k) 3 j = l_g S 3 j
  | 0 => rfl
  | k + 1 => (yrM_3 hj).trans (yrsM_3 hj k)
theorem yrsM_fn {T : TD} {sp : Int32} {S : LfS} : ∀ k, l_fn (yrsM T sp S k) = l_fn S
  | 0 => rfl
  | k + 1 => yrM_fn.trans (yrsM_fn k)
theorem yrsM_pre (T : TD) (sp : Int32) (S : LfS) : ∀ k, preL S (yrsM T sp S k)
  | 0 => preL.rf S
  | k + 1 => (yrsM_pre T sp S k).tr (yrM_pre T sp _)
theorem okL.yrs {T : TD} {sp : Int32} {S : LfS} (oT : okT T) (h : okL T S) (k : Nat) : okL T (yrsM T sp S k) := by
  refine ⟨h.1.yrs oT k, fun p hp => ?_, ?_, ?_, by rw [yrsM_fn]; exact h.2.2.2.2⟩
  · rw [yrsM_c (by decide)]; exact h.2.1 p hp
  · rw [yrsM_3 (by decide)]; exact h.2.2.1
  · rw [yrsM_3 (by decide)]; exact h.2.2.2.1
theorem act_years {T : TD} {sp : Int32} {S : LfS} {r : Nat → Int32} {k : Nat} (h4 : l_n S ≤ 400) (r0 : r 0 = 0) (r1 : r 1 = nI (l_n S)) (r2 : r 2 = l_g S 3 0) : actR T r S (yrsM T sp S k) := by
  have hp := yrsM_pre T sp S k
  refine ⟨Or.inl ⟨r0, _, r1, hp.1⟩, ?_⟩
  unfold unM
  rw [if_pos r0, r1, nI_cl (by omega), r2]
  have e : ∀ c i, l_g (l_n S, l_fn (yrsM T sp S k), up2 (l_g (yrsM T sp S k)) 3 0 (l_g S 3 0)) c i = up2 (l_g (yrsM T sp S k)) 3 0 (l_g S 3 0) c i := fun _ _ => rfl
  refine ⟨rfl, yrsM_fn k, fun c hc i hi => ?_, fun j hj => ?_, fun p hp => ⟨?_, ?_⟩, fun i hi => ⟨?_, ?_⟩⟩
  · rw [e, up2_a _ _ _ _ (by omega)]; exact (hp.2 c hc i hi).symm
  · rw [e]
    by_cases e : j = 0
    · subst e; rw [up2_s]
    · rw [up2_k _ _ _ _ e, yrsM_3 e k]
  · rw [e, up2_a _ _ _ _ (by decide), yrsM_c (by decide)]
  · rw [e, up2_a _ _ _ _ (by decide), yrsM_c (by decide)]
  · rw [e, up2_a _ _ _ _ (by decide), yrsM_c (by decide)]
  · rw [e, up2_a _ _ _ _ (by decide), yrsM_c (by decide)]
theorem eqS_set {T : TD} {S : LfS} {j : Nat} {x y : Int32} (h : y = l_g S 3 j) : eqS T (l_n (setS S j x), l_fn (setS S j x), up2 (l_g (setS S j x)) 3 j y) S := by
  have e : ∀ c i, l_g (l_n (setS S j x), l_fn (setS S j x), up2 (l_g (setS S j x)) 3 j y) c i = up2 (up2 (l_g S) 3 j x) 3 j y c i := fun _ _ => rfl
  refine ⟨rfl, rfl, fun c hc i hi => ?_, fun q hq => ?_, fun p hp => ⟨?_, ?_⟩, fun i hi => ⟨?_, ?_⟩⟩
  · rw [e, up2_a _ _ _ _ (by omega), up2_a _ _ _ _ (by omega)]
  · rw [e]
    by_cases e : q = j
    · subst e; rw [up2_s]; exact h
    · rw [up2_k _ _ _ _ e, up2_k _ _ _ _ e]
  · rw [e, up2_a _ _ _ _ (by decide), up2_a _ _ _ _ (by decide)]
  · rw [e, up2_a _ _ _ _ (by decide), up2_a _ _ _ _ (by decide)]
  · rw [e, up2_a _ _ _ _ (by decide), up2_a _ _ _ _ (by decide)]
  · rw [e, up2_a _ _ _ _ (by decide), up2_a _ _ _ _ (by decide)]
theorem setS_j (S : LfS) (j : Nat) (x : Int32) : l_g (setS S j x) 3 j = x := up2_s _ _ _ _
theorem act_away {T : TD} {S : LfS} {r : Nat → Int32} (r0 : r 0 = 1) : actR T r S (setS S 2 (l_g S 3 2 ^^^ sbI (r 1))) := by
  refine ⟨Or.inr (Or.inl r0), ?_⟩
  unfold unM
  rw [if_neg (by rw [r0]; decide), if_pos r0]
  exact eqS_set (by rw [setS_j, xor_back])
theorem act_dies {T : TD} {S : LfS} {r : Nat → Int32} {p : Nat} (hp : p < 8) (r0 : r 0 = 2) (r1 : r 1 = nI p) (hd : btI (l_g S 3 3) (nI p) = 0) : actR T r S (setS S 3 (l_g S 3 3 ||| sbI (nI p))) := by
  refine ⟨Or.inr (Or.inr (Or.inl r0)), ?_⟩
  unfold unM
  rw [if_neg (by rw [r0]; decide), if_neg (by rw [r0]; decide), if_pos r0, r1]
  refine eqS_set ?_
  rw [setS_j, or_back (fun i hi hb => ?_)]
  rw [bt_sb (by omega) hi] at hb
  rw [of_decide_eq_true hb]; exact btI_eq0 (by omega) hd
theorem key_back : ∀ k, k < 12 → rmI (byM (nI k + 7) + 12 - 7) 12 = nI k := by decide +kernel
theorem bt_or3 {a b c : Int32} {p : Nat} (hp : p < 32) (h : (btI (a ||| b ||| c) (nI p) == 0) = true) : bt c p = false := by
  rw [btI_bt hp, b_or, b_or] at h
  cases e : bt c p with
  | false => rfl
  | true => rw [e] at h; simp at h
theorem act_marry {T : TD} {S : LfS} {r : Nat → Int32} {p o : Nat} (hT8 : t_n T ≤ 8) (hp : p < t_n T) (ho : o < t_n T) (hk : ∃ k, k < 12 ∧ l_g S 3 1 = nI k) (r0 : r 0 = 3) (r1 : r 1 = nI p) (r2 : r 2 = nI o) (r3 : r 3 = l_g S 4 o) (hm : mmB (l_g S 3 2 ||| l_g S 3 3 ||| l_g S 3 4) (l_g S 4) p o = true) : actR T r S (wedS S p o) := by
  refine ⟨Or.inr (Or.inr (Or.inr (Or.inl ⟨r0, p, o, hp, ho, r1, r2⟩))), ?_⟩
  unfold unM
  rw [if_neg (by rw [r0]; decide), if_neg (by rw [r0]; decide), if_neg (by rw [r0]; decide), if_pos r0, r1, r2, r3, nI_cl (by omega)]
  unfold mmB at hm
  simp only [Bool.and_eq_true] at hm
  have b1 := bt_or3 (by omega) hm.1.1
  have b2 := bt_or3 (by omega) hm.1.2
  obtain ⟨k, hk, ek⟩ := hk
  refine ⟨rfl, rfl, fun c hc i hi => ?_, fun q hq => ?_, fun q hq => ⟨?_, ?_⟩, fun i hi => ⟨?_, ?_⟩⟩
  · simp only [wedS, l_g, up2]; rw [if_neg (by omega), if_neg (by omega), if_neg (by omega), if_neg (by omega), if_neg (by omega), if_neg (by omega)]
  · rcases lt5 hq with rfl | rfl | rfl | rfl | rfl
    · simp [wedS, l_g, up2]
    · simp [wedS, l_g, up2]; rw [show S.2.2 3 1 = nI k from ek]; exact key_back k hk
    · simp [wedS, l_g, up2]
    · simp [wedS, l_g, up2]
    · show (l_g S 3 4 ||| (sbI (nI p) ||| sbI (nI o))) &&& ((sbI (nI p) ||| sbI (nI o)) ^^^ (-1)) = l_g S 3 4
      refine and_back (fun i hi hb => ?_)
      rw [b_or, bt_sb (by omega) hi, bt_sb (by omega) hi, Bool.or_eq_true] at hb
      rcases hb with hb | hb
      · rw [of_decide_eq_true hb]; exact b1
      · rw [of_decide_eq_true hb]; exact b2
  · by_cases e : q = o
    · subst e; simp [wedS, l_g, up2]
    · simp [wedS, l_g, up2, e]
  · simp [wedS, l_g, up2]
  · simp [wedS, l_g, up2]
  · simp [wedS, l_g, up2]
theorem act_quar {T : TD} {S : LfS} {r : Nat → Int32} {p o : Int32} (r0 : r 0 = 4) : actR T r S (quaS S p o) := by
  refine ⟨Or.inr (Or.inr (Or.inr (Or.inr (Or.inl ⟨r0, Nat.succ_pos _⟩)))), ?_⟩
  unfold unM
  rw [if_neg (by rw [r0]; decide), if_neg (by rw [r0]; decide), if_neg (by rw [r0]; decide), if_neg (by rw [r0]; decide), if_pos r0]
  refine ⟨rfl, rfl, fun c hc i hi => ?_, fun q hq => ?_, fun q hq => ⟨?_, ?_⟩, fun i hi => ⟨?_, ?_⟩⟩
  · simp only [quaS, l_g, up2]; rw [if_neg (by omega), if_neg (by omega)]
  · simp [quaS, l_g, up2]
  · simp [quaS, l_g, up2]
  · simp [quaS, l_g, up2]
  · have hi : i < l_fn S := hi
    simp only [quaS, l_g, up2]; rw [if_neg (by omega), if_neg (by omega)]
  · have hi : i < l_fn S := hi
    simp only [quaS, l_g, up2]; rw [if_neg (by omega), if_neg (by omega)]
theorem ins_rm {f : Nat → Int32} {k n i : Nat} (hk : k < n) (hi : i < n) : insF (rmF f k) k (n - 1) (f k) i = f i := by
  unfold insF rmF
  by_cases e : i = k
  · subst e; rw [if_pos rfl]
  · rw [if_neg e]
    by_cases e2 : k < i ∧ i ≤ n - 1
    · rw [if_pos e2, if_pos (by omega), show i - 1 + 1 = i by omega]
    · rw [if_neg e2, if_neg (by omega)]
theorem act_peace {T : TD} {S : LfS} {r : Nat → Int32} {k : Nat} (hk : k < l_fn S) (h6 : l_fn S ≤ 6) (r0 : r 0 = 5) (r1 : r 1 = nI k) (r2 : r 2 = l_g S 6 k) (r3 : r 3 = l_g S 7 k) : actR T r S (peaS S k) := by
  refine ⟨Or.inr (Or.inr (Or.inr (Or.inr (Or.inr ⟨r0, k, by show k ≤ l_fn S - 1; omega, by show l_fn S - 1 < 6; omega, r1⟩)))), ?_⟩
  unfold unM
  rw [if_neg (by rw [r0]; decide), if_neg (by rw [r0]; decide), if_neg (by rw [r0]; decide), if_neg (by rw [r0]; decide), if_neg (by rw [r0]; decide), r1, r2, r3, nI_cl (by omega)]
  refine ⟨rfl, by show l_fn S - 1 + 1 = l_fn S; omega, fun c hc i hi => ?_, fun q hq => ?_, fun q hq => ⟨?_, ?_⟩, fun i hi => ⟨?_, ?_⟩⟩
  · simp only [peaS, l_g, upA]; rw [if_neg (by omega), if_neg (by omega), if_neg (by omega), if_neg (by omega)]
  · simp [peaS, l_g, upA]
  · simp [peaS, l_g, upA]
  · simp [peaS, l_g, upA]
  · have hi : i < l_fn S - 1 + 1 := hi
    simp [peaS, l_g, upA]; exact ins_rm hk (by omega)
  · have hi : i < l_fn S - 1 + 1 := hi
    simp [peaS, l_g, upA]; exact ins_rm hk (by omega)
