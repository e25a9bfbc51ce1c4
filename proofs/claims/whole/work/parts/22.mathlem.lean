theorem rmI_toInt (x : Int32) : (rmI x 12).toInt = x.toInt.tmod 12 := by
  unfold rmI
  have h12 : (12 : Int32).toInt = 12 := by decide
  have hl := Int32.le_toInt x
  have hu := Int32.toInt_lt x
  have e := Int.tmod_add_mul_tdiv x.toInt 12
  have b1 : x.toInt.tmod 12 < 12 := Int.tmod_lt_of_pos _ (by decide)
  have b2 : -12 < x.toInt.tmod 12 := Int.lt_tmod_of_pos _ (by decide)
  have hd : (x / 12).toInt = x.toInt.tdiv 12 := by
    rw [Int32.toInt_div, h12]
    exact Int.bmod_eq_of_le (by omega) (by omega)
  have hm : (x / 12 * 12).toInt = x.toInt - x.toInt.tmod 12 := by
    rw [Int32.toInt_mul, hd, h12]
    rw [show x.toInt.tdiv 12 * 12 = x.toInt - x.toInt.tmod 12 by omega]
    by_cases h0 : 0 ≤ x.toInt
    · have := Int.tmod_nonneg 12 h0
      exact Int.bmod_eq_of_le (by omega) (by omega)
    · have h1 : x.toInt.tmod 12 ≤ 0 := by
        have := Int.tmod_nonneg 12 (show 0 ≤ -x.toInt by omega)
        rw [Int.neg_tmod] at this
        omega
      exact Int.bmod_eq_of_le (by omega) (by omega)
  rw [Int32.toInt_sub, hm]
  rw [show x.toInt - (x.toInt - x.toInt.tmod 12) = x.toInt.tmod 12 by omega]
  exact Int.bmod_eq_of_le (by omega) (by omega)
theorem xor12 (x : Int32) : x ^^^ 12 < 0 ↔ x < 0 := by
  rw [Int32.lt_iff_toInt_lt, Int32.lt_iff_toInt_lt]
  rw [show (x ^^^ 12).toInt = (x ^^^ 12).toBitVec.toInt from rfl, show x.toInt = x.toBitVec.toInt from rfl, show (0 : Int32).toInt = 0 from by decide]
  have h1 := BitVec.msb_eq_toInt (x := x.toBitVec ^^^ Int32.toBitVec 12)
  have h2 := BitVec.msb_eq_toInt (x := x.toBitVec)
  rw [BitVec.msb_xor, show (Int32.toBitVec 12).msb = false from by decide, Bool.xor_false, h2] at h1
  rw [Int32.toBitVec_xor]
  exact ⟨fun h => of_decide_eq_true (by rw [h1]; exact decide_eq_true h), fun h => of_decide_eq_true (by rw [← h1]; exact decide_eq_true h)⟩
theorem fm12 (x : Int32) : fmI x 12 = byM x := by
  unfold fmI byM
  have e := rmI_toInt x
  have hz : (0 : Int32).toInt = 0 := by decide
  by_cases h0 : x < 0
  · have hx := (Int32.lt_iff_toInt_lt.mp h0)
    rw [hz] at hx
    have h1 : (rmI x 12).toInt ≤ 0 := by
      have := Int.tmod_nonneg 12 (show 0 ≤ -x.toInt by omega)
      rw [Int.neg_tmod] at this
      omega
    by_cases h2 : rmI x 12 = 0
    · rw [if_neg (fun q => q.2 h2), if_neg (by rw [h2]; decide)]
    · rw [if_pos ⟨(xor12 x).mpr h0, h2⟩, if_pos]
      rw [Int32.lt_iff_toInt_lt, hz]
      have : (rmI x 12).toInt ≠ 0 := fun q => h2 (Int32.toInt_inj.mp (by rw [hz]; exact q))
      omega
  · have hx : 0 ≤ x.toInt := by
      have := Int32.not_lt.mp h0
      rw [Int32.le_iff_toInt_le, hz] at this
      exact this
    have h1 : 0 ≤ (rmI x 12).toInt := by rw [e]; exact Int.tmod_nonneg 12 hx
    rw [if_neg (fun q => h0 ((xor12 x).mp q.1)), if_neg]
    rw [Int32.lt_iff_toInt_lt, hz]
    omega
theorem st_eq {k : Int32 → Int32} {ask : Nat → Int32} {x : Int32} {s : List Int32} (hx : okC x) (hl : -20 < trC x → s.length < 64) (hk : k 110 = ask 3 ∧ k 111 = ask 0 ∧ k 112 = ask 1 ∧ k 113 = ask 2 ∧ k 114 = ask 4 ∧ k 115 = ask 5 ∧ k 116 = ask 6) : stC k x s = stM ask (trC x) s := by
  rcases hx with h | rfl | rfl | rfl | rfl | rfl | rfl | rfl | rfl | rfl | rfl | rfl | rfl | rfl | rfl | rfl | rfl
  · have e : trC x = x := by unfold trC; rw [if_pos h]
    have h20 : -20 < trC x := by
      rw [e]
      have h1 := Int32.le_iff_toInt_le.mp h
      rw [Int32.lt_iff_toInt_lt, show (-20 : Int32).toInt = -20 from by decide]
      rw [show (0 : Int32).toInt = 0 from by decide] at h1
      omega
    have hl := hl h20
    rw [e] at h20 ⊢
    unfold stC stM
    rw [if_pos h, if_pos hl, if_pos h20, if_pos h]
  · have e : trC (-110) = -4 := by decide +kernel
    have hl := hl (by decide +kernel)
    rw [e]
    unfold stC stM
    rw [if_neg (by decide), if_pos (by decide), if_pos hl, if_pos (by decide), if_neg (by decide), show -(-110 : Int32) = 110 from by decide, show (-1 - (-4) : Int32).toNatClampNeg = 3 from by decide +kernel]
    rw [hk.1]
  · have e : trC (-111) = -1 := by decide +kernel
    have hl := hl (by decide +kernel)
    rw [e]
    unfold stC stM
    rw [if_neg (by decide), if_pos (by decide), if_pos hl, if_pos (by decide), if_neg (by decide), show -(-111 : Int32) = 111 from by decide, show (-1 - (-1) : Int32).toNatClampNeg = 0 from by decide +kernel]
    rw [hk.2.1]
  · have e : trC (-112) = -2 := by decide +kernel
    have hl := hl (by decide +kernel)
    rw [e]
    unfold stC stM
    rw [if_neg (by decide), if_pos (by decide), if_pos hl, if_pos (by decide), if_neg (by decide), show -(-112 : Int32) = 112 from by decide, show (-1 - (-2) : Int32).toNatClampNeg = 1 from by decide +kernel]
    rw [hk.2.2.1]
  · have e : trC (-113) = -3 := by decide +kernel
    have hl := hl (by decide +kernel)
    rw [e]
    unfold stC stM
    rw [if_neg (by decide), if_pos (by decide), if_pos hl, if_pos (by decide), if_neg (by decide), show -(-113 : Int32) = 113 from by decide, show (-1 - (-3) : Int32).toNatClampNeg = 2 from by decide +kernel]
    rw [hk.2.2.2.1]
  · have e : trC (-114) = -5 := by decide +kernel
    have hl := hl (by decide +kernel)
    rw [e]
    unfold stC stM
    rw [if_neg (by decide), if_pos (by decide), if_pos hl, if_pos (by decide), if_neg (by decide), show -(-114 : Int32) = 114 from by decide, show (-1 - (-5) : Int32).toNatClampNeg = 4 from by decide +kernel]
    rw [hk.2.2.2.2.1]
  · have e : trC (-115) = -6 := by decide +kernel
    have hl := hl (by decide +kernel)
    rw [e]
    unfold stC stM
    rw [if_neg (by decide), if_pos (by decide), if_pos hl, if_pos (by decide), if_neg (by decide), show -(-115 : Int32) = 115 from by decide, show (-1 - (-6) : Int32).toNatClampNeg = 5 from by decide +kernel]
    rw [hk.2.2.2.2.2.1]
  · have e : trC (-116) = -7 := by decide +kernel
    have hl := hl (by decide +kernel)
    rw [e]
    unfold stC stM
    rw [if_neg (by decide), if_pos (by decide), if_pos hl, if_pos (by decide), if_neg (by decide), show -(-116 : Int32) = 116 from by decide, show (-1 - (-7) : Int32).toNatClampNeg = 6 from by decide +kernel]
    rw [hk.2.2.2.2.2.2]
  · have e : trC (-43) = -20 := by decide +kernel
    rw [e]
    unfold stC stM
    rw [if_neg (by decide), if_neg (by decide), if_neg (by decide), if_neg (by decide), if_neg (by decide), show -(-43 : Int32) = 43 from by decide]
    cases s with
    | nil => rfl
    | cons y r =>
      cases r with
      | nil => rfl
      | cons z r => rfl
  · have e : trC (-45) = -21 := by decide +kernel
    rw [e]
    unfold stC stM
    rw [if_neg (by decide), if_neg (by decide), if_neg (by decide), if_neg (by decide), if_neg (by decide), show -(-45 : Int32) = 45 from by decide]
    cases s with
    | nil => rfl
    | cons y r =>
      cases r with
      | nil => rfl
      | cons z r => rfl
  · have e : trC (-42) = -22 := by decide +kernel
    rw [e]
    unfold stC stM
    rw [if_neg (by decide), if_neg (by decide), if_neg (by decide), if_neg (by decide), if_neg (by decide), show -(-42 : Int32) = 42 from by decide]
    cases s with
    | nil => rfl
    | cons y r =>
      cases r with
      | nil => rfl
      | cons z r => rfl
  · have e : trC (-47) = -23 := by decide +kernel
    rw [e]
    unfold stC stM
    rw [if_neg (by decide), if_neg (by decide), if_neg (by decide), if_neg (by decide), if_neg (by decide), show -(-47 : Int32) = 47 from by decide]
    cases s with
    | nil => rfl
    | cons y r =>
      cases r with
      | nil => rfl
      | cons z r => rfl
  · have e : trC (-60) = -24 := by decide +kernel
    rw [e]
    unfold stC stM
    rw [if_neg (by decide), if_neg (by decide), if_neg (by decide), if_neg (by decide), if_neg (by decide), show -(-60 : Int32) = 60 from by decide]
    cases s with
    | nil => rfl
    | cons y r =>
      cases r with
      | nil => rfl
      | cons z r => rfl
  · have e : trC (-61) = -25 := by decide +kernel
    rw [e]
    unfold stC stM
    rw [if_neg (by decide), if_neg (by decide), if_neg (by decide), if_neg (by decide), if_neg (by decide), show -(-61 : Int32) = 61 from by decide]
    cases s with
    | nil => rfl
    | cons y r =>
      cases r with
      | nil => rfl
      | cons z r => rfl
  · have e : trC (-108) = -26 := by decide +kernel
    rw [e]
    unfold stC stM
    rw [if_neg (by decide), if_neg (by decide), if_neg (by decide), if_neg (by decide), if_neg (by decide), show -(-108 : Int32) = 108 from by decide]
    cases s with
    | nil => rfl
    | cons y r =>
      cases r with
      | nil => rfl
      | cons z r => rfl
  · have e : trC (-107) = -27 := by decide +kernel
    rw [e]
    unfold stC stM
    rw [if_neg (by decide), if_neg (by decide), if_neg (by decide), if_neg (by decide), if_neg (by decide), show -(-107 : Int32) = 107 from by decide]
    cases s with
    | nil => rfl
    | cons y r =>
      cases r with
      | nil => rfl
      | cons z r => rfl
  · have e : trC (-109) = -28 := by decide +kernel
    rw [e]
    unfold stC stM
    rw [if_neg (by decide), if_neg (by decide), if_pos rfl, if_neg (by decide), if_pos rfl]
    cases s with
    | nil => rfl
    | cons y r => rfl
/-- a rule's stack never has more than 64 -/
def wfT (T : TD) : Prop := ∀ (ask : Nat → Int32) (k : Nat), k ≤ t_rn T → (evM ask (t_g T 3) k).length ≤ 64
theorem ev_eq {k : Int32 → Int32} {ask : Nat → Int32} {c c2 : Nat → Int32} {n : Nat} (hc : ∀ i, i < n → okC (c i) ∧ trC (c i) = c2 i) (hw : ∀ i, i ≤ n → (evM ask c2 i).length ≤ 64) (hk : k 110 = ask 3 ∧ k 111 = ask 0 ∧ k 112 = ask 1 ∧ k 113 = ask 2 ∧ k 114 = ask 4 ∧ k 115 = ask 5 ∧ k 116 = ask 6) : ∀ i, i ≤ n → evC k c i = evM ask c2 i := by
  intro i
  induction i with
  | zero => intro _; rfl
  | succ i ih =>
    intro hi
    rw [evC, evM, ih (by omega)]
    obtain ⟨h1, h2⟩ := hc i (by omega)
    rw [← h2]
    refine st_eq h1 (fun h20 => ?_) hk
    have h9 := hw (i + 1) hi
    rw [evM, ← h2] at h9
    unfold stM at h9
    rw [if_pos h20, List.length_cons] at h9
    omega
theorem ns_eq {g : G2} {a t : Nat} {T : TD} {sp : Int32} {S : LfS} {p : Nat} (hR : RLf g a T sp S) (hT : RTn g t T) (hw : wfT T) (hp : p < t_n T) : nsC g a t (l_n S) (l_fn S) (t_rn T) p = nsM T sp S p := by
  obtain ⟨r1, r2, r3, r4, r5, r6, r7, r8, r9, r10, r11, r12, r13, r14, r15⟩ := hR
  obtain ⟨q1, q2, q3, q4, q5, q6, q7, q8, q9, q10, q11, q12, q13⟩ := hT
  have ha : g a 6 = l_g S 3 2 := r6 2 (by decide)
  have hk : g a 5 = l_g S 3 1 := r6 1 (by decide)
  have hy : g a 4 = l_g S 3 0 := r6 0 (by decide)
  have hfoe : foeB (g (a + 1)) (g (a + 2)) (g (a + 8)) (g (a + 9)) (l_n S) (l_fn S) (nI p) = foeB (l_g S 0) (l_g S 1) (l_g S 6) (l_g S 7) (l_n S) (l_fn S) (nI p) := by
    unfold foeB
    by_cases h0 : 0 < l_n S
    · rw [r3 _ (by omega), r4 _ (by omega), anyN_cg (P := fdP (g (a + 8)) (g (a + 9)) (nI p) (l_g S 1 (l_n S - 1))) (R := fdP (l_g S 6) (l_g S 7) (nI p) (l_g S 1 (l_n S - 1))) (fun i hi => by unfold fdP; rw [r11 i hi, r12 i hi])]
    · rw [decide_eq_false h0]; rfl
  have hva : vaC g a t (t_rn T) p = vaM T S p := by
    unfold vaC vaM
    rw [q3 p hp, r8 p hp, hk]
    have e1 : evC (vlC g a t p) (g (t + 11)) (t_rn T) = evM (askM T S p) (t_g T 3) (t_rn T) := by
      refine ev_eq q12 (fun i hi => hw _ i hi) ?_ _ (Nat.le_refl _)
      refine ⟨?_, ?_, ?_, ?_, ?_, ?_, ?_⟩
      · exact hk
      · exact hy
      · exact r8 p hp
      · show (if g a 10 = -1 then g a 5 else g a 10) = lasM S
        unfold lasM; rw [r13, hk]
      · exact r7 p hp
      · exact q3 p hp
      · exact r14 p hp
    rw [e1]
  unfold nsC nsM
  rw [ha, hfoe, hva, fm12, q3 p hp, r15 p hp]
  by_cases h0 : 0 < l_n S
  · rw [r3 (l_n S - 1) (by omega)]
  · have e2 : foeB (l_g S 0) (l_g S 1) (l_g S 6) (l_g S 7) (l_n S) (l_fn S) (nI p) = false := by unfold foeB; rw [decide_eq_false h0]; rfl
    rw [e2]
    simp only [Bool.false_eq_true, if_false]
