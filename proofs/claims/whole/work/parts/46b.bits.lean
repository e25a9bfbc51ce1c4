/-! bits: the first rows are pasted from kit/laws/BITS.to-paste -/
def bt (x : Int32) (i : Nat) : Bool := x.toBitVec.getLsbD i
theorem b_ext {x y : Int32} (h : ∀ i, i < 32 → bt x i = bt y i) : x = y := Int32.toBitVec_inj.mp (BitVec.eq_of_getLsbD_eq (fun i hi => h i hi))
theorem b_or (x y : Int32) (i : Nat) : bt (x ||| y) i = (bt x i || bt y i) := by unfold bt; rw [Int32.toBitVec_or, BitVec.getLsbD_or]
theorem b_and (x y : Int32) (i : Nat) : bt (x &&& y) i = (bt x i && bt y i) := by unfold bt; rw [Int32.toBitVec_and, BitVec.getLsbD_and]
theorem b_xor (x y : Int32) (i : Nat) : bt (x ^^^ y) i = (bt x i ^^ bt y i) := by unfold bt; rw [Int32.toBitVec_xor, BitVec.getLsbD_xor]
theorem b_big {x : Int32} {i : Nat} (h : 32 ≤ i) : bt x i = false := BitVec.getLsbD_of_ge _ _ h
theorem b_255 (i : Nat) : bt 255 i = decide (i < 8) := by
  rcases Nat.lt_or_ge i 32 with h | h
  · exact (by decide +kernel : ∀ i, i < 32 → bt 255 i = decide (i < 8)) i h
  · rw [b_big h, decide_eq_false (by omega)]
theorem b_65535 (i : Nat) : bt 65535 i = decide (i < 16) := by
  rcases Nat.lt_or_ge i 32 with h | h
  · exact (by decide +kernel : ∀ i, i < 32 → bt 65535 i = decide (i < 16)) i h
  · rw [b_big h, decide_eq_false (by omega)]
theorem b_m1 : ∀ i, i < 32 → bt (-1) i = true := by decide +kernel
theorem b_0 (i : Nat) : bt 0 i = false := BitVec.getLsbD_zero
theorem s_l : ∀ n, n < 32 → ((nI n &&& 31).toBitVec.smod 32).toNat = n := by decide +kernel
theorem s_u : ∀ n, n < 32 → (((nI n).toUInt32 &&& Int32.toUInt32 31).toBitVec % 32).toNat = n := by decide +kernel
theorem b_shl (n : Nat) (hn : n < 32) (x : Int32) {i : Nat} (hi : i < 32) : bt (x <<< (nI n &&& 31)) i = (decide (n ≤ i) && bt x (i - n)) := by
  unfold bt
  rw [Int32.toBitVec_shiftLeft]
  show (x.toBitVec <<< ((nI n &&& 31).toBitVec.smod 32).toNat).getLsbD i = _
  rw [s_l n hn, BitVec.getLsbD_shiftLeft]
  rcases Nat.lt_or_ge i n with h | h
  · simp [h, Nat.not_le.mpr h]
  · simp [hi, h, Nat.not_lt.mpr h]
theorem b_ushr (n : Nat) (hn : n < 32) (x : Int32) (i : Nat) : bt ((x.toUInt32 >>> ((nI n).toUInt32 &&& Int32.toUInt32 31)).toInt32) i = bt x (n + i) := by
  show (x.toUInt32 >>> ((nI n).toUInt32 &&& Int32.toUInt32 31)).toBitVec.getLsbD i = x.toUInt32.toBitVec.getLsbD (n + i)
  rw [UInt32.toBitVec_shiftRight]
  show (x.toUInt32.toBitVec >>> (((nI n).toUInt32 &&& Int32.toUInt32 31).toBitVec % 32).toNat).getLsbD i = _
  rw [s_u n hn, BitVec.getLsbD_ushiftRight]
theorem b_sshr (n : Nat) (hn : n < 32) (x : Int32) {i : Nat} (hi : i < 32) : bt (x >>> (nI n &&& 31)) i = if n + i < 32 then bt x (n + i) else bt x 31 := by
  unfold bt
  rw [Int32.toBitVec_shiftRight]
  show (x.toBitVec.sshiftRight ((nI n &&& 31).toBitVec.smod 32).toNat).getLsbD i = _
  rw [s_l n hn, BitVec.getLsbD_sshiftRight, BitVec.msb_eq_getLsbD_last]
  simp [hi]
theorem b_1 (i : Nat) : bt 1 i = decide (i = 0) := by
  by_cases h : i < 32
  · exact (show ∀ i, i < 32 → bt 1 i = decide (i = 0) from by decide +kernel) i h
  · rw [b_big (by omega), decide_eq_false (by omega)]
theorem bt_sb {p i : Nat} (hp : p < 32) (hi : i < 32) : bt (sbI (nI p)) i = decide (i = p) := by
  unfold sbI
  rw [b_shl p hp 1 hi, b_1]
  by_cases h : i = p
  · subst h; simp
  · by_cases h2 : p ≤ i
    · rw [decide_eq_true h2, decide_eq_false (show ¬ i - p = 0 by omega), decide_eq_false h]; rfl
    · rw [decide_eq_false h2, decide_eq_false h]; rfl
theorem btI_bt {m : Int32} {p : Nat} (hp : p < 32) : (btI m (nI p) == 0) = !bt m p := by
  have h0 : bt (btI m (nI p)) 0 = bt m p := by
    unfold btI
    rw [b_and, b_1, b_sshr p hp m (by decide), if_pos (by omega)]; simp
  rcases btI_01 m (nI p) with h | h
  · rw [h, b_0] at h0
    rw [h, ← h0]; rfl
  · rw [h, b_1] at h0
    rw [h, ← h0]; decide
theorem btI_eq0 {m : Int32} {p : Nat} (hp : p < 32) (h : btI m (nI p) = 0) : bt m p = false := by
  have := btI_bt (m := m) hp
  rw [h] at this
  cases e : bt m p with
  | false => rfl
  | true => rw [e] at this; exact absurd this (by decide)
theorem xor_back (x b : Int32) : (x ^^^ b) ^^^ b = x := by
  refine b_ext (fun i hi => ?_)
  rw [b_xor, b_xor]; cases bt x i <;> cases bt b i <;> rfl
theorem or_back {x b : Int32} (h : ∀ i, i < 32 → bt b i = true → bt x i = false) : (x ||| b) ^^^ b = x := by
  refine b_ext (fun i hi => ?_)
  have := h i hi
  rw [b_xor, b_or]; cases e : bt b i <;> cases e2 : bt x i <;> simp_all
theorem and_back {x b : Int32} (h : ∀ i, i < 32 → bt b i = true → bt x i = false) : (x ||| b) &&& (b ^^^ (-1)) = x := by
  refine b_ext (fun i hi => ?_)
  have := h i hi
  rw [b_and, b_or, b_xor, b_m1 i hi]; cases e : bt b i <;> cases e2 : bt x i <;> simp_all
