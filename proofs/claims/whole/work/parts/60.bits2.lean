theorem nx_and (a b : Nat) : nI a &&& nI b = nI (a &&& b) := by
  apply Int32.toBitVec_inj.1
  show BitVec.ofNat 32 a &&& BitVec.ofNat 32 b = BitVec.ofNat 32 (a &&& b)
  apply BitVec.eq_of_getLsbD_eq
  intro i hi
  simp [hi]
def ushI (x s : Int32) : Int32 := (x.toUInt32 >>> (s.toUInt32 &&& Int32.toUInt32 31)).toInt32
def bc1 (x : Int32) : Int32 := x - (ushI x 1 &&& 1431655765)
def bc2 (x : Int32) : Int32 := (x &&& 858993459) + (ushI x 2 &&& 858993459)
def bc3 (x : Int32) : Int32 := (x + ushI x 4) &&& 252645135
def bcI (x : Int32) : Int32 := (fun y => (y + ushI y 16) &&& 63) ((fun y => y + ushI y 8) (bc3 (bc2 (bc1 x))))
theorem lx_J6_265 : Cond.constant RJ6 265 (1431655765 : Int32) ∈ lw_g := lw_mem 755 (by decide +kernel) (by decide +kernel)
theorem lx_J6_266 : Cond.constant RJ6 266 (858993459 : Int32) ∈ lw_g := lw_mem 756 (by decide +kernel) (by decide +kernel)
theorem lx_J6_267 : Cond.constant RJ6 267 (252645135 : Int32) ∈ lw_g := lw_mem 757 (by decide +kernel) (by decide +kernel)
theorem c_bitCount {E : En} {d : Nat} {Q : QT} {X : XT} {g : G2} {x : Int32} (hq : Q (some (.int (bcI x))) g) : M E md_J6_bitCount_0f7a4 d [.int x] g Q X := by
  refine M.ofF _ (by decide +kernel) rfl (Nat.le_of_ble_eq_true rfl) ?_
  refine b_iload_n dJ6_bitCount_0f7a4_0 rfl rfl ?_
  refine b_iload_n dJ6_bitCount_0f7a4_1 rfl rfl ?_
  refine b_iconst (v := 1) dJ6_bitCount_0f7a4_2 (by decide +kernel) ?_
  refine b_iushr dJ6_bitCount_0f7a4_3 rfl ?_
  refine b_ldcw lx_J6_265 dJ6_bitCount_0f7a4_4 ?_
  refine b_iand dJ6_bitCount_0f7a4_7 ?_
  refine b_isub dJ6_bitCount_0f7a4_8 ?_
  refine b_istore_n (lv' := [(0, _)]) dJ6_bitCount_0f7a4_9 rfl (by decide) rfl rfl ?_
  refine b_iload_n dJ6_bitCount_0f7a4_10 rfl rfl ?_
  refine b_ldcw lx_J6_266 dJ6_bitCount_0f7a4_11 ?_
  refine b_iand dJ6_bitCount_0f7a4_14 ?_
  refine b_iload_n dJ6_bitCount_0f7a4_15 rfl rfl ?_
  refine b_iconst (v := 2) dJ6_bitCount_0f7a4_16 (by decide +kernel) ?_
  refine b_iushr dJ6_bitCount_0f7a4_17 rfl ?_
  refine b_ldcw lx_J6_266 dJ6_bitCount_0f7a4_18 ?_
  refine b_iand dJ6_bitCount_0f7a4_21 ?_
  refine b_iadd dJ6_bitCount_0f7a4_22 ?_
  refine b_istore_n (lv' := [(0, _)]) dJ6_bitCount_0f7a4_23 rfl (by decide) rfl rfl ?_
  refine b_iload_n dJ6_bitCount_0f7a4_24 rfl rfl ?_
  refine b_iload_n dJ6_bitCount_0f7a4_25 rfl rfl ?_
  refine b_iconst (v := 4) dJ6_bitCount_0f7a4_26 (by decide +kernel) ?_
  refine b_iushr dJ6_bitCount_0f7a4_27 rfl ?_
  refine b_iadd dJ6_bitCount_0f7a4_28 ?_
  refine b_ldcw lx_J6_267 dJ6_bitCount_0f7a4_29 ?_
  refine b_iand dJ6_bitCount_0f7a4_32 ?_
  refine b_istore_n (lv' := [(0, _)]) dJ6_bitCount_0f7a4_33 rfl (by decide) rfl rfl ?_
  refine b_iload_n dJ6_bitCount_0f7a4_34 rfl rfl ?_
  refine b_iload_n dJ6_bitCount_0f7a4_35 rfl rfl ?_
  refine b_bipush (v := 8) dJ6_bitCount_0f7a4_36 (by decide +kernel) ?_
  refine b_iushr dJ6_bitCount_0f7a4_38 rfl ?_
  refine b_iadd dJ6_bitCount_0f7a4_39 ?_
  refine b_istore_n (lv' := [(0, _)]) dJ6_bitCount_0f7a4_40 rfl (by decide) rfl rfl ?_
  refine b_iload_n dJ6_bitCount_0f7a4_41 rfl rfl ?_
  refine b_iload_n dJ6_bitCount_0f7a4_42 rfl rfl ?_
  refine b_bipush (v := 16) dJ6_bitCount_0f7a4_43 (by decide +kernel) ?_
  refine b_iushr dJ6_bitCount_0f7a4_45 rfl ?_
  refine b_iadd dJ6_bitCount_0f7a4_46 ?_
  refine b_istore_n (lv' := [(0, _)]) dJ6_bitCount_0f7a4_47 rfl (by decide) rfl rfl ?_
  refine b_iload_n dJ6_bitCount_0f7a4_48 rfl rfl ?_
  refine b_bipush (v := 63) dJ6_bitCount_0f7a4_49 (by decide +kernel) ?_
  refine b_iand dJ6_bitCount_0f7a4_51 ?_
  refine b_iret rfl (by decide) dJ6_bitCount_0f7a4_52 ?_
  exact hq
def pcF : Nat → Nat → Nat
  | 0, _ => 0
  | k + 1, m => if m = 0 then 0 else pcF k (m &&& (m - 1)) + 1
/-- how many bits -/
def pcN (m : Nat) : Nat := pcF 16 m
theorem bc_tab : ∀ a, a < 128 → ∀ b, b < 128 → bcI (nI (128 * a + b)) = nI (pcN (128 * a + b)) := by decide +kernel
theorem pc_tab : ∀ a, a < 128 → ∀ b, b < 128 → 128 * a + b = 0 ∨ pcN (128 * a + b) = pcN ((128 * a + b) &&& (128 * a + b - 1)) + 1 := by decide +kernel
theorem bc_pc {m : Nat} (h : m < 16384) : bcI (nI m) = nI (pcN m) := by
  have := bc_tab (m / 128) (by omega) (m % 128) (by omega)
  rwa [Nat.div_add_mod] at this
theorem pc_s {m : Nat} (h : m < 16384) (h0 : m ≠ 0) : pcN m = pcN (m &&& (m - 1)) + 1 := by
  have := pc_tab (m / 128) (by omega) (m % 128) (by omega)
  rw [Nat.div_add_mod] at this
  exact this.resolve_left h0
theorem pc_0 : pcN 0 = 0 := rfl
theorem pcF_le : ∀ k m, pcF k m ≤ k
  | 0, _ => Nat.le_refl _
  | k + 1, m => by rw [pcF]; have := pcF_le k (m &&& (m - 1)); split <;> omega
theorem pc_le (m : Nat) : pcN m ≤ 16 := pcF_le 16 m
theorem and_le1 {m : Nat} (h : m ≠ 0) : m &&& (m - 1) < m := Nat.lt_of_le_of_lt Nat.and_le_right (by omega)
theorem c_X12_bitsOf {E : En} {d : Nat} {Q : QT} {X : XT} {g : G2} {m : Nat} (hm : m < 16384) (hq : Q (some (.int (nI (pcN m)))) g) : M E md_X12_bitsOf d [.int (nI m)] g Q X := by
  refine M.of _ rfl rfl (Nat.le_of_ble_eq_true rfl) ?_
  have LP : ∀ m1, m1 < 16384 → ∀ c, c + pcN m1 = pcN m → B E md_X12_bitsOf d Q X 4 [(0, .int (nI m)), (1, .int (nI c)), (2, .int (nI m1))] [] g 0 := by
    refine lp_dn (fun m1 ih h c hc => ?_)
    refine b_iload_n dX12_bitsOf_4 rfl rfl ?_
    refine b_if_eq (tgt := 20) dX12_bitsOf_5 (by decide) (fun h5 => ?_) (fun h5 => ?_)
    · have e5 : m1 = 0 := nI_inj (b := 0) (by omega) (by decide) h5
      subst e5
      refine b_iload_n dX12_bitsOf_20 rfl rfl ?_
      refine b_iret rfl (by decide) dX12_bitsOf_21 ?_
      rw [pc_0, Nat.add_zero] at hc
      rw [hc]
      exact hq
    · have e5 : m1 ≠ 0 := fun q => h5 (by rw [q]; rfl)
      refine b_incN (j := c) (lv' := [(0, _), (1, _), (2, _)]) dX12_bitsOf_8 rfl rfl (by decide) rfl rfl ?_
      refine b_iload_n dX12_bitsOf_11 rfl rfl ?_
      refine b_iload_n dX12_bitsOf_12 rfl rfl ?_
      refine b_iconst (v := 1) dX12_bitsOf_13 (by decide +kernel) ?_
      refine b_isub dX12_bitsOf_14 ?_
      refine b_topE (nI_sub m1 1 (by omega)) ?_
      refine b_iand dX12_bitsOf_15 ?_
      refine b_topE (nx_and m1 (m1 - 1)) ?_
      refine b_istore_n (lv' := [(0, _), (1, _), (2, _)]) dX12_bitsOf_16 rfl (by decide) rfl rfl ?_
      refine b_goto (tgt := 4) dX12_bitsOf_17 (by decide) ?_
      have z := ih (m1 &&& (m1 - 1)) (and_le1 e5) (by have := and_le1 e5; omega) (c + 1) (by rw [pc_s h e5] at hc; omega)
      exact z
  refine b_iconst (v := 0) dX12_bitsOf_0 (by decide +kernel) ?_
  refine b_istore_n (lv' := [(0, _), (1, _)]) dX12_bitsOf_1 rfl (by decide) rfl rfl ?_
  refine b_iload_n dX12_bitsOf_2 rfl rfl ?_
  refine b_istore_n (lv' := [(0, _), (1, _), (2, _)]) dX12_bitsOf_3 rfl (by decide) rfl rfl ?_
  exact LP m hm 0 (Nat.zero_add _)
def mskI (n : Nat) : Int32 := (1 <<< (nI n &&& 31)) - 1
theorem msk_tab : ∀ n, n < 9 → ∀ m, m < 2 ^ n → nI m &&& mskI n = nI m ∧ mskI n &&& (nI m ^^^ (-1)) = nI (2 ^ n - 1 - m) ∧ pcN (2 ^ n - 1 - m) = n - pcN m ∧ pcN m ≤ n := by decide +kernel
theorem sh_tab : ∀ n, n < 9 → (1 : Int32) <<< (nI n &&& 31) = nI (2 ^ n) := by decide +kernel
theorem pow8 {n : Nat} (h : n ≤ 8) : 2 ^ n ≤ 256 := Nat.pow_le_pow_right (by decide) h
