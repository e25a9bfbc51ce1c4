/-! the tape -/
theorem and255 (x : Int32) : ∃ b, b < 256 ∧ x &&& 255 = nI b := by
  refine ⟨(x &&& 255).toBitVec.toNat, ?_, ?_⟩
  · rw [Int32.toBitVec_and, BitVec.toNat_and]
    exact Nat.lt_of_le_of_lt Nat.and_le_right (by decide)
  · apply Int32.toBitVec_inj.mp
    show _ = BitVec.ofNat 32 _
    rw [BitVec.ofNat_toNat, BitVec.setWidth_eq]
/-- the k-th byte of a word -/
def byF (x : Int32) (k : Nat) : Nat := ((x >>> (nI (24 - 8 * k) &&& 31)) &&& 255).toBitVec.toNat
theorem byF_s (x : Int32) (k : Nat) : byF x k < 256 ∧ (x >>> (nI (24 - 8 * k) &&& 31)) &&& 255 = nI (byF x k) := by
  unfold byF
  generalize x >>> (nI (24 - 8 * k) &&& 31) = y
  refine ⟨?_, ?_⟩
  · rw [Int32.toBitVec_and, BitVec.toNat_and]
    exact Nat.lt_of_le_of_lt Nat.and_le_right (by decide)
  · apply Int32.toBitVec_inj.mp
    show _ = BitVec.ofNat 32 _
    rw [BitVec.ofNat_toNat, BitVec.setWidth_eq]
theorem i2b_255 (x : Int32) : x.toInt8 = (x &&& 255).toInt8 := by
  apply Int8.toBitVec_inj.mp
  show x.toBitVec.signExtend 8 = (x &&& 255).toBitVec.signExtend 8
  refine BitVec.eq_of_getLsbD_eq (fun i hi => ?_)
  rw [BitVec.getLsbD_signExtend, BitVec.getLsbD_signExtend, if_pos (by omega), if_pos (by omega)]
  have h1 := b_and x 255 i
  rw [b_255, decide_eq_true hi, Bool.and_true] at h1
  unfold bt at h1
  rw [h1]
theorem i2b_n : ∀ b, b < 256 → vp_nar .byte ((nI b).toInt8.toInt32) = bSg b := by decide +kernel
theorem i2b_by (x : Int32) (k : Nat) : vp_nar .byte ((x >>> (nI (24 - 8 * k) &&& 31)).toInt8.toInt32) = bSg (byF x k) := by
  obtain ⟨h1, h2⟩ := byF_s x k
  rw [i2b_255, h2, i2b_n _ h1]
def shv (k : Nat) : Int32 := if k < 4 then nI (24 - 8 * k) else -8
theorem shv_s {k : Nat} (h : k < 4) : shv k + Int32.ofInt (-8) = shv (k + 1) := by
  have h : k = 0 ∨ k = 1 ∨ k = 2 ∨ k = 3 := by omega
  rcases h with rfl | rfl | rfl | rfl <;> decide +kernel
def fdF (f : Nat → Nat) (m : Nat) (x : Int32) (i : Nat) : Nat := if i < m then f i else byF x (i - m)
def fd5 (f : Nat → Nat) (m : Nat) (a b c e x : Int32) : Nat → Nat := fdF (fdF (fdF (fdF (fdF f m a) (m + 4) b) (m + 8) c) (m + 12) e) (m + 16) x
/-- the class's tape -/
def RTp (g : G2) (m : Nat) (f : Nat → Nat) : Prop := g 3 1 = nI m ∧ ∀ i, i < m → f i < 256 ∧ g 4 i = bSg (f i)
theorem RTp.four {g h : G2} {m : Nat} {f : Nat → Nat} {x : Int32} (hT : RTp g m f) (h1 : ∀ y, y ≠ 3 → y ≠ 4 → h y = g y) (h2 : ∀ j, j ≠ 1 → h 3 j = g 3 j) (h3 : h 3 1 = nI (m + 4)) (h4 : ∀ j, j < m → h 4 j = g 4 j) (h5 : ∀ j, j < 4 → h 4 (m + j) = bSg (byF x j)) : RTp h (m + 4) (fdF f m x) := by
  refine ⟨h3, fun i hi => ?_⟩
  unfold fdF
  by_cases q : i < m
  · rw [if_pos q, h4 i q]; exact hT.2 i q
  · rw [if_neg q]
    refine ⟨(byF_s x _).1, ?_⟩
    have := h5 (i - m) (by omega)
    rw [show m + (i - m) = i by omega] at this
    exact this
theorem c_X9_addFour {E : En} {d : Nat} {Q : QT} {X : XT} {g : G2} {m : Nat} {x : Int32} (h31 : g 3 1 = nI m) (hm : m + 4 ≤ 600) (hq : ∀ h, (∀ y, y ≠ 3 → y ≠ 4 → h y = g y) → (∀ j, j ≠ 1 → h 3 j = g 3 j) → h 3 1 = nI (m + 4) → (∀ j, j < m → h 4 j = g 4 j) → (∀ j, j < 4 → h 4 (m + j) = bSg (byF x j)) → Q none h) : M E md_X9_addFour d [.ref 3, .int x] g Q X := by
  refine M.of _ rfl rfl (Nat.le_of_ble_eq_true rfl) ?_
  have L : ∀ k, k ≤ 4 → ∀ h : G2, (∀ y, y ≠ 3 → y ≠ 4 → h y = g y) → (∀ j, j ≠ 1 → h 3 j = g 3 j) → h 3 1 = nI (m + k) → (∀ j, j < m → h 4 j = g 4 j) → (∀ j, j < k → h 4 (m + j) = bSg (byF x j)) → B E md_X9_addFour d Q X 3 [(0, .ref 3), (1, .int x), (2, .int (shv k))] [] h 0 := by
    refine lp_up (fun k hk4 ih h q1 q2 q3 q4 q5 => ?_)
    by_cases hk : k < 4
    · skip
      refine b_iload_n dX9_addFour_3 rfl rfl ?_
      refine b_if_lt (tgt := 46) dX9_addFour_4 (by decide) (fun h4 => ?_) (fun h4 => ?_)
      · exact absurd h4 (by rw [show shv k = nI (24 - 8 * k) from if_pos hk]; exact nI_pos (by omega))
      · refine b_aload_n dX9_addFour_7 rfl rfl ?_
        refine b_getI lf_X9_15 rfl dX9_addFour_8 ?_
        refine b_topE (q3) ?_
        refine b_sipush (v := 600) dX9_addFour_11 (by decide +kernel) ?_
        refine b_icmp_ge (tgt := 40) dX9_addFour_14 (by decide) (fun h14 => ?_) (fun h14 => ?_)
        · have e14 : 600 ≤ (m + k) := nn_le (a := 600) (b := (m + k)) (by omega) (by omega) h14
          exact absurd e14 (by omega)
        · have e14 : (m + k) < 600 := nn_nle (a := 600) (b := (m + k)) (by omega) (by omega) h14
          refine b_aload_n dX9_addFour_17 rfl rfl ?_
          refine b_getR (b := 4) lf_X9_9 rfl rfl dX9_addFour_18 ?_
          refine b_aload_n dX9_addFour_21 rfl rfl ?_
          refine b_getI lf_X9_15 rfl dX9_addFour_22 ?_
          refine b_topE (q3) ?_
          refine b_iload_n dX9_addFour_25 rfl rfl ?_
          refine b_iload_n dX9_addFour_26 rfl rfl ?_
          refine b_ishr dX9_addFour_27 ?_
          refine b_i2b dX9_addFour_28 rfl ?_
          refine b_bstN (j := m + k) dX9_addFour_29 (rfl) (by show _ < 600; omega) ?_
          refine b_aload_n dX9_addFour_30 rfl rfl ?_
          refine b_dup dX9_addFour_31 rfl ?_
          refine b_getI lf_X9_15 rfl dX9_addFour_32 ?_
          refine b_topE (y := nI (m + k)) (by rw [up2_a _ _ _ _ (by decide)]; exact q3) ?_
          refine b_iconst (v := 1) dX9_addFour_35 (by decide +kernel) ?_
          refine b_iadd dX9_addFour_36 ?_
          refine b_topE (nI_add (m + k) 1) ?_
          refine b_putI lf_X9_15 lp_9_1 rfl dX9_addFour_37 ?_
          refine b_iinc (v := shv (k + 1)) (lv' := [(0, _), (1, _), (2, _)]) dX9_addFour_40 rfl (shv_s hk) (by decide) rfl rfl ?_
          refine b_goto (tgt := 3) dX9_addFour_43 (by decide) ?_
          refine ih (k + 1) (by omega) (by omega) _ (fun y a b => by rw [up2_f _ _ _ _ a, up2_f _ _ _ _ b]; exact q1 y a b) (fun j a => by rw [up2_k _ _ _ _ a, up2_a _ _ _ _ (by decide)]; exact q2 j a) (up2_s _ _ _ _) (fun j a => by rw [up2_a _ _ _ _ (by decide), up2_k _ _ _ _ (by omega)]; exact q4 j a) (fun j a => ?_)
          rw [up2_a _ _ _ _ (by decide)]
          by_cases z : j = k
          · rw [z, up2_s, show shv k = nI (24 - 8 * k) from if_pos hk]; exact i2b_by x k
          · rw [up2_k _ _ _ _ (by omega)]; exact q5 j (by omega)
    · have hk : k = 4 := by omega
      subst hk
      refine b_iload_n dX9_addFour_3 rfl rfl ?_
      refine b_if_lt (tgt := 46) dX9_addFour_4 (by decide) (fun h4 => ?_) (fun h4 => ?_)
      · refine b_vret rfl (by decide) dX9_addFour_46 ?_
        exact hq _ q1 q2 q3 q4 q5
      · exact absurd (by decide +kernel) h4
  refine b_bipush (v := 24) dX9_addFour_0 (by decide +kernel) ?_
  refine b_istore_n (lv' := [(0, _), (1, _), (2, _)]) dX9_addFour_2 rfl (by decide) rfl rfl ?_
  exact L 0 (by decide) g (fun _ _ _ => rfl) (fun _ _ => rfl) h31 (fun _ _ => rfl) (fun j a => absurd a (Nat.not_lt_zero _))
theorem c_X11_feed {E : En} {d : Nat} {Q : QT} {X : XT} {g : G2} {f : Nat → Nat} {m : Nat} {a b c e x : Int32} (hT : RTp g m f) (hm : m ≤ 600) (hq0 : 600 < m + 20 → Q (some (.int (-1))) g) (hq1 : m + 20 ≤ 600 → ∀ h, (∀ y, y ≠ 3 → y ≠ 4 → h y = g y) → (∀ j, j ≠ 1 → h 3 j = g 3 j) → RTp h (m + 20) (fd5 f m a b c e x) → Q (some (.int (nI (m + 20)))) h) : M E md_X11_feed (d + 1) [.ref 0, .int a, .int b, .int c, .int e, .int x] g Q X := by
  refine M.of _ rfl rfl (Nat.le_of_ble_eq_true rfl) ?_
  refine b_aload_n dX11_feed_0 rfl rfl ?_
  refine b_getR (b := 3) lf_X11_20 rfl rfl dX11_feed_1 ?_
  refine b_getI lf_X11_85 rfl dX11_feed_4 ?_
  refine b_topE (hT.1) ?_
  refine b_bipush (v := 20) dX11_feed_7 (by decide +kernel) ?_
  refine b_iadd dX11_feed_9 ?_
  refine b_topE (nI_add m 20) ?_
  refine b_sipush (v := 600) dX11_feed_10 (by decide +kernel) ?_
  refine b_icmp_le (tgt := 18) dX11_feed_13 (by decide) (fun h13 => ?_) (fun h13 => ?_)
  · have e13 : ((m + 20)) ≤ 600 := nn_le (a := ((m + 20))) (b := 600) (by omega) (by omega) h13
    have c13 : m + 20 ≤ 600 := by omega
    refine b_aload_n dX11_feed_18 rfl rfl ?_
    refine b_getR (b := 3) lf_X11_20 rfl rfl dX11_feed_19 ?_
    refine b_iload_n dX11_feed_22 rfl rfl ?_
    refine b_callV (As := [_]) (st := []) dX11_feed_23 lk_X11_91 lm_X9_addFour lv_X9_addFour rfl (by decide) rfl rfl rfl (Nat.le_of_ble_eq_true rfl) (Nat.le_refl _) (by decide) ?_
    refine c_X9_addFour (m := m) hT.1 (by omega) (fun h1 A1 B1 C1 D1 E1 => ?_)
    have T1 := hT.four A1 B1 C1 D1 E1
    refine b_aload_n dX11_feed_26 rfl rfl ?_
    refine b_getR (b := 3) lf_X11_20 rfl rfl dX11_feed_27 ?_
    refine b_iload_n dX11_feed_30 rfl rfl ?_
    refine b_callV (As := [_]) (st := []) dX11_feed_31 lk_X11_91 lm_X9_addFour lv_X9_addFour rfl (by decide) rfl rfl rfl (Nat.le_of_ble_eq_true rfl) (Nat.le_refl _) (by decide) ?_
    refine c_X9_addFour (m := m + 4) T1.1 (by omega) (fun h2 A2 B2 C2 D2 E2 => ?_)
    have T2 := T1.four A2 B2 C2 D2 E2
    refine b_aload_n dX11_feed_34 rfl rfl ?_
    refine b_getR (b := 3) lf_X11_20 rfl rfl dX11_feed_35 ?_
    refine b_iload_n dX11_feed_38 rfl rfl ?_
    refine b_callV (As := [_]) (st := []) dX11_feed_39 lk_X11_91 lm_X9_addFour lv_X9_addFour rfl (by decide) rfl rfl rfl (Nat.le_of_ble_eq_true rfl) (Nat.le_refl _) (by decide) ?_
    refine c_X9_addFour (m := m + 8) T2.1 (by omega) (fun h3 A3 B3 C3 D3 E3 => ?_)
    have T3 := T2.four A3 B3 C3 D3 E3
    refine b_aload_n dX11_feed_42 rfl rfl ?_
    refine b_getR (b := 3) lf_X11_20 rfl rfl dX11_feed_43 ?_
    refine b_iload dX11_feed_46 rfl ?_
    refine b_callV (As := [_]) (st := []) dX11_feed_48 lk_X11_91 lm_X9_addFour lv_X9_addFour rfl (by decide) rfl rfl rfl (Nat.le_of_ble_eq_true rfl) (Nat.le_refl _) (by decide) ?_
    refine c_X9_addFour (m := m + 12) T3.1 (by omega) (fun h4 A4 B4 C4 D4 E4 => ?_)
    have T4 := T3.four A4 B4 C4 D4 E4
    refine b_aload_n dX11_feed_51 rfl rfl ?_
    refine b_getR (b := 3) lf_X11_20 rfl rfl dX11_feed_52 ?_
    refine b_iload dX11_feed_55 rfl ?_
    refine b_callV (As := [_]) (st := []) dX11_feed_57 lk_X11_91 lm_X9_addFour lv_X9_addFour rfl (by decide) rfl rfl rfl (Nat.le_of_ble_eq_true rfl) (Nat.le_refl _) (by decide) ?_
    refine c_X9_addFour (m := m + 16) T4.1 (by omega) (fun h5 A5 B5 C5 D5 E5 => ?_)
    have T5 := T4.four A5 B5 C5 D5 E5
    refine b_aload_n dX11_feed_60 rfl rfl ?_
    refine b_getR (b := 3) lf_X11_20 rfl rfl dX11_feed_61 ?_
    refine b_getI lf_X11_85 rfl dX11_feed_64 ?_
    refine b_topE (T5.1) ?_
    refine b_iret rfl (by decide) dX11_feed_67 ?_
    exact hq1 c13 h5 (fun y p q => by rw [A5 y p q, A4 y p q, A3 y p q, A2 y p q, A1 y p q]) (fun j p => by rw [B5 j p, B4 j p, B3 j p, B2 j p, B1 j p]) T5
  · have e13 : 600 < ((m + 20)) := nn_nle (a := ((m + 20))) (b := 600) (by omega) (by omega) h13
    refine b_iconst (v := (-1)) dX11_feed_16 (by decide +kernel) ?_
    refine b_iret rfl (by decide) dX11_feed_17 ?_
    exact hq0 (by omega)
