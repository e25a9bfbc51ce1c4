def iaN : String := "java/lang/IllegalArgumentException"
/-- what a question leaves of the model as it was -/
def FD (g h : G2) : Prop := (∀ y, (y < 84 ∨ (85 ≤ y ∧ y ≤ 98) ∨ y = 103 ∨ y = 113 ∨ y = 114 ∨ 119 ≤ y) → h y = g y) ∧ ∀ j, ((15 ≤ j ∧ j ≤ 29) ∨ j = 37 ∨ j = 38 ∨ j = 44 ∨ (58 ≤ j ∧ j ≤ 60)) → h 84 j = g 84 j
theorem FD.rf (g : G2) : FD g g := ⟨fun _ _ => rfl, fun _ _ => rfl⟩
theorem FD.tr {g h k : G2} (h1 : FD g h) (h2 : FD h k) : FD g k := ⟨fun y q => (h2.1 y q).trans (h1.1 y q), fun j q => (h2.2 j q).trans (h1.2 j q)⟩
theorem FD.code {g : G2} (x : Int32) : FD g (up2 g 84 2 x) := ⟨fun y q => up2_f _ _ _ _ (by omega), fun j q => up2_k _ _ _ _ (by omega)⟩
theorem FD.fld {g : G2} (j0 : Nat) (x : Int32) (hj : j0 = 2 ∨ (30 ≤ j0 ∧ j0 ≤ 36) ∨ j0 = 46 ∨ j0 = 47 ∨ j0 = 57) : FD g (up2 g 84 j0 x) := ⟨fun y q => up2_f _ _ _ _ (by omega), fun j q => up2_k _ _ _ _ (by omega)⟩
theorem RMt.fd {g h : G2} {T : TD} (hT : RMt g T) (F : FD g h) : RMt h T := hT.cg (fun z h1 h2 => F.1 z (by omega))
theorem RLf.fc {g h : G2} {T : TD} {sp : Int32} {S : LfS} (hR : RLf g 31 T sp S) (F : FC g h) : RLf h 31 T sp S := hR.cg (fun k hk => F (31 + k) (by unfold scC; omega))
theorem in_rng {x lo hi : Int32} {a b : Nat} (ha : lo.toInt = a) (hb : hi.toInt = b) (h1 : ¬ x < lo) (h2 : ¬ hi < x) : ∃ M, a ≤ M ∧ M ≤ b ∧ x = nI M := by
  rw [Int32.lt_iff_toInt_lt] at h1 h2
  have h3 := hi.toInt_lt
  refine ⟨x.toInt.toNat, by omega, by omega, ?_⟩
  rw [← Int32.toInt_inj, nI_toInt (by omega)]
  omega
theorem inB_lo {x lo : Int32} {a b : Int} (ha : lo.toInt = a) (h : x < lo) : inB x.toInt a b = false := by
  rw [Int32.lt_iff_toInt_lt] at h; unfold inB; exact decide_eq_false (by omega)
theorem inB_hi {x hi : Int32} {a b : Int} (hb : hi.toInt = b) (h : hi < x) : inB x.toInt a b = false := by
  rw [Int32.lt_iff_toInt_lt] at h; unfold inB; exact decide_eq_false (by omega)
theorem inB_nI {M : Nat} {a b : Int} (h1 : a ≤ M) (h2 : M ≤ b) (h3 : M < 2 ^ 31) : inB (nI M).toInt a b = true := by
  rw [nI_toInt h3]; unfold inB; exact decide_eq_true ⟨h1, h2⟩
theorem inB_ex {x : Int32} {a b : Nat} (h : inB x.toInt a b = true) : ∃ M, a ≤ M ∧ M ≤ b ∧ x = nI M := by
  unfold inB at h
  have h2 := of_decide_eq_true h
  have h3 := x.toInt_lt
  refine ⟨x.toInt.toNat, by omega, by omega, ?_⟩
  rw [← Int32.toInt_inj, nI_toInt (by omega)]
  omega
theorem in_64b {x : Int32} {a b : Int64} {a' b' : Int} (ha : a.toInt = a') (hb : b.toInt = b') : inB (x.toInt64).toInt a.toInt b.toInt = inB x.toInt a' b' := by
  rw [Int32.toInt_toInt64, ha, hb]
/-- a told phrase: the i-th sign of the m that V tells -/
def phD (V m i : Nat) : Int32 := nI (V / 13 ^ (m - 1 - i) % 13)
def phOK (v m : Int32) : Bool := inB m.toInt 1 7 && decide (0 ≤ v) && decide (v.toNatClampNeg / 13 ^ m.toNatClampNeg = 0)
theorem phOK_n {V m : Nat} (hV : V < 2 ^ 31) (h1 : 1 ≤ m) (h7 : m ≤ 7) : phOK (nI V) (nI m) = decide (V / 13 ^ m = 0) := by
  unfold phOK; rw [inB_nI (by omega) (by omega) (by omega), decide_eq_true (nI_pos' hV), nI_cl hV, nI_cl (by omega)]; rfl
theorem phOK_m {v m : Int32} (h : inB m.toInt 1 7 = false) : phOK v m = false := by unfold phOK; rw [h]; rfl
theorem phOK_v {v m : Int32} (h : ¬ 0 ≤ v) : phOK v m = false := by unfold phOK; rw [decide_eq_false h]; simp
theorem phOK_ex {v m : Int32} (h : phOK v m = true) : ∃ V M, V < 2 ^ 31 ∧ 1 ≤ M ∧ M ≤ 7 ∧ v = nI V ∧ m = nI M := by
  unfold phOK at h
  simp only [Bool.and_eq_true] at h
  obtain ⟨M, a1, a2, rfl⟩ := inB_ex (a := 1) (b := 7) h.1.1
  obtain ⟨V, b1, rfl⟩ := nI_of (Int32.not_lt.mpr (of_decide_eq_true h.1.2))
  exact ⟨V, M, b1, a1, a2, rfl, rfl⟩
theorem dv_lt {V k : Nat} (h : V < 2 ^ 31) : V / 13 ^ k < 2 ^ 31 := Nat.lt_of_le_of_lt (Nat.div_le_self _ _) h
theorem dv_s {V M j : Nat} (hj : j + 1 ≤ M) : V / 13 ^ (M - (j + 1)) / 13 = V / 13 ^ (M - j) := by
  rw [Nat.div_div_eq_div_mul, show M - j = (M - (j + 1)) + 1 by omega, Nat.pow_succ]
theorem c_X11_spell {E : En} {d : Nat} {Q : QT} {X : XT} {g : G2} {v m : Int32} (hq : ∀ h, phOK v m = true → (∀ y, y ≠ 82 → h y = g y) → (∀ i, i < m.toNatClampNeg → h 82 i = phD v.toNatClampNeg m.toNatClampNeg i) → Q none h) (hx : ∀ h, phOK v m = false → (∀ y, y ≠ 82 → h y = g y) → X iaN h) : M E md_X11_spell (d + 6) [.ref 0, .int v, .int m] g Q X := by
  refine M.of _ rfl rfl (Nat.le_of_ble_eq_true rfl) ?_
  refine b_iload_n dX11_spell_0 rfl rfl ?_
  refine b_iconst (v := 1) dX11_spell_1 (by decide +kernel) ?_
  refine b_icmp_lt (tgt := 15) dX11_spell_2 (by decide) (fun h2 => ?_) (fun h2 => ?_)
  · have hx := hx g (phOK_m (inB_lo (by decide) h2)) (fun _ _ => rfl)
    refine b_throwW (text := "no phrase") (n := 35) rfl th_iae (by decide +kernel) (by omega) (by decide) (by decide) dX11_spell_15 dX11_spell_18 dX11_spell_19 dX11_spell_22 dX11_spell_25 ?_
    exact hx
  · refine b_iload_n dX11_spell_5 rfl rfl ?_
    refine b_bipush (v := 7) dX11_spell_6 (by decide +kernel) ?_
    refine b_icmp_gt (tgt := 15) dX11_spell_8 (by decide) (fun h8 => ?_) (fun h8 => ?_)
    · have hx := hx g (phOK_m (inB_hi (by decide) h8)) (fun _ _ => rfl)
      refine b_throwW (text := "no phrase") (n := 35) rfl th_iae (by decide +kernel) (by omega) (by decide) (by decide) dX11_spell_15 dX11_spell_18 dX11_spell_19 dX11_spell_22 dX11_spell_25 ?_
      exact hx
    · refine b_iload_n dX11_spell_11 rfl rfl ?_
      refine b_if_ge (tgt := 26) dX11_spell_12 (by decide) (fun h12 => ?_) (fun h12 => ?_)
      · obtain ⟨M, h1M, h7M, rfl⟩ := in_rng (a := 1) (b := 7) (by decide) (by decide) h2 h8
        obtain ⟨V, hV, rfl⟩ := nI_of (Int32.not_lt.mpr h12)
        have LP : ∀ j, j ≤ M → ∀ L h, L = V / 13 ^ (M - j) → (∀ y, y ≠ 82 → h y = g y) → (∀ i, j ≤ i → i < M → h 82 i = phD V M i) → B E md_X11_spell (d + 6) Q X 33 [(0, .ref 0), (1, .int (nI V)), (2, .int (nI M)), (3, .int (nI L)), (4, .int (bgI j))] [] h 0 := by
          intro j
          induction j with
          | zero =>
            intro _ L h hL hF hC
            have hL1 : L < 2 ^ 31 := by rw [hL]; exact dv_lt hV
            show B E md_X11_spell (d + 6) Q X 33 [(0, .ref 0), (1, .int (nI V)), (2, .int (nI M)), (3, .int (nI L)), (4, .int (-1))] [] h 0
            refine b_iload dX11_spell_33 rfl ?_
            refine b_if_lt (tgt := 60) dX11_spell_35 (by decide) (fun h35 => ?_) (fun h35 => ?_)
            · have hz : phOK (nI V) (nI M) = decide (L = 0) := by rw [phOK_n hV h1M h7M, hL, Nat.sub_zero]
              refine b_iload_n dX11_spell_60 rfl rfl ?_
              refine b_if_eq (tgt := 75) dX11_spell_61 (by decide) (fun h61 => ?_) (fun h61 => ?_)
              · have e61 : L = 0 := nI_inj (b := 0) (by omega) (by decide) h61
                rw [decide_eq_true e61] at hz
                refine b_vret rfl (by decide) dX11_spell_75 ?_
                exact hq h hz hF (fun i hi => by rw [nI_cl hV, nI_cl (by omega)]; rw [nI_cl (by omega)] at hi; exact hC i (Nat.zero_le _) hi)
              · have e61 : L ≠ 0 := fun q => h61 (by rw [q]; rfl)
                rw [decide_eq_false e61] at hz
                refine b_throwW (text := "a phrase with more signs than told") (n := 36) rfl th_iae (by decide +kernel) (by omega) (by decide) (by decide) dX11_spell_64 dX11_spell_67 dX11_spell_68 dX11_spell_71 dX11_spell_74 ?_
                exact hx h hz hF
            · exact absurd (show (-1 : Int32) < 0 from by decide +kernel) h35
          | succ j ih =>
            intro hj L h hL hF hC
            have hL1 : L < 2 ^ 31 := by rw [hL]; exact dv_lt hV
            show B E md_X11_spell (d + 6) Q X 33 [(0, .ref 0), (1, .int (nI V)), (2, .int (nI M)), (3, .int (nI L)), (4, .int (nI j))] [] h 0
            refine b_iload dX11_spell_33 rfl ?_
            refine b_if_lt (tgt := 60) dX11_spell_35 (by decide) (fun h35 => ?_) (fun h35 => ?_)
            · exact absurd h35 (nI_pos (by omega))
            · refine b_aload_n dX11_spell_38 rfl rfl ?_
              refine b_getR (b := 82) lf_X11_79 rfl rfl dX11_spell_39 ?_
              refine b_iload dX11_spell_42 rfl ?_
              refine b_iload_n dX11_spell_44 rfl rfl ?_
              refine b_bipush (v := 13) dX11_spell_45 (by decide +kernel) ?_
              refine b_irem dX11_spell_47 (by decide +kernel) ?_
              refine b_topE (pk_rem (d := 13) (by omega) (by decide) (by decide)) ?_
              refine b_istN (j := j) dX11_spell_48 (rfl) (by show _ < 7; omega) ?_
              refine b_iload_n dX11_spell_49 rfl rfl ?_
              refine b_bipush (v := 13) dX11_spell_50 (by decide +kernel) ?_
              refine b_idiv dX11_spell_52 (by decide +kernel) ?_
              refine b_topE (pk_div (d := 13) (by omega) (by decide) (by decide)) ?_
              refine b_istore_n (lv' := [(0, _), (1, _), (2, _), (3, _), (4, _)]) dX11_spell_53 rfl (by decide) rfl rfl ?_
              refine b_iinc (v := bgI j) (lv' := [(0, _), (1, _), (2, _), (3, _), (4, _)]) dX11_spell_54 rfl (by cases j with | zero => decide +kernel | succ c => exact pk_m1 c) (by decide) rfl rfl ?_
              refine b_goto (tgt := 33) dX11_spell_57 (by decide) ?_
              refine ih (by omega) (L / 13) _ (by rw [hL]; exact dv_s hj) (fun y hy => by rw [up2_f _ _ _ _ hy]; exact hF y hy) (fun i h1 h2 => ?_)
              by_cases e : i = j
              · subst e
                rw [up2_s, hL, phD, show M - 1 - i = M - (i + 1) by omega]
              · rw [up2_k _ _ _ _ e]; exact hC i (by omega) h2
        refine b_iload_n dX11_spell_26 rfl rfl ?_
        refine b_istore_n (lv' := [(0, _), (1, _), (2, _), (3, _)]) dX11_spell_27 rfl (by decide) rfl rfl ?_
        refine b_iload_n dX11_spell_28 rfl rfl ?_
        refine b_iconst (v := 1) dX11_spell_29 (by decide +kernel) ?_
        refine b_isub dX11_spell_30 ?_
        refine b_topE (y := bgI M) (by cases M with | zero => omega | succ c => exact nI_pred c) ?_
        refine b_istore (lv' := [(0, _), (1, _), (2, _), (3, _), (4, _)]) dX11_spell_31 (by decide) rfl rfl ?_
        refine LP M (Nat.le_refl _) V g (by rw [Nat.sub_self]; simp) (fun _ _ => rfl) (fun i h1 h2 => absurd h2 (by omega))
      · have hx := hx g (phOK_v h12) (fun _ _ => rfl)
        refine b_throwW (text := "no phrase") (n := 35) rfl th_iae (by decide +kernel) (by omega) (by decide) (by decide) dX11_spell_15 dX11_spell_18 dX11_spell_19 dX11_spell_22 dX11_spell_25 ?_
        exact hx
theorem c_X12_tellPhrase {E : En} {d : Nat} {Q : QT} {X : XT} {g : G2} {v m : Int32} (hq : ∀ h b, phOK v m = b → (∀ y, y ≠ 109 → h y = g y) → (b = true → ∀ i, i < m.toNatClampNeg → h 109 i = phD v.toNatClampNeg m.toNatClampNeg i) → Q (some (.int (b2i b))) h) : M E md_X12_tellPhrase (d + 1) [.ref 84, .int v, .int m] g Q X := by
  refine M.of _ rfl rfl (Nat.le_of_ble_eq_true rfl) ?_
  refine b_iload_n dX12_tellPhrase_0 rfl rfl ?_
  refine b_i2l dX12_tellPhrase_1 rfl ?_
  refine b_lconst (v := 1) dX12_tellPhrase_2 (by decide +kernel) ?_
  refine b_ldc2 lx_X12_419 dX12_tellPhrase_3 ?_
  refine b_callS (As := [_, _, _]) (st := []) dX12_tellPhrase_6 lk_X12_168 lm_X12_isIn ls_X12_isIn rfl rfl (Nat.le_of_ble_eq_true rfl) (Nat.le_refl _) (by decide) ?_
  refine c_X12_isIn ?_
  rw [in_64b (a' := 1) (b' := 7) (by decide) (by decide)]
  refine b_if_eq (tgt := 16) dX12_tellPhrase_9 (by decide) (fun h9 => ?_) (fun h9 => ?_)
  · have e9 := b2i_0 h9
    refine b_iconst (v := 0) dX12_tellPhrase_16 (by decide +kernel) ?_
    refine b_zret (Or.inl rfl) rfl (by decide) dX12_tellPhrase_17 ?_
    exact hq g false (phOK_m e9) (fun _ _ => rfl) (fun q => absurd q (by decide))
  · have e9 := b2i_1 h9
    refine b_iload_n dX12_tellPhrase_12 rfl rfl ?_
    refine b_if_ge (tgt := 18) dX12_tellPhrase_13 (by decide) (fun h13 => ?_) (fun h13 => ?_)
    · obtain ⟨M, h1M, h7M, rfl⟩ := inB_ex (a := 1) (b := 7) e9
      obtain ⟨V, hV, rfl⟩ := nI_of (Int32.not_lt.mpr h13)
      have LP : ∀ j, j ≤ M → ∀ L h, L = V / 13 ^ (M - j) → (∀ y, y ≠ 109 → h y = g y) → (∀ i, j ≤ i → i < M → h 109 i = phD V M i) → B E md_X12_tellPhrase (d + 1) Q X 25 [(0, .ref 84), (1, .int (nI V)), (2, .int (nI M)), (3, .int (nI L)), (4, .int (bgI j))] [] h 0 := by
        intro j
        induction j with
        | zero =>
          intro _ L h hL hF hC
          have hL1 : L < 2 ^ 31 := by rw [hL]; exact dv_lt hV
          show B E md_X12_tellPhrase (d + 1) Q X 25 [(0, .ref 84), (1, .int (nI V)), (2, .int (nI M)), (3, .int (nI L)), (4, .int (-1))] [] h 0
          refine b_iload dX12_tellPhrase_25 rfl ?_
          refine b_if_lt (tgt := 52) dX12_tellPhrase_27 (by decide) (fun h27 => ?_) (fun h27 => ?_)
          · have hz : phOK (nI V) (nI M) = decide (L = 0) := by rw [phOK_n hV h1M h7M, hL, Nat.sub_zero]
            refine b_iload_n dX12_tellPhrase_52 rfl rfl ?_
            refine b_if_ne (tgt := 60) dX12_tellPhrase_53 (by decide) (fun h53 => ?_) (fun h53 => ?_)
            · have e53 : L ≠ 0 := fun q => h53 (by rw [q]; rfl)
              rw [decide_eq_false e53] at hz
              refine b_iconst (v := 0) dX12_tellPhrase_60 (by decide +kernel) ?_
              refine b_zret (Or.inl rfl) rfl (by decide) dX12_tellPhrase_61 ?_
              exact hq h false hz hF (fun _ i hi => by rw [nI_cl hV, nI_cl (by omega)]; rw [nI_cl (by omega)] at hi; exact hC i (Nat.zero_le _) hi)
            · have e53 : L = 0 := nI_inj (b := 0) (by omega) (by decide) h53
              rw [decide_eq_true e53] at hz
              refine b_iconst (v := 1) dX12_tellPhrase_56 (by decide +kernel) ?_
              refine b_goto (tgt := 61) dX12_tellPhrase_57 (by decide) ?_
              refine b_zret (Or.inr rfl) rfl (by decide) dX12_tellPhrase_61 ?_
              exact hq h true hz hF (fun _ i hi => by rw [nI_cl hV, nI_cl (by omega)]; rw [nI_cl (by omega)] at hi; exact hC i (Nat.zero_le _) hi)
          · exact absurd (show (-1 : Int32) < 0 from by decide +kernel) h27
        | succ j ih =>
          intro hj L h hL hF hC
          have hL1 : L < 2 ^ 31 := by rw [hL]; exact dv_lt hV
          show B E md_X12_tellPhrase (d + 1) Q X 25 [(0, .ref 84), (1, .int (nI V)), (2, .int (nI M)), (3, .int (nI L)), (4, .int (nI j))] [] h 0
          refine b_iload dX12_tellPhrase_25 rfl ?_
          refine b_if_lt (tgt := 52) dX12_tellPhrase_27 (by decide) (fun h27 => ?_) (fun h27 => ?_)
          · exact absurd h27 (nI_pos (by omega))
          · refine b_aload_n dX12_tellPhrase_30 rfl rfl ?_
            refine b_getR (b := 109) lf_X12_111 rfl rfl dX12_tellPhrase_31 ?_
            refine b_iload dX12_tellPhrase_34 rfl ?_
            refine b_iload_n dX12_tellPhrase_36 rfl rfl ?_
            refine b_bipush (v := 13) dX12_tellPhrase_37 (by decide +kernel) ?_
            refine b_irem dX12_tellPhrase_39 (by decide +kernel) ?_
            refine b_topE (pk_rem (d := 13) (by omega) (by decide) (by decide)) ?_
            refine b_istN (j := j) dX12_tellPhrase_40 (rfl) (by show _ < 7; omega) ?_
            refine b_iload_n dX12_tellPhrase_41 rfl rfl ?_
            refine b_bipush (v := 13) dX12_tellPhrase_42 (by decide +kernel) ?_
            refine b_idiv dX12_tellPhrase_44 (by decide +kernel) ?_
            refine b_topE (pk_div (d := 13) (by omega) (by decide) (by decide)) ?_
            refine b_istore_n (lv' := [(0, _), (1, _), (2, _), (3, _), (4, _)]) dX12_tellPhrase_45 rfl (by decide) rfl rfl ?_
            refine b_iinc (v := bgI j) (lv' := [(0, _), (1, _), (2, _), (3, _), (4, _)]) dX12_tellPhrase_46 rfl (by cases j with | zero => decide +kernel | succ c => exact pk_m1 c) (by decide) rfl rfl ?_
            refine b_goto (tgt := 25) dX12_tellPhrase_49 (by decide) ?_
            refine ih (by omega) (L / 13) _ (by rw [hL]; exact dv_s hj) (fun y hy => by rw [up2_f _ _ _ _ hy]; exact hF y hy) (fun i h1 h2 => ?_)
            by_cases e : i = j
            · subst e
              rw [up2_s, hL, phD, show M - 1 - i = M - (i + 1) by omega]
            · rw [up2_k _ _ _ _ e]; exact hC i (by omega) h2
      refine b_iload_n dX12_tellPhrase_18 rfl rfl ?_
      refine b_istore_n (lv' := [(0, _), (1, _), (2, _), (3, _)]) dX12_tellPhrase_19 rfl (by decide) rfl rfl ?_
      refine b_iload_n dX12_tellPhrase_20 rfl rfl ?_
      refine b_iconst (v := 1) dX12_tellPhrase_21 (by decide +kernel) ?_
      refine b_isub dX12_tellPhrase_22 ?_
      refine b_topE (y := bgI M) (by cases M with | zero => omega | succ c => exact nI_pred c) ?_
      refine b_istore (lv' := [(0, _), (1, _), (2, _), (3, _), (4, _)]) dX12_tellPhrase_23 (by decide) rfl rfl ?_
      refine LP M (Nat.le_refl _) V g (by rw [Nat.sub_self]; simp) (fun _ _ => rfl) (fun i h1 h2 => absurd h2 (by omega))
    · refine b_iconst (v := 0) dX12_tellPhrase_16 (by decide +kernel) ?_
      refine b_zret (Or.inl rfl) rfl (by decide) dX12_tellPhrase_17 ?_
      exact hq g false (phOK_v h13) (fun _ _ => rfl) (fun q => absurd q (by decide))
