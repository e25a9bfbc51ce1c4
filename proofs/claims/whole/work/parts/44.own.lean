/-- the sign at the left-th place that P names, from place j on, k places -/
def owL (P : Nat → Bool) (f : Nat → Int32) : Nat → Nat → Nat → Nat × Int32
  | 0, _, _ => (1, 0)
  | k + 1, j, l => if P j then (if l = 0 then (0, f j) else owL P f k (j + 1) (l - 1)) else owL P f k (j + 1) l
def cntF (P : Nat → Bool) : Nat → Nat → Nat
  | 0, _ => 0
  | k + 1, j => (if P j then 1 else 0) + cntF P k (j + 1)
theorem cntF_cntN {P : Nat → Bool} : ∀ k j, cntN P (j + k) = cntN P j + cntF P k j
  | 0, j => rfl
  | k + 1, j => by rw [show j + (k + 1) = (j + 1) + k by omega, cntF_cntN k (j + 1), cntN, cntF]; omega
theorem owL_out {P : Nat → Bool} {f : Nat → Int32} : ∀ k j l, cntF P k j ≤ l → owL P f k j l = (1, 0)
  | 0, _, _, _ => rfl
  | k + 1, j, l, h => by
    rw [cntF] at h
    rw [owL]
    by_cases hp : P j = true
    · rw [if_pos hp] at h ⊢
      rw [if_neg (by omega)]
      exact owL_out k (j + 1) (l - 1) (by omega)
    · rw [if_neg hp] at h ⊢
      exact owL_out k (j + 1) l (by omega)
def ownM (T : TD) (S : LfS) (p i : Int32) : Nat × Int32 :=
  if inB p.toInt 0 (t_n T - 1) then (if i < 0 then (1, 0) else owL (fun k => l_g S 1 k == p) (l_g S 0) (l_n S) 0 i.toNatClampNeg) else (1, 0)
theorem ownM_o {T : TD} {S : LfS} {p i : Int32} (h : inB p.toInt 0 (t_n T - 1) = false) : ownM T S p i = (1, 0) := by unfold ownM; rw [h]; rfl
theorem ownM_n {T : TD} {S : LfS} {p i : Int32} (h2 : i < 0) : ownM T S p i = (1, 0) := by unfold ownM; rw [if_pos h2]; simp
theorem ownM_i {T : TD} {S : LfS} {p : Int32} {i : Nat} (h : inB p.toInt 0 (t_n T - 1) = true) (h2 : i < 2 ^ 31) : ownM T S p (nI i) = owL (fun k => l_g S 1 k == p) (l_g S 0) (l_n S) 0 i := by unfold ownM; rw [h, if_pos rfl, if_neg (nI_pos h2), nI_cl h2]
theorem c_X11_own {E : En} {d : Nat} {Q : QT} {X : XT} {g : G2} {t : Nat} (ht : is_town t) (h0 : g 0 2 = nI t) {T : TD} {S : LfS} {sp : Int32} {p i0 : Int32} (hR : RLf g 31 T sp S) (hT : RTn g t T) (hq : ∀ h, FC g h → (ownM T S p i0).1 = 0 → Q (some (.int (ownM T S p i0).2)) h) (hx : ∀ h, FC g h → (ownM T S p i0).1 = 1 → X nsN h) : M E md_X11_own (d + 7) [.ref 0, .int p, .int i0] g Q X := by
  refine M.of _ rfl rfl (Nat.le_of_ble_eq_true rfl) ?_
  refine b_aload_n dX11_own_0 rfl rfl ?_
  refine b_iload_n dX11_own_1 rfl rfl ?_
  refine b_callV (As := [_]) (st := []) dX11_own_2 lk_X11_164 lm_X11_needPerson lv_X11_needPerson rfl (by decide) rfl rfl rfl (Nat.le_of_ble_eq_true rfl) (Nat.le_refl _) (by decide) ?_
  refine c_X11_needPerson ht h0 hT.n hT.le (fun hin => ?_) (fun ho => hx g (FC.rf g) (by rw [ownM_o ho]))
  have h4 := hR.le
  by_cases hneg : i0 < 0
  · refine b_iload_n dX11_own_5 rfl rfl ?_
    refine b_istore_n (lv' := [(0, _), (1, _), (2, _), (3, _)]) dX11_own_6 rfl (by decide) rfl rfl ?_
    refine b_iconst (v := 0) dX11_own_7 (by decide +kernel) ?_
    refine b_istore (lv' := [(0, _), (1, _), (2, _), (3, _), (4, _)]) dX11_own_8 (by decide) rfl rfl ?_
    refine b_iload dX11_own_10 rfl ?_
    refine b_aload_n dX11_own_12 rfl rfl ?_
    refine b_getR (b := 31) lf_X11_33 rfl rfl dX11_own_13 ?_
    refine b_getI lf_X11_140 (life_c is_life31) dX11_own_16 ?_
    refine b_topE (hR.n) ?_
    refine b_icmp_ge (tgt := 64) dX11_own_19 (by decide) (fun h19 => ?_) (fun h19 => ?_)
    · have e19 : (l_n S) ≤ 0 := nn_le (a := (l_n S)) (b := 0) (by omega) (by omega) h19
      refine b_throwN (text := "this person has not so many signs") (is := 290) (n := 38) (nn := 7) rfl (by decide +kernel) (by omega) (by decide) (by decide) dX11_own_64 dX11_own_67 (Or.inr ⟨rfl, dX11_own_68⟩) dX11_own_71 dX11_own_74 ?_
      exact hx g (FC.rf g) (by rw [ownM_n hneg])
    · have e19 : 0 < (l_n S) := nn_nle (a := (l_n S)) (b := 0) (by omega) (by omega) h19
      refine b_iload_n dX11_own_22 rfl rfl ?_
      refine b_if_lt (tgt := 64) dX11_own_23 (by decide) (fun h23 => ?_) (fun h23 => ?_)
      · refine b_throwN (text := "this person has not so many signs") (is := 290) (n := 38) (nn := 7) rfl (by decide +kernel) (by omega) (by decide) (by decide) dX11_own_64 dX11_own_67 (Or.inr ⟨rfl, dX11_own_68⟩) dX11_own_71 dX11_own_74 ?_
        exact hx g (FC.rf g) (by rw [ownM_n hneg])
      · exact absurd hneg h23
  obtain ⟨i, hi, rfl⟩ := nI_of hneg
  have LP : ∀ j, j ≤ l_n S → ∀ l, l < 2 ^ 31 → ownM T S p (nI i) = owL (fun k => l_g S 1 k == p) (l_g S 0) (l_n S - j) j l → B E md_X11_own (d + 7) Q X 10 [(0, .ref 0), (1, .int p), (2, .int (nI i)), (3, .int (nI l)), (4, .int (nI j))] [] g 1 := by
    refine lp_up (fun j hj ih l hl hz => ?_)
    refine b_iload dX11_own_10 rfl ?_
    refine b_aload_n dX11_own_12 rfl rfl ?_
    refine b_getR (b := 31) lf_X11_33 rfl rfl dX11_own_13 ?_
    refine b_getI lf_X11_140 (life_c is_life31) dX11_own_16 ?_
    refine b_topE (hR.n) ?_
    refine b_icmp_ge (tgt := 64) dX11_own_19 (by decide) (fun h19 => ?_) (fun h19 => ?_)
    · have e19 : (l_n S) ≤ j := nn_le (a := (l_n S)) (b := j) (by omega) (by omega) h19
      rw [show l_n S - j = 0 by omega, owL] at hz
      refine b_throwN (text := "this person has not so many signs") (is := 290) (n := 38) (nn := 7) rfl (by decide +kernel) (by omega) (by decide) (by decide) dX11_own_64 dX11_own_67 (Or.inr ⟨rfl, dX11_own_68⟩) dX11_own_71 dX11_own_74 ?_
      exact hx g (FC.rf g) (by rw [hz])
    · have e19 : j < (l_n S) := nn_nle (a := (l_n S)) (b := j) (by omega) (by omega) h19
      refine b_iload_n dX11_own_22 rfl rfl ?_
      refine b_if_lt (tgt := 64) dX11_own_23 (by decide) (fun h23 => ?_) (fun h23 => ?_)
      · exact absurd h23 (nI_pos (by omega))
      · refine b_aload_n dX11_own_26 rfl rfl ?_
        refine b_getR (b := 31) lf_X11_33 rfl rfl dX11_own_27 ?_
        refine b_getR (b := 33) lf_X11_218 (life_c is_life31) (life_r1 is_life31) dX11_own_30 ?_
        refine b_iload dX11_own_33 rfl ?_
        refine b_ildN (j := j) dX11_own_35 (rfl) (by rw [(life_n2 is_life31)]; omega) ?_
        refine b_iload_n dX11_own_36 rfl rfl ?_
        refine b_icmp_ne (tgt := 58) dX11_own_37 (by decide) (fun h37 => ?_) (fun h37 => ?_)
        · refine b_incN (j := j) (lv' := [(0, _), (1, _), (2, _), (3, _), (4, _)]) dX11_own_58 rfl rfl (by decide) rfl rfl ?_
          refine b_goto (tgt := 10) dX11_own_61 (by decide) ?_
          refine ih (j + 1) (by omega) (by omega) l hl ?_
          have ek : l_n S - j = (l_n S - (j + 1)) + 1 := by omega
          rw [hz, ek, owL, if_neg (by rw [hR.wh j e19] at h37; simp [h37])]
        · refine b_iload_n dX11_own_40 rfl rfl ?_
          refine b_if_ne (tgt := 55) dX11_own_41 (by decide) (fun h41 => ?_) (fun h41 => ?_)
          · have e41 : l ≠ 0 := fun q => h41 (by rw [q]; rfl)
            refine b_decN (j := l - 1) (lv' := [(0, _), (1, _), (2, _), (3, _), (4, _)]) dX11_own_55 rfl (congrArg nI (by omega)) (by decide) rfl rfl ?_
            refine b_incN (j := j) (lv' := [(0, _), (1, _), (2, _), (3, _), (4, _)]) dX11_own_58 rfl rfl (by decide) rfl rfl ?_
            refine b_goto (tgt := 10) dX11_own_61 (by decide) ?_
            refine ih (j + 1) (by omega) (by omega) (l - 1) (by omega) ?_
            have ek : l_n S - j = (l_n S - (j + 1)) + 1 := by omega
            rw [hz, ek, owL, if_pos (by rw [← hR.wh j e19, h37]; simp), if_neg e41]
          · have e41 : l = 0 := nI_inj (b := 0) (by omega) (by decide) h41
            refine b_aload_n dX11_own_44 rfl rfl ?_
            refine b_getR (b := 31) lf_X11_33 rfl rfl dX11_own_45 ?_
            refine b_getR (b := 32) lf_X11_215 (life_c is_life31) (life_r0 is_life31) dX11_own_48 ?_
            refine b_iload dX11_own_51 rfl ?_
            refine b_ildN (j := j) dX11_own_53 (rfl) (by rw [(life_n1 is_life31)]; omega) ?_
            refine b_iret rfl (by decide) dX11_own_54 ?_
            have ek : l_n S - j = (l_n S - (j + 1)) + 1 := by omega
            rw [ek, owL, if_pos (by rw [← hR.wh j e19, h37]; simp), if_pos e41] at hz
            have hq := hq g (FC.rf g) (by rw [hz])
            rw [hz] at hq
            rw [show g 32 j = l_g S 0 j from hR.sg j e19]
            exact hq
  refine b_iload_n dX11_own_5 rfl rfl ?_
  refine b_istore_n (lv' := [(0, _), (1, _), (2, _), (3, _)]) dX11_own_6 rfl (by decide) rfl rfl ?_
  refine b_iconst (v := 0) dX11_own_7 (by decide +kernel) ?_
  refine b_istore (lv' := [(0, _), (1, _), (2, _), (3, _), (4, _)]) dX11_own_8 (by decide) rfl rfl ?_
  exact LP 0 (Nat.zero_le _) i hi (by rw [ownM_i hin hi, Nat.sub_zero])
theorem cntF_le (P : Nat → Bool) : ∀ k j, cntF P k j ≤ k
  | 0, _ => Nat.le_refl _
  | k + 1, j => by rw [cntF]; have := cntF_le P k (j + 1); split <;> omega
theorem c_X12_own {E : En} {d : Nat} {Q : QT} {X : XT} {g : G2} {T : TD} {S : LfS} {p i0 : Int32} (hR : RMl g T S) (hT : RMt g T) (hq : ∀ h, FD g h → RMl h T S → h 84 2 = nI (ownM T S p i0).1 → Q (some (.int (ownM T S p i0).2)) h) : M E md_X12_own (d + 2) [.ref 84, .int p, .int i0] g Q X := by
  refine M.of _ rfl rfl (Nat.le_of_ble_eq_true rfl) ?_
  refine b_aload_n dX12_own_0 rfl rfl ?_
  refine b_iconst (v := 0) dX12_own_1 (by decide +kernel) ?_
  refine b_putI lf_X12_165 lp_12_2 rfl dX12_own_2 ?_
  have F1 : FD g (up2 g 84 2 0) := FD.code 0
  have c1 : up2 g 84 2 0 84 2 = 0 := up2_s _ _ _ _
  have hR := hR.code (x := 0)
  have hT := hT.code (x := 0)
  generalize up2 g 84 2 0 = g1 at F1 c1 hR hT ⊢
  have h4 := hR.le
  refine b_aload_n dX12_own_5 rfl rfl ?_
  refine b_iload_n dX12_own_6 rfl rfl ?_
  refine b_callV (As := [_]) (st := []) dX12_own_7 lk_X12_382 lm_X12_isPerson lv_X12_isPerson rfl (by decide) rfl rfl rfl (Nat.le_of_ble_eq_true rfl) (Nat.le_refl _) (by decide) ?_
  refine c_X12_isPerson hT.n hT.le ?_
  refine b_if_eq (tgt := 30) dX12_own_10 (by decide) (fun h10 => ?_) (fun h10 => ?_)
  · have e10 := b2i_0 h10
    refine b_aload_n dX12_own_30 rfl rfl ?_
    refine b_iconst (v := 1) dX12_own_31 (by decide +kernel) ?_
    refine b_callV (As := [_]) (st := []) dX12_own_32 lk_X12_303 lm_X12_fail lv_X12_fail rfl (by decide) rfl rfl rfl (Nat.le_of_ble_eq_true rfl) (Nat.le_refl _) (by decide) ?_
    refine c_X12_fail ?_
    refine b_iret rfl (by decide) dX12_own_35 ?_
    rw [show ownM T S p i0 = (1, 0) from ownM_o e10] at hq
    exact hq _ (F1.tr (FD.code 1)) hR.code (up2_s _ _ _ _)
  · have e10 := b2i_1 h10
    refine b_iload_n dX12_own_13 rfl rfl ?_
    refine b_i2l dX12_own_14 rfl ?_
    refine b_lconst (v := 0) dX12_own_15 (by decide +kernel) ?_
    refine b_aload_n dX12_own_16 rfl rfl ?_
    refine b_iload_n dX12_own_17 rfl rfl ?_
    refine b_callV (As := [_]) (st := [_, _]) dX12_own_18 lk_X12_355 lm_X12_signsOf lv_X12_signsOf rfl (by decide) rfl rfl rfl (Nat.le_of_ble_eq_true rfl) (Nat.le_refl _) (by decide) ?_
    refine c_X12_signsOf hR.n hR.le ?_
    rw [cntN_cg (P := fun i => g1 105 i == p) (R := fun i => l_g S 1 i == p) (fun i hi => by rw [hR.wh i hi])]
    have cB := cntN_le (fun i => l_g S 1 i == p) (l_n S)
    have cF := cntF_cntN (P := fun i => l_g S 1 i == p) (l_n S) 0
    rw [Nat.zero_add, cntN, Nat.zero_add] at cF
    refine b_iconst (v := 1) dX12_own_21 (by decide +kernel) ?_
    refine b_isub dX12_own_22 ?_
    refine b_i2l dX12_own_23 rfl ?_
    refine b_callS (As := [_, _, _]) (st := []) dX12_own_24 lk_X12_168 lm_X12_isIn ls_X12_isIn rfl rfl (Nat.le_of_ble_eq_true rfl) (Nat.le_refl _) (by decide) ?_
    refine c_X12_isIn ?_
    rw [in_64n rfl (by omega), Int32.toInt_toInt64, show (0 : Int64).toInt = 0 from by decide]
    refine b_if_ne (tgt := 36) dX12_own_27 (by decide) (fun h27 => ?_) (fun h27 => ?_)
    · have e27 := b2i_1 h27
      obtain ⟨i, hi, rfl⟩ := in_nat e27
      have LP : ∀ j, j ≤ l_n S → ∀ l, l < cntF (fun k => l_g S 1 k == p) (l_n S - j) j → ownM T S p (nI i) = owL (fun k => l_g S 1 k == p) (l_g S 0) (l_n S - j) j l → B E md_X12_own (d + 2) Q X 41 [(0, .ref 84), (1, .int p), (2, .int (nI i)), (3, .int (nI l)), (4, .int (nI j))] [] g1 0 := by
        refine lp_up (fun j _ ih l hc hz => ?_)
        have hcl : cntF (fun k => l_g S 1 k == p) (l_n S - j) j ≤ 400 := Nat.le_trans (cntF_le _ _ _) (by omega)
        have hj : j < l_n S := by
          rcases Nat.lt_or_ge j (l_n S) with q | q
          · exact q
          · rw [show l_n S - j = 0 by omega, cntF] at hc; omega
        have ek : l_n S - j = (l_n S - (j + 1)) + 1 := by omega
        refine b_aload_n dX12_own_41 rfl rfl ?_
        refine b_getR (b := 105) lf_X12_96 rfl rfl dX12_own_42 ?_
        refine b_iload dX12_own_45 rfl ?_
        refine b_ildN (j := j) dX12_own_47 (rfl) (by show _ < 400; omega) ?_
        refine b_topE (hR.wh j hj) ?_
        refine b_iload_n dX12_own_48 rfl rfl ?_
        refine b_icmp_ne (tgt := 56) dX12_own_49 (by decide) (fun h49 => ?_) (fun h49 => ?_)
        · refine b_iload_n dX12_own_56 rfl rfl ?_
          refine b_aload_n dX12_own_57 rfl rfl ?_
          refine b_getR (b := 105) lf_X12_96 rfl rfl dX12_own_58 ?_
          refine b_iload dX12_own_61 rfl ?_
          refine b_ildN (j := j) dX12_own_63 (rfl) (by show _ < 400; omega) ?_
          refine b_topE (hR.wh j hj) ?_
          refine b_iload_n dX12_own_64 rfl rfl ?_
          refine b_icmp_ne (tgt := 72) dX12_own_65 (by decide) (fun h65 => ?_) (fun h65 => ?_)
          · refine b_iconst (v := 0) dX12_own_72 (by decide +kernel) ?_
            refine b_isub dX12_own_73 ?_
            refine b_topE (show nI l - 0 = nI l from Int32.sub_zero _) ?_
            refine b_istore_n (lv' := [(0, _), (1, _), (2, _), (3, _), (4, _)]) dX12_own_74 rfl (by decide) rfl rfl ?_
            refine b_incN (j := j) (lv' := [(0, _), (1, _), (2, _), (3, _), (4, _)]) dX12_own_75 rfl rfl (by decide) rfl rfl ?_
            refine b_goto (tgt := 41) dX12_own_78 (by decide) ?_
            refine ih (j + 1) (by omega) (by omega) l ?_ ?_
            · rw [ek, cntF, if_neg (by simpa using h65)] at hc; omega
            · rw [hz, ek, owL, if_neg (by simpa using h65)]
          · exact absurd h65 h49
        · refine b_iload_n dX12_own_52 rfl rfl ?_
          refine b_if_le (tgt := 81) dX12_own_53 (by decide) (fun h53 => ?_) (fun h53 => ?_)
          · have e53 : l = 0 := Nat.le_zero.mp (nn_le (b := 0) (by omega) (by decide) h53)
            refine b_aload_n dX12_own_81 rfl rfl ?_
            refine b_getR (b := 104) lf_X12_93 rfl rfl dX12_own_82 ?_
            refine b_iload dX12_own_85 rfl ?_
            refine b_ildN (j := j) dX12_own_87 (rfl) (by show _ < 400; omega) ?_
            refine b_iret rfl (by decide) dX12_own_88 ?_
            rw [ek, owL, if_pos (by simpa using h49), if_pos e53] at hz
            have hq := hq g1 F1 hR (by rw [hz]; exact c1)
            rw [hz] at hq
            rw [hR.sg j hj]
            exact hq
          · have e53 : 0 < l := nn_nle (b := 0) (by omega) (by decide) h53
            skip
            refine b_iload_n dX12_own_56 rfl rfl ?_
            refine b_aload_n dX12_own_57 rfl rfl ?_
            refine b_getR (b := 105) lf_X12_96 rfl rfl dX12_own_58 ?_
            refine b_iload dX12_own_61 rfl ?_
            refine b_ildN (j := j) dX12_own_63 (rfl) (by show _ < 400; omega) ?_
            refine b_topE (hR.wh j hj) ?_
            refine b_iload_n dX12_own_64 rfl rfl ?_
            refine b_icmp_ne (tgt := 72) dX12_own_65 (by decide) (fun h65 => ?_) (fun h65 => ?_)
            · exact absurd h49 h65
            · refine b_iconst (v := 1) dX12_own_68 (by decide +kernel) ?_
              refine b_goto (tgt := 73) dX12_own_69 (by decide) ?_
              refine b_isub dX12_own_73 ?_
              refine b_topE (nI_sub l 1 (by omega)) ?_
              refine b_istore_n (lv' := [(0, _), (1, _), (2, _), (3, _), (4, _)]) dX12_own_74 rfl (by decide) rfl rfl ?_
              refine b_incN (j := j) (lv' := [(0, _), (1, _), (2, _), (3, _), (4, _)]) dX12_own_75 rfl rfl (by decide) rfl rfl ?_
              refine b_goto (tgt := 41) dX12_own_78 (by decide) ?_
              refine ih (j + 1) (by omega) (by omega) (l - 1) ?_ ?_
              · rw [ek, cntF, if_pos (by simpa using h65)] at hc; omega
              · rw [hz, ek, owL, if_pos (by simpa using h65), if_neg (by omega)]
      refine b_iload_n dX12_own_36 rfl rfl ?_
      refine b_istore_n (lv' := [(0, _), (1, _), (2, _), (3, _)]) dX12_own_37 rfl (by decide) rfl rfl ?_
      refine b_iconst (v := 0) dX12_own_38 (by decide +kernel) ?_
      refine b_istore (lv' := [(0, _), (1, _), (2, _), (3, _), (4, _)]) dX12_own_39 (by decide) rfl rfl ?_
      exact LP 0 (Nat.zero_le _) i (by rw [Nat.sub_zero, ← cF]; omega) (by rw [ownM_i e10 (by omega), Nat.sub_zero])
    · have e27 := b2i_0 h27
      refine b_aload_n dX12_own_30 rfl rfl ?_
      refine b_iconst (v := 1) dX12_own_31 (by decide +kernel) ?_
      refine b_callV (As := [_]) (st := []) dX12_own_32 lk_X12_303 lm_X12_fail lv_X12_fail rfl (by decide) rfl rfl rfl (Nat.le_of_ble_eq_true rfl) (Nat.le_refl _) (by decide) ?_
      refine c_X12_fail ?_
      refine b_iret rfl (by decide) dX12_own_35 ?_
      have e9 : ownM T S p i0 = (1, 0) := by
        by_cases hneg : i0 < 0
        · exact ownM_n hneg
        · obtain ⟨i, hi, rfl⟩ := nI_of hneg
          rw [ownM_i e10 hi]
          refine owL_out _ _ _ ?_
          rw [← cF]
          rcases Nat.lt_or_ge i (cntN (fun i => l_g S 1 i == p) (l_n S)) with q | q
          · rw [in_nI q (by omega)] at e27; exact absurd e27 (by decide)
          · exact q
      rw [show ownM T S p i0 = (1, 0) from e9] at hq
      exact hq _ (F1.tr (FD.code 1)) hR.code (up2_s _ _ _ _)
def rnM (f : Nat → Int32) : Nat → Nat
  | 0 => 0
  | i + 1 => if f i = 12 then 0 else rnM f i + 1
theorem rnM_le (f : Nat → Int32) : ∀ i, rnM f i ≤ i
  | 0 => Nat.le_refl _
  | i + 1 => by rw [rnM]; have := rnM_le f i; split <;> omega
def brM (f : Nat → Int32) : Nat → Nat × Int32
  | 0 => (0, -1)
  | i + 1 => if (brM f i).1 < rnM f (i + 1) then (rnM f (i + 1), nI (i + 1 - rnM f (i + 1))) else brM f i
theorem brM_le (f : Nat → Int32) : ∀ i, (brM f i).1 ≤ i
  | 0 => Nat.le_refl _
  | i + 1 => by
    rw [brM]
    have := brM_le f i
    have := rnM_le f (i + 1)
    by_cases h : (brM f i).1 < rnM f (i + 1)
    · rw [if_pos h]; exact rnM_le f (i + 1)
    · rw [if_neg h]; omega
theorem rnM_cg {f f2 : Nat → Int32} {n : Nat} (h : ∀ i, i < n → f i = f2 i) : ∀ i, i ≤ n → rnM f i = rnM f2 i
  | 0, _ => rfl
  | i + 1, hi => by rw [rnM, rnM, h i (by omega), rnM_cg h i (by omega)]
theorem brM_cg {f f2 : Nat → Int32} {n : Nat} (h : ∀ i, i < n → f i = f2 i) : ∀ i, i ≤ n → brM f i = brM f2 i
  | 0, _ => rfl
  | i + 1, hi => by rw [brM, brM, rnM_cg h (i + 1) hi, brM_cg h i (by omega)]
def breM (S : LfS) (w : Int32) : Nat × Int32 := if inB w.toInt 0 1 then (0, if w = 0 then nI (brM (l_g S 0) (l_n S)).1 else (brM (l_g S 0) (l_n S)).2) else (1, 0)
theorem breM_1 {S : LfS} {w : Int32} (h : inB w.toInt 0 1 = false) : breM S w = (1, 0) := by unfold breM; rw [h]; rfl
theorem breM_0 {S : LfS} {w : Int32} (h : inB w.toInt 0 1 = true) : breM S w = (0, if w = 0 then nI (brM (l_g S 0) (l_n S)).1 else (brM (l_g S 0) (l_n S)).2) := by unfold breM; rw [h]; rfl
theorem c_X11_breath {E : En} {d : Nat} {Q : QT} {X : XT} {g : G2} {T : TD} {S : LfS} {sp : Int32} {w : Int32} (hR : RLf g 31 T sp S) (hq : ∀ h, FC g h → (breM S w).1 = 0 → Q (some (.int (breM S w).2)) h) (hx : ∀ h, FC g h → (breM S w).1 = 1 → X nsN h) : M E md_X11_breath (d + 7) [.ref 0, .int w] g Q X := by
  refine M.of _ rfl rfl (Nat.le_of_ble_eq_true rfl) ?_
  refine b_iload_n dX11_breath_0 rfl rfl ?_
  refine b_iconst (v := 1) dX11_breath_1 (by decide +kernel) ?_
  refine b_callS (As := [_, _]) (st := []) dX11_breath_2 lk_X11_198 lm_X11_needWhat ls_X11_needWhat rfl rfl (Nat.le_of_ble_eq_true rfl) (Nat.le_refl _) (by decide) ?_
  refine c_X11_needWhat (fun hw => ?_) (fun hw => hx g (FC.rf g) (by rw [breM_1 hw]))
  have h4 := hR.le
  have LP : ∀ i, i ≤ l_n S → B E md_X11_breath (d + 7) Q X 15 [(0, .ref 0), (1, .int w), (2, .int (nI (brM (g 32) i).1)), (3, .int (brM (g 32) i).2), (4, .int (nI (i - rnM (g 32) i))), (5, .int (nI i))] [] g 1 := by
    refine lp_up (fun i hi ih => ?_)
    have hb := brM_le (g 32) i
    have hr := rnM_le (g 32) i
    refine b_iload dX11_breath_15 rfl ?_
    refine b_aload_n dX11_breath_17 rfl rfl ?_
    refine b_getR (b := 31) lf_X11_33 rfl rfl dX11_breath_18 ?_
    refine b_getI lf_X11_140 (life_c is_life31) dX11_breath_21 ?_
    refine b_topE (hR.n) ?_
    refine b_icmp_ge (tgt := 79) dX11_breath_24 (by decide) (fun h24 => ?_) (fun h24 => ?_)
    · have e24 : (l_n S) ≤ i := nn_le (a := (l_n S)) (b := i) (by omega) (by omega) h24
      have e : i = l_n S := by omega
      subst e
      refine b_iload_n dX11_breath_79 rfl rfl ?_
      refine b_if_ne (tgt := 87) dX11_breath_80 (by decide) (fun h80 => ?_) (fun h80 => ?_)
      · refine b_iload_n dX11_breath_87 rfl rfl ?_
        refine b_iret rfl (by decide) dX11_breath_88 ?_
        rw [breM_0 hw] at hq
        have hq := hq g (FC.rf g) rfl
        rw [if_neg h80, ← brM_cg hR.sg _ (Nat.le_refl _)] at hq
        exact hq
      · refine b_iload_n dX11_breath_83 rfl rfl ?_
        refine b_goto (tgt := 88) dX11_breath_84 (by decide) ?_
        refine b_iret rfl (by decide) dX11_breath_88 ?_
        rw [breM_0 hw] at hq
        have hq := hq g (FC.rf g) rfl
        rw [if_pos h80, ← brM_cg hR.sg _ (Nat.le_refl _)] at hq
        exact hq
    · have e24 : i < (l_n S) := nn_nle (a := (l_n S)) (b := i) (by omega) (by omega) h24
      refine b_aload_n dX11_breath_27 rfl rfl ?_
      refine b_getR (b := 31) lf_X11_33 rfl rfl dX11_breath_28 ?_
      refine b_getR (b := 32) lf_X11_215 (life_c is_life31) (life_r0 is_life31) dX11_breath_31 ?_
      refine b_iload dX11_breath_34 rfl ?_
      refine b_ildN (j := i) dX11_breath_36 (rfl) (by rw [(life_n1 is_life31)]; omega) ?_
      refine b_bipush (v := 12) dX11_breath_37 (by decide +kernel) ?_
      refine b_icmp_ne (tgt := 51) dX11_breath_39 (by decide) (fun h39 => ?_) (fun h39 => ?_)
      · have er : rnM (g 32) (i + 1) = rnM (g 32) i + 1 := by rw [rnM, if_neg h39]
        refine b_iload dX11_breath_51 rfl ?_
        refine b_iconst (v := 1) dX11_breath_53 (by decide +kernel) ?_
        refine b_iadd dX11_breath_54 ?_
        refine b_topE (nI_add i 1) ?_
        refine b_iload dX11_breath_55 rfl ?_
        refine b_isub dX11_breath_57 ?_
        refine b_topE (nI_sub ((i + 1)) ((i - rnM (g 32) i)) (by omega)) ?_
        refine b_iload_n dX11_breath_58 rfl rfl ?_
        refine b_icmp_le (tgt := 73) dX11_breath_59 (by decide) (fun h59 => ?_) (fun h59 => ?_)
        · have e59 : (((i + 1) - (i - rnM (g 32) i))) ≤ ((brM (g 32) i).1) := nn_le (a := (((i + 1) - (i - rnM (g 32) i)))) (b := ((brM (g 32) i).1)) (by omega) (by omega) h59
          refine b_incN (j := i) (lv' := [(0, _), (1, _), (2, _), (3, _), (4, _), (5, _)]) dX11_breath_73 rfl rfl (by decide) rfl rfl ?_
          refine b_goto (tgt := 15) dX11_breath_76 (by decide) ?_
          have z := ih (i + 1) (by omega) (by omega)
          rw [show i + 1 - rnM (g 32) (i + 1) = i - rnM (g 32) i by omega] at z
          rw [brM, if_neg (by omega)] at z
          exact z
        · have e59 : ((brM (g 32) i).1) < (((i + 1) - (i - rnM (g 32) i))) := nn_nle (a := (((i + 1) - (i - rnM (g 32) i)))) (b := ((brM (g 32) i).1)) (by omega) (by omega) h59
          refine b_iload dX11_breath_62 rfl ?_
          refine b_iconst (v := 1) dX11_breath_64 (by decide +kernel) ?_
          refine b_iadd dX11_breath_65 ?_
          refine b_topE (nI_add i 1) ?_
          refine b_iload dX11_breath_66 rfl ?_
          refine b_isub dX11_breath_68 ?_
          refine b_topE (nI_sub ((i + 1)) ((i - rnM (g 32) i)) (by omega)) ?_
          refine b_istore_n (lv' := [(0, _), (1, _), (2, _), (3, _), (4, _), (5, _)]) dX11_breath_69 rfl (by decide) rfl rfl ?_
          refine b_iload dX11_breath_70 rfl ?_
          refine b_istore_n (lv' := [(0, _), (1, _), (2, _), (3, _), (4, _), (5, _)]) dX11_breath_72 rfl (by decide) rfl rfl ?_
          refine b_incN (j := i) (lv' := [(0, _), (1, _), (2, _), (3, _), (4, _), (5, _)]) dX11_breath_73 rfl rfl (by decide) rfl rfl ?_
          refine b_goto (tgt := 15) dX11_breath_76 (by decide) ?_
          have z := ih (i + 1) (by omega) (by omega)
          rw [show i + 1 - rnM (g 32) (i + 1) = i - rnM (g 32) i by omega] at z
          rw [brM, if_pos (by omega)] at z
          rw [show rnM (g 32) (i + 1) = i + 1 - (i - rnM (g 32) i) by omega, show i + 1 - (i + 1 - (i - rnM (g 32) i)) = i - rnM (g 32) i by omega] at z
          exact z
      · refine b_iload dX11_breath_42 rfl ?_
        refine b_iconst (v := 1) dX11_breath_44 (by decide +kernel) ?_
        refine b_iadd dX11_breath_45 ?_
        refine b_topE (nI_add i 1) ?_
        refine b_istore (lv' := [(0, _), (1, _), (2, _), (3, _), (4, _), (5, _)]) dX11_breath_46 (by decide) rfl rfl ?_
        refine b_goto (tgt := 73) dX11_breath_48 (by decide) ?_
        refine b_incN (j := i) (lv' := [(0, _), (1, _), (2, _), (3, _), (4, _), (5, _)]) dX11_breath_73 rfl rfl (by decide) rfl rfl ?_
        refine b_goto (tgt := 15) dX11_breath_76 (by decide) ?_
        have z := ih (i + 1) (by omega) (by omega)
        have er : rnM (g 32) (i + 1) = 0 := by rw [rnM, if_pos h39]
        rw [brM, er, if_neg (Nat.not_lt_zero _), Nat.sub_zero] at z
        exact z
  refine b_iconst (v := 0) dX11_breath_5 (by decide +kernel) ?_
  refine b_istore_n (lv' := [(0, _), (1, _), (2, _)]) dX11_breath_6 rfl (by decide) rfl rfl ?_
  refine b_iconst (v := (-1)) dX11_breath_7 (by decide +kernel) ?_
  refine b_istore_n (lv' := [(0, _), (1, _), (2, _), (3, _)]) dX11_breath_8 rfl (by decide) rfl rfl ?_
  refine b_iconst (v := 0) dX11_breath_9 (by decide +kernel) ?_
  refine b_istore (lv' := [(0, _), (1, _), (2, _), (3, _), (4, _)]) dX11_breath_10 (by decide) rfl rfl ?_
  refine b_iconst (v := 0) dX11_breath_12 (by decide +kernel) ?_
  refine b_istore (lv' := [(0, _), (1, _), (2, _), (3, _), (4, _), (5, _)]) dX11_breath_13 (by decide) rfl rfl ?_
  exact LP 0 (Nat.zero_le _)
theorem c_X12_breath {E : En} {d : Nat} {Q : QT} {X : XT} {g : G2} {T : TD} {S : LfS} {w : Int32} (hR : RMl g T S) (hq : ∀ h, FD g h → RMl h T S → h 84 2 = nI (breM S w).1 → Q (some (.int (breM S w).2)) h) : M E md_X12_breath (d + 1) [.ref 84, .int w] g Q X := by
  refine M.of _ rfl rfl (Nat.le_of_ble_eq_true rfl) ?_
  refine b_aload_n dX12_breath_0 rfl rfl ?_
  refine b_iconst (v := 0) dX12_breath_1 (by decide +kernel) ?_
  refine b_putI lf_X12_165 lp_12_2 rfl dX12_breath_2 ?_
  have F1 : FD g (up2 g 84 2 0) := FD.code 0
  have c1 : up2 g 84 2 0 84 2 = 0 := up2_s _ _ _ _
  have hR := hR.code (x := 0)
  generalize up2 g 84 2 0 = g1 at F1 c1 hR ⊢
  refine b_iload_n dX12_breath_5 rfl rfl ?_
  refine b_if_lt (tgt := 14) dX12_breath_6 (by decide) (fun h6 => ?_) (fun h6 => ?_)
  · refine b_aload_n dX12_breath_14 rfl rfl ?_
    refine b_iconst (v := 1) dX12_breath_15 (by decide +kernel) ?_
    refine b_callV (As := [_]) (st := []) dX12_breath_16 lk_X12_303 lm_X12_fail lv_X12_fail rfl (by decide) rfl rfl rfl (Nat.le_of_ble_eq_true rfl) (Nat.le_refl _) (by decide) ?_
    refine c_X12_fail ?_
    refine b_iret rfl (by decide) dX12_breath_19 ?_
    rw [show breM S w = (1, 0) from breM_1 (in_lt h6)] at hq
    exact hq _ (F1.tr (FD.code 1)) hR.code (up2_s _ _ _ _)
  · refine b_iload_n dX12_breath_9 rfl rfl ?_
    refine b_iconst (v := 1) dX12_breath_10 (by decide +kernel) ?_
    refine b_icmp_le (tgt := 20) dX12_breath_11 (by decide) (fun h11 => ?_) (fun h11 => ?_)
    · have hw := in_ok (b := 1) rfl h6 h11
      have h4 := hR.le
      have LP : ∀ i, i ≤ l_n S → B E md_X12_breath (d + 1) Q X 30 [(0, .ref 84), (1, .int w), (2, .int (nI (brM (g1 104) i).1)), (3, .int (brM (g1 104) i).2), (4, .int (nI (rnM (g1 104) i))), (5, .int (nI i))] [] g1 0 := by
        refine lp_up (fun i hi ih => ?_)
        have hb := brM_le (g1 104) i
        have hr := rnM_le (g1 104) i
        refine b_iload dX12_breath_30 rfl ?_
        refine b_aload_n dX12_breath_32 rfl rfl ?_
        refine b_getI lf_X12_320 rfl dX12_breath_33 ?_
        refine b_topE (hR.n) ?_
        refine b_icmp_ge (tgt := 87) dX12_breath_36 (by decide) (fun h36 => ?_) (fun h36 => ?_)
        · have e36 : (l_n S) ≤ i := nn_le (a := (l_n S)) (b := i) (by omega) (by omega) h36
          have e : i = l_n S := by omega
          subst e
          refine b_iload_n dX12_breath_87 rfl rfl ?_
          refine b_if_ne (tgt := 95) dX12_breath_88 (by decide) (fun h88 => ?_) (fun h88 => ?_)
          · refine b_iload_n dX12_breath_95 rfl rfl ?_
            refine b_iret rfl (by decide) dX12_breath_96 ?_
            have hq := hq g1 F1 hR (by rw [breM_0 hw]; exact c1)
            rw [breM_0 hw] at hq
            simp only [if_neg h88] at hq
            rw [← brM_cg hR.sg _ (Nat.le_refl _)] at hq
            exact hq
          · refine b_iload_n dX12_breath_91 rfl rfl ?_
            refine b_goto (tgt := 96) dX12_breath_92 (by decide) ?_
            refine b_iret rfl (by decide) dX12_breath_96 ?_
            have hq := hq g1 F1 hR (by rw [breM_0 hw]; exact c1)
            rw [breM_0 hw] at hq
            simp only [if_pos h88] at hq
            rw [← brM_cg hR.sg _ (Nat.le_refl _)] at hq
            exact hq
        · have e36 : i < (l_n S) := nn_nle (a := (l_n S)) (b := i) (by omega) (by omega) h36
          refine b_aload_n dX12_breath_39 rfl rfl ?_
          refine b_getR (b := 104) lf_X12_93 rfl rfl dX12_breath_40 ?_
          refine b_iload dX12_breath_43 rfl ?_
          refine b_ildN (j := i) dX12_breath_45 (rfl) (by show _ < 400; omega) ?_
          refine b_bipush (v := 12) dX12_breath_46 (by decide +kernel) ?_
          refine b_icmp_ne (tgt := 55) dX12_breath_48 (by decide) (fun h48 => ?_) (fun h48 => ?_)
          · refine b_iload dX12_breath_55 rfl ?_
            refine b_iconst (v := 1) dX12_breath_57 (by decide +kernel) ?_
            refine b_iadd dX12_breath_58 ?_
            refine b_topE (nI_add ((rnM (g1 104) i)) 1) ?_
            refine b_istore (lv' := [(0, _), (1, _), (2, _), (3, _), (4, _), (5, _)]) dX12_breath_59 (by decide) rfl rfl ?_
            refine b_iload dX12_breath_61 rfl ?_
            refine b_iload_n dX12_breath_63 rfl rfl ?_
            refine b_icmp_gt (tgt := 70) dX12_breath_64 (by decide) (fun h64 => ?_) (fun h64 => ?_)
            · have e64 : (brM (g1 104) i).1 < rnM (g1 104) i + 1 := nn_lt (by omega) (by omega) h64
              refine b_iload dX12_breath_70 rfl ?_
              refine b_istore_n (lv' := [(0, _), (1, _), (2, _), (3, _), (4, _), (5, _)]) dX12_breath_72 rfl (by decide) rfl rfl ?_
              refine b_iload dX12_breath_73 rfl ?_
              refine b_iload dX12_breath_75 rfl ?_
              refine b_isub dX12_breath_77 ?_
              refine b_iconst (v := 1) dX12_breath_78 (by decide +kernel) ?_
              refine b_iadd dX12_breath_79 ?_
              refine b_topE (y := nI (i + 1 - (rnM (g1 104) i + 1))) (by rw [← nI_sub (i + 1) (rnM (g1 104) i + 1) (by omega), ← nI_1 i, Int32.sub_eq_add_neg, Int32.sub_eq_add_neg, Int32.add_assoc, Int32.add_assoc, Int32.add_comm 1]) ?_
              refine b_istore_n (lv' := [(0, _), (1, _), (2, _), (3, _), (4, _), (5, _)]) dX12_breath_80 rfl (by decide) rfl rfl ?_
              refine b_incN (j := i) (lv' := [(0, _), (1, _), (2, _), (3, _), (4, _), (5, _)]) dX12_breath_81 rfl rfl (by decide) rfl rfl ?_
              refine b_goto (tgt := 30) dX12_breath_84 (by decide) ?_
              have z := ih (i + 1) (by omega) (by omega)
              have er : rnM (g1 104) (i + 1) = rnM (g1 104) i + 1 := by rw [rnM, if_neg h48]
              rw [brM, er, if_pos e64] at z
              exact z
            · have e64 : rnM (g1 104) i + 1 ≤ (brM (g1 104) i).1 := nn_nlt (by omega) (by omega) h64
              refine b_goto (tgt := 81) dX12_breath_67 (by decide) ?_
              refine b_incN (j := i) (lv' := [(0, _), (1, _), (2, _), (3, _), (4, _), (5, _)]) dX12_breath_81 rfl rfl (by decide) rfl rfl ?_
              refine b_goto (tgt := 30) dX12_breath_84 (by decide) ?_
              have z := ih (i + 1) (by omega) (by omega)
              have er : rnM (g1 104) (i + 1) = rnM (g1 104) i + 1 := by rw [rnM, if_neg h48]
              rw [brM, er, if_neg (by omega)] at z
              exact z
          · refine b_iconst (v := 0) dX12_breath_51 (by decide +kernel) ?_
            refine b_goto (tgt := 59) dX12_breath_52 (by decide) ?_
            refine b_istore (lv' := [(0, _), (1, _), (2, _), (3, _), (4, _), (5, _)]) dX12_breath_59 (by decide) rfl rfl ?_
            refine b_iload dX12_breath_61 rfl ?_
            refine b_iload_n dX12_breath_63 rfl rfl ?_
            refine b_icmp_gt (tgt := 70) dX12_breath_64 (by decide) (fun h64 => ?_) (fun h64 => ?_)
            · exact absurd (nn_lt (a := (brM (g1 104) i).1) (b := 0) (by omega) (by omega) h64) (by omega)
            · refine b_goto (tgt := 81) dX12_breath_67 (by decide) ?_
              refine b_incN (j := i) (lv' := [(0, _), (1, _), (2, _), (3, _), (4, _), (5, _)]) dX12_breath_81 rfl rfl (by decide) rfl rfl ?_
              refine b_goto (tgt := 30) dX12_breath_84 (by decide) ?_
              have z := ih (i + 1) (by omega) (by omega)
              have er : rnM (g1 104) (i + 1) = 0 := by rw [rnM, if_pos h48]
              rw [brM, er, if_neg (Nat.not_lt_zero _)] at z
              exact z
      refine b_iconst (v := 0) dX12_breath_20 (by decide +kernel) ?_
      refine b_istore_n (lv' := [(0, _), (1, _), (2, _)]) dX12_breath_21 rfl (by decide) rfl rfl ?_
      refine b_iconst (v := (-1)) dX12_breath_22 (by decide +kernel) ?_
      refine b_istore_n (lv' := [(0, _), (1, _), (2, _), (3, _)]) dX12_breath_23 rfl (by decide) rfl rfl ?_
      refine b_iconst (v := 0) dX12_breath_24 (by decide +kernel) ?_
      refine b_istore (lv' := [(0, _), (1, _), (2, _), (3, _), (4, _)]) dX12_breath_25 (by decide) rfl rfl ?_
      refine b_iconst (v := 0) dX12_breath_27 (by decide +kernel) ?_
      refine b_istore (lv' := [(0, _), (1, _), (2, _), (3, _), (4, _), (5, _)]) dX12_breath_28 (by decide) rfl rfl ?_
      exact LP 0 (Nat.zero_le _)
    · refine b_aload_n dX12_breath_14 rfl rfl ?_
      refine b_iconst (v := 1) dX12_breath_15 (by decide +kernel) ?_
      refine b_callV (As := [_]) (st := []) dX12_breath_16 lk_X12_303 lm_X12_fail lv_X12_fail rfl (by decide) rfl rfl rfl (Nat.le_of_ble_eq_true rfl) (Nat.le_refl _) (by decide) ?_
      refine c_X12_fail ?_
      refine b_iret rfl (by decide) dX12_breath_19 ?_
      rw [show breM S w = (1, 0) from breM_1 (in_gt rfl h11)] at hq
      exact hq _ (F1.tr (FD.code 1)) hR.code (up2_s _ _ _ _)
