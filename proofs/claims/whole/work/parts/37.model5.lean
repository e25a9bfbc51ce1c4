theorem c_X12_roundAbout {E : En} {d : Nat} {Q : QT} {X : XT} {g : G2} {n b0 e0 : Nat} (hn : g 84 32 = nI n) (h4 : n ≤ 400) (hb : b0 < n) (he : e0 ≤ n) (hq : Q (some (.int (mirF (g 104) n (b0 + 1) e0))) g) : M E md_X12_roundAbout d [.ref 84, .int (nI b0), .int (nI e0)] g Q X := by
  refine M.of _ rfl rfl (Nat.le_of_ble_eq_true rfl) ?_
  have LP : ∀ b, b ≤ n → ∀ e, e ≤ n → Q (some (.int (mirF (g 104) n b e))) g → B E md_X12_roundAbout d Q X 5 [(0, .ref 84), (1, .int (nI b0)), (2, .int (nI e0)), (3, .int (bgI b)), (4, .int (nI e))] [] g 0 := by
    intro b
    induction b with
    | zero =>
      intro _ e he hq
      show B E md_X12_roundAbout d Q X 5 [(0, .ref 84), (1, .int (nI b0)), (2, .int (nI e0)), (3, .int (-1)), (4, .int (nI e))] [] g 0
      refine b_iload_n dX12_roundAbout_5 rfl rfl ?_
      refine b_if_lt (tgt := 43) dX12_roundAbout_6 (by decide) (fun h6 => ?_) (fun h6 => ?_)
      · refine b_iload dX12_roundAbout_43 rfl ?_
        refine b_iload_n dX12_roundAbout_45 rfl rfl ?_
        refine b_isub dX12_roundAbout_46 ?_
        refine b_iconst (v := 1) dX12_roundAbout_47 (by decide +kernel) ?_
        refine b_isub dX12_roundAbout_48 ?_
        refine b_iret rfl (by decide) dX12_roundAbout_49 ?_
        exact hq
      · exact absurd (show (-1 : Int32) < 0 from by decide +kernel) h6
    | succ b ih0 =>
      intro hb e he hq
      have ih : ∀ c, c = b → ∀ e, e ≤ n → Q (some (.int (mirF (g 104) n c e))) g → B E md_X12_roundAbout d Q X 5 [(0, .ref 84), (1, .int (nI b0)), (2, .int (nI e0)), (3, .int (bgI c)), (4, .int (nI e))] [] g 0 := fun c hc => hc ▸ ih0 (by omega)
      show B E md_X12_roundAbout d Q X 5 [(0, .ref 84), (1, .int (nI b0)), (2, .int (nI e0)), (3, .int (nI b)), (4, .int (nI e))] [] g 0
      refine b_iload_n dX12_roundAbout_5 rfl rfl ?_
      refine b_if_lt (tgt := 43) dX12_roundAbout_6 (by decide) (fun h6 => ?_) (fun h6 => ?_)
      · exact absurd h6 (nI_pos (by omega))
      · refine b_iload dX12_roundAbout_9 rfl ?_
        refine b_aload_n dX12_roundAbout_11 rfl rfl ?_
        refine b_getI lf_X12_320 rfl dX12_roundAbout_12 ?_
        refine b_icmp_ge (tgt := 43) dX12_roundAbout_15 (by decide) (fun h15 => ?_) (fun h15 => ?_)
        · have e2 : ¬ e < n := fun q => by rw [hn] at h15; exact absurd ((nI_leI (by omega) (by omega)).mp h15) (by omega)
          rw [mirF, if_neg (fun q => e2 q.1)] at hq
          refine b_iload dX12_roundAbout_43 rfl ?_
          refine b_iload_n dX12_roundAbout_45 rfl rfl ?_
          refine b_isub dX12_roundAbout_46 ?_
          refine b_iconst (v := 1) dX12_roundAbout_47 (by decide +kernel) ?_
          refine b_isub dX12_roundAbout_48 ?_
          refine b_iret rfl (by decide) dX12_roundAbout_49 ?_
          exact hq
        · have e2 : e < n := by
            rcases Nat.lt_or_ge e n with q | q
            · exact q
            · exact absurd (hn ▸ (nI_leI (by omega) (by omega)).mpr q) h15
          refine b_aload_n dX12_roundAbout_18 rfl rfl ?_
          refine b_getR (b := 104) lf_X12_93 rfl rfl dX12_roundAbout_19 ?_
          refine b_iload_n dX12_roundAbout_22 rfl rfl ?_
          refine b_ildN (j := b) dX12_roundAbout_23 (rfl) (by show _ < 400; omega) ?_
          refine b_aload_n dX12_roundAbout_24 rfl rfl ?_
          refine b_getR (b := 104) lf_X12_93 rfl rfl dX12_roundAbout_25 ?_
          refine b_iload dX12_roundAbout_28 rfl ?_
          refine b_ildN (j := e) dX12_roundAbout_30 (rfl) (by show _ < 400; omega) ?_
          refine b_icmp_ne (tgt := 43) dX12_roundAbout_31 (by decide) (fun h31 => ?_) (fun h31 => ?_)
          · rw [mirF, if_neg (fun q => h31 q.2)] at hq
            refine b_iload dX12_roundAbout_43 rfl ?_
            refine b_iload_n dX12_roundAbout_45 rfl rfl ?_
            refine b_isub dX12_roundAbout_46 ?_
            refine b_iconst (v := 1) dX12_roundAbout_47 (by decide +kernel) ?_
            refine b_isub dX12_roundAbout_48 ?_
            refine b_iret rfl (by decide) dX12_roundAbout_49 ?_
            exact hq
          · refine b_iinc (v := bgI b) (lv' := [(0, _), (1, _), (2, _), (3, _), (4, _)]) dX12_roundAbout_34 rfl (by cases b with | zero => decide +kernel | succ c => exact pk_m1 c) (by decide) rfl rfl ?_
            refine b_incN (j := e) (lv' := [(0, _), (1, _), (2, _), (3, _), (4, _)]) dX12_roundAbout_37 rfl rfl (by decide) rfl rfl ?_
            refine b_goto (tgt := 5) dX12_roundAbout_40 (by decide) ?_
            exact ih b (by omega) (e + 1) (by omega) (by rw [mirF, if_pos ⟨e2, h31⟩] at hq; exact hq)
  refine b_iload_n dX12_roundAbout_0 rfl rfl ?_
  refine b_istore_n (lv' := [(0, _), (1, _), (2, _), (3, _)]) dX12_roundAbout_1 rfl (by decide) rfl rfl ?_
  refine b_iload_n dX12_roundAbout_2 rfl rfl ?_
  refine b_istore (lv' := [(0, _), (1, _), (2, _), (3, _), (4, _)]) dX12_roundAbout_3 (by decide) rfl rfl ?_
  exact LP (b0 + 1) hb e0 he hq
theorem c_X12_wed {E : En} {d : Nat} {Q : QT} {X : XT} {g : G2} {p o : Nat} (hp : p < 8) (ho : o < 8) (hq : ∀ h, (∀ y, y ≠ 84 → y ≠ 99 → h y = g y) → (∀ j, j ≠ 31 → j ≠ 35 → h 84 j = g 84 j) → h 84 31 = byM (g 84 31 + 7) → h 84 35 = g 84 35 ||| (sbI (nI p) ||| sbI (nI o)) → (∀ j, j ≠ o → h 99 j = g 99 j) → h 99 o = g 99 p → Q none h) : M E md_X12_wed (d + 1) [.ref 84, .int (nI p), .int (nI o)] g Q X := by
  refine M.of _ rfl rfl (Nat.le_of_ble_eq_true rfl) ?_
  refine b_aload_n dX12_wed_0 rfl rfl ?_
  refine b_aload_n dX12_wed_1 rfl rfl ?_
  refine b_getI lf_X12_318 rfl dX12_wed_2 ?_
  refine b_bipush (v := 7) dX12_wed_5 (by decide +kernel) ?_
  refine b_iadd dX12_wed_7 ?_
  refine b_callS (As := [_]) (st := [_]) dX12_wed_8 lk_X12_364 lm_X12_by12 ls_X12_by12 rfl rfl (Nat.le_of_ble_eq_true rfl) (Nat.le_refl _) (by decide) ?_
  refine c_X12_by12 ?_
  refine b_putI lf_X12_318 lp_12_31 rfl dX12_wed_11 ?_
  refine b_aload_n dX12_wed_14 rfl rfl ?_
  refine b_getR (b := 99) lf_X12_80 rfl rfl dX12_wed_15 ?_
  refine b_iload_n dX12_wed_18 rfl rfl ?_
  refine b_aload_n dX12_wed_19 rfl rfl ?_
  refine b_getR (b := 99) lf_X12_80 rfl rfl dX12_wed_20 ?_
  refine b_iload_n dX12_wed_23 rfl rfl ?_
  refine b_ildN (j := p) dX12_wed_24 (rfl) (by show _ < 8; omega) ?_
  refine b_istN (j := o) dX12_wed_25 (rfl) (by show _ < 8; omega) ?_
  refine b_aload_n dX12_wed_26 rfl rfl ?_
  refine b_dup dX12_wed_27 rfl ?_
  refine b_getI lf_X12_329 rfl dX12_wed_28 ?_
  refine b_iconst (v := 1) dX12_wed_31 (by decide +kernel) ?_
  refine b_iload_n dX12_wed_32 rfl rfl ?_
  refine b_ishl dX12_wed_33 ?_
  refine b_iconst (v := 1) dX12_wed_34 (by decide +kernel) ?_
  refine b_iload_n dX12_wed_35 rfl rfl ?_
  refine b_ishl dX12_wed_36 ?_
  refine b_ior dX12_wed_37 ?_
  refine b_ior dX12_wed_38 ?_
  refine b_putI lf_X12_329 lp_12_35 rfl dX12_wed_39 ?_
  refine b_vret rfl (by decide) dX12_wed_42 ?_
  refine hq _ (by grind [up2_f]) (by grind [up2]) ?_ ?_ (by grind [up2]) (by grind [up2])
  · rw [up2_k _ _ _ _ (by decide), up2_a _ _ _ _ (by decide), up2_s]
  · rw [up2_s, up2_a _ _ _ _ (by decide), up2_k _ _ _ _ (by decide)]; rfl
theorem c_X12_canMarry {E : En} {d : Nat} {Q : QT} {X : XT} {g : G2} {p o : Nat} (hp : p < 8) (ho : o < 8) (hq : Q (some (.int (b2i (mmB (g 84 33 ||| g 84 34 ||| g 84 35) (g 99) p o)))) g) : M E md_X12_canMarry (d + 1) [.ref 84, .int (nI p), .int (nI o)] g Q X := by
  refine M.of _ rfl rfl (Nat.le_of_ble_eq_true rfl) ?_
  refine b_iload_n dX12_canMarry_0 rfl rfl ?_
  refine b_iload_n dX12_canMarry_1 rfl rfl ?_
  refine b_icmp_eq (tgt := 66) dX12_canMarry_2 (by decide) (fun h2 => ?_) (fun h2 => ?_)
  · refine b_iconst (v := 0) dX12_canMarry_66 (by decide +kernel) ?_
    refine b_zret (by first | exact Or.inl rfl | exact Or.inr rfl) rfl (by decide) dX12_canMarry_67 ?_
    have e9 : mmB (g 84 33 ||| g 84 34 ||| g 84 35) (g 99) p o = false := by unfold mmB; have e : p = o := nI_inj (by omega) (by omega) h2; rw [e]; simp
    rw [e9] at hq
    exact hq
  · refine b_aload_n dX12_canMarry_5 rfl rfl ?_
    refine b_getI lf_X12_323 rfl dX12_canMarry_6 ?_
    refine b_aload_n dX12_canMarry_9 rfl rfl ?_
    refine b_getI lf_X12_326 rfl dX12_canMarry_10 ?_
    refine b_ior dX12_canMarry_13 ?_
    refine b_aload_n dX12_canMarry_14 rfl rfl ?_
    refine b_getI lf_X12_329 rfl dX12_canMarry_15 ?_
    refine b_ior dX12_canMarry_18 ?_
    refine b_iload_n dX12_canMarry_19 rfl rfl ?_
    refine b_callS (As := [_, _]) (st := []) dX12_canMarry_20 lk_X12_370 lm_X12_isOf ls_X12_isOf rfl rfl (Nat.le_of_ble_eq_true rfl) (Nat.le_refl _) (by decide) ?_
    refine c_X12_isOf ?_
    refine b_if_ne (tgt := 66) dX12_canMarry_23 (by decide) (fun h23 => ?_) (fun h23 => ?_)
    · have fn1 := b2i_1 h23
      have n1 : (btI (g 84 33 ||| g 84 34 ||| g 84 35) (nI p) == 0) = false := by
        rcases btI_01 (g 84 33 ||| g 84 34 ||| g 84 35) (nI p) with q | q
        · rw [q] at fn1; exact absurd fn1 (by decide)
        · rw [q]; rfl
      refine b_iconst (v := 0) dX12_canMarry_66 (by decide +kernel) ?_
      refine b_zret (by first | exact Or.inl rfl | exact Or.inr rfl) rfl (by decide) dX12_canMarry_67 ?_
      have e9 : mmB (g 84 33 ||| g 84 34 ||| g 84 35) (g 99) p o = false := by unfold mmB; rw [n1]; simp
      rw [e9] at hq
      exact hq
    · have fn1 := b2i_0 h23
      have n1 : (btI (g 84 33 ||| g 84 34 ||| g 84 35) (nI p) == 0) = true := by
        rcases btI_01 (g 84 33 ||| g 84 34 ||| g 84 35) (nI p) with q | q
        · rw [q]; rfl
        · rw [q] at fn1; exact absurd fn1 (by decide)
      refine b_aload_n dX12_canMarry_26 rfl rfl ?_
      refine b_getI lf_X12_323 rfl dX12_canMarry_27 ?_
      refine b_aload_n dX12_canMarry_30 rfl rfl ?_
      refine b_getI lf_X12_326 rfl dX12_canMarry_31 ?_
      refine b_ior dX12_canMarry_34 ?_
      refine b_aload_n dX12_canMarry_35 rfl rfl ?_
      refine b_getI lf_X12_329 rfl dX12_canMarry_36 ?_
      refine b_ior dX12_canMarry_39 ?_
      refine b_iload_n dX12_canMarry_40 rfl rfl ?_
      refine b_callS (As := [_, _]) (st := []) dX12_canMarry_41 lk_X12_370 lm_X12_isOf ls_X12_isOf rfl rfl (Nat.le_of_ble_eq_true rfl) (Nat.le_refl _) (by decide) ?_
      refine c_X12_isOf ?_
      refine b_if_ne (tgt := 66) dX12_canMarry_44 (by decide) (fun h44 => ?_) (fun h44 => ?_)
      · have fn2 := b2i_1 h44
        have n2 : (btI (g 84 33 ||| g 84 34 ||| g 84 35) (nI o) == 0) = false := by
          rcases btI_01 (g 84 33 ||| g 84 34 ||| g 84 35) (nI o) with q | q
          · rw [q] at fn2; exact absurd fn2 (by decide)
          · rw [q]; rfl
        refine b_iconst (v := 0) dX12_canMarry_66 (by decide +kernel) ?_
        refine b_zret (by first | exact Or.inl rfl | exact Or.inr rfl) rfl (by decide) dX12_canMarry_67 ?_
        have e9 : mmB (g 84 33 ||| g 84 34 ||| g 84 35) (g 99) p o = false := by unfold mmB; rw [n2]; simp
        rw [e9] at hq
        exact hq
      · have fn2 := b2i_0 h44
        have n2 : (btI (g 84 33 ||| g 84 34 ||| g 84 35) (nI o) == 0) = true := by
          rcases btI_01 (g 84 33 ||| g 84 34 ||| g 84 35) (nI o) with q | q
          · rw [q]; rfl
          · rw [q] at fn2; exact absurd fn2 (by decide)
        refine b_aload_n dX12_canMarry_47 rfl rfl ?_
        refine b_getR (b := 99) lf_X12_80 rfl rfl dX12_canMarry_48 ?_
        refine b_iload_n dX12_canMarry_51 rfl rfl ?_
        refine b_ildN (j := p) dX12_canMarry_52 (rfl) (by show _ < 8; omega) ?_
        refine b_aload_n dX12_canMarry_53 rfl rfl ?_
        refine b_getR (b := 99) lf_X12_80 rfl rfl dX12_canMarry_54 ?_
        refine b_iload_n dX12_canMarry_57 rfl rfl ?_
        refine b_ildN (j := o) dX12_canMarry_58 (rfl) (by show _ < 8; omega) ?_
        refine b_icmp_eq (tgt := 66) dX12_canMarry_59 (by decide) (fun h59 => ?_) (fun h59 => ?_)
        · refine b_iconst (v := 0) dX12_canMarry_66 (by decide +kernel) ?_
          refine b_zret (by first | exact Or.inl rfl | exact Or.inr rfl) rfl (by decide) dX12_canMarry_67 ?_
          have e9 : mmB (g 84 33 ||| g 84 34 ||| g 84 35) (g 99) p o = false := by unfold mmB; simp [h59]
          rw [e9] at hq
          exact hq
        · refine b_iconst (v := 1) dX12_canMarry_62 (by decide +kernel) ?_
          refine b_goto (tgt := 67) dX12_canMarry_63 (by decide) ?_
          refine b_zret (by first | exact Or.inl rfl | exact Or.inr rfl) rfl (by decide) dX12_canMarry_67 ?_
          have e9 : mmB (g 84 33 ||| g 84 34 ||| g 84 35) (g 99) p o = true := by unfold mmB; rw [n1, n2]; simp [h59]
          rw [e9] at hq
          exact hq
