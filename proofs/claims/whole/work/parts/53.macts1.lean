theorem RMk.fm {g h : G2} {T : TD} {F : FS} (hk : RMk g T F) (f : FM g h) : RMk h T F := hk.cg (f.2 37 (by decide) (by decide)) (f.2 38 (by decide) (by decide)) (f.1 103 (by decide) (by decide) (by decide) (by decide) (by decide) (by decide)) (f.1 113 (by decide) (by decide) (by decide) (by decide) (by decide) (by decide)) (f.1 114 (by decide) (by decide) (by decide) (by decide) (by decide) (by decide)) (f.1 96 (by decide) (by decide) (by decide) (by decide) (by decide) (by decide))
theorem c_X12_years {E : En} {d : Nat} {Q : QT} {X : XT} {g : G2} {T : TD} {F : FS} (hT : RMt g T) (hM : RMf g T F) (oF : okF T F) (oT : okT T) (hsp : g 84 44 = -1) {n0 : Int32} (hq : ∀ h, RMf h T (yeaM T F n0).2.2 → FB g h → h 84 2 = nI (yeaM T F n0).1 → Q (some (.int (yeaM T F n0).2.1)) h) : M E md_X12_years (d + 6) [.ref 84, .int n0] g Q X := by
  refine M.of _ rfl rfl (Nat.le_of_ble_eq_true rfl) ?_
  refine b_aload_n dX12_years_0 rfl rfl ?_
  refine b_iconst (v := 0) dX12_years_1 (by decide +kernel) ?_
  refine b_putI lf_X12_165 lp_12_2 rfl dX12_years_2 ?_
  have B1 : FB g (up2 g 84 2 0) := (FD.code 0).fb
  have c1 : up2 g 84 2 0 84 2 = 0 := up2_s _ _ _ _
  have hM := hM.code (x := 0)
  have hT := hT.code (x := 0)
  generalize up2 g 84 2 0 = g1 at B1 c1 hM hT ⊢
  have h8 := hT.le
  refine b_iload_n dX12_years_5 rfl rfl ?_
  refine b_i2l dX12_years_6 rfl ?_
  refine b_lconst (v := 1) dX12_years_7 (by decide +kernel) ?_
  refine b_ldc2 lx_X12_391 dX12_years_8 ?_
  refine b_callS (As := [_, _, _]) (st := []) dX12_years_11 lk_X12_168 lm_X12_isIn ls_X12_isIn rfl rfl (Nat.le_of_ble_eq_true rfl) (Nat.le_refl _) (by decide) ?_
  refine c_X12_isIn ?_
  rw [in_64b (a' := 1) (b' := 20) (by decide) (by decide)]
  refine b_if_eq (tgt := 29) dX12_years_14 (by decide) (fun h14 => ?_) (fun h14 => ?_)
  · have e14 := b2i_0 h14
    have hz : ¬ (inB n0.toInt 1 20 = true ∧ l_g (f_S F) 3 0 + n0 ≤ 999) := fun q => by rw [e14] at q; exact absurd q.1 (by decide)
    refine b_aload_n dX12_years_29 rfl rfl ?_
    refine b_iconst (v := 1) dX12_years_30 (by decide +kernel) ?_
    refine b_callV (As := [_]) (st := []) dX12_years_31 lk_X12_393 lm_X12_refuse lv_X12_refuse rfl (by decide) rfl rfl rfl (Nat.le_of_ble_eq_true rfl) (Nat.le_refl _) (by decide) ?_
    refine c_X12_refuse (p := 1) (by decide) ?_
    refine b_iret rfl (by decide) dX12_years_34 ?_
    have e := yeaM_n (T := T) hz
    rw [e] at hq
    exact hq _ (hM.ref (by decide)) (B1.tr (FB.st 1 _)) (by rw [up2_a _ _ _ _ (by decide)]; exact c1)
  · have e14 := b2i_1 h14
    obtain ⟨n, hn1, hn2, rfl⟩ := inB_ex (a := 1) (b := 20) e14
    refine b_aload_n dX12_years_17 rfl rfl ?_
    refine b_getI lf_X12_316 rfl dX12_years_18 ?_
    refine b_iload_n dX12_years_21 rfl rfl ?_
    refine b_iadd dX12_years_22 ?_
    refine b_sipush (v := 999) dX12_years_23 (by decide +kernel) ?_
    refine b_icmp_le (tgt := 35) dX12_years_26 (by decide) (fun h26 => ?_) (fun h26 => ?_)
    · rw [hM.1.yy] at h26
      rw [yeaM_y hn1 hn2 h26] at hq
      refine b_aload_n dX12_years_35 rfl rfl ?_
      refine b_callV (As := []) (st := []) dX12_years_36 lk_X12_396 lm_X12_keep lv_X12_keep rfl (by decide) rfl rfl rfl (Nat.le_of_ble_eq_true rfl) (Nat.le_refl _) (by decide) ?_
      refine c_X12_keep h8 hM oF (fun h hK hRk B2 c2 => ?_)
      have c2 : h 84 2 = 0 := by rw [c2]; exact c1
      have B3 := B2
      have B2 := B1.tr B2
      refine b_aload_n dX12_years_39 rfl rfl ?_
      refine b_iload_n dX12_years_40 rfl rfl ?_
      refine b_callV (As := [_]) (st := []) dX12_years_41 lk_X12_399 lm_X12_goOn lv_X12_goOn rfl (by decide) rfl rfl rfl (Nat.le_of_ble_eq_true rfl) (Nat.le_refl _) (by decide) ?_
      refine c_X12_goOn (sp := -1) (hT.fb B3) hRk oT oF.S.1 (by rw [B2.2 44 (by decide)]; exact hsp) hn2 (fun h3 f3 hR3 => ?_)
      refine b_aload_n dX12_years_44 rfl rfl ?_
      refine b_getI lf_X12_316 rfl dX12_years_45 ?_
      refine b_iret rfl (by decide) dX12_years_48 ?_
      rw [hR3.yy]
      exact hq h3 (RMf.push hR3 (hK.fm f3)) (B2.tr f3.fb) (by rw [f3.2 2 (by decide) (by decide)]; exact c2)
    · have hz : ¬ (inB (nI n).toInt 1 20 = true ∧ l_g (f_S F) 3 0 + nI n ≤ 999) := fun q => h26 (by rw [hM.1.yy]; exact q.2)
      refine b_aload_n dX12_years_29 rfl rfl ?_
      refine b_iconst (v := 1) dX12_years_30 (by decide +kernel) ?_
      refine b_callV (As := [_]) (st := []) dX12_years_31 lk_X12_393 lm_X12_refuse lv_X12_refuse rfl (by decide) rfl rfl rfl (Nat.le_of_ble_eq_true rfl) (Nat.le_refl _) (by decide) ?_
      refine c_X12_refuse (p := 1) (by decide) ?_
      refine b_iret rfl (by decide) dX12_years_34 ?_
      have e := yeaM_n (T := T) hz
      rw [e] at hq
      exact hq _ (hM.ref (by decide)) (B1.tr (FB.st 1 _)) (by rw [up2_a _ _ _ _ (by decide)]; exact c1)
theorem bt1 {m p : Int32} : (btI m p == 1) = !(btI m p == 0) := by
  rcases btI_01 m p with h | h <;> rw [h] <;> rfl
theorem RMl.set {g : G2} {j k : Nat} {T : TD} {x : Int32} {S : LfS} (hR : RMl g T S) (hj : (j = 2 ∧ k = 33) ∨ (j = 3 ∧ k = 34)) : RMl (up2 g 84 k x) T (setS S j x) := by
  have e : ∀ c i, l_g (setS S j x) c i = up2 (l_g S) 3 j x c i := fun _ _ => rfl
  refine hR.upd rfl (up2_k _ _ _ _ (by omega)) (up2_f _ _ _ _ (by decide)) (up2_f _ _ _ _ (by decide)) (up2_f _ _ _ _ (by decide)) (up2_f _ _ _ _ (by decide)) (funext fun i => ?_) (funext fun i => ?_) (funext fun i => ?_) (funext fun i => ?_) ?_ ?_ ?_ ?_ ?_ (fun p hp => ?_) ?_ hR.f6 (fun i hi => ?_) (fun i hi => ?_)
  · rw [e, up2_a _ _ _ _ (by decide)]
  · rw [e, up2_a _ _ _ _ (by decide)]
  · rw [e, up2_a _ _ _ _ (by decide)]
  · rw [e, up2_a _ _ _ _ (by decide)]
  · rw [e, up2_k _ _ _ _ (by omega), up2_k _ _ _ _ (by omega)]; exact hR.yy
  · rw [e, up2_k _ _ _ _ (by omega), up2_k _ _ _ _ (by omega)]; exact hR.key
  · rw [e]
    rcases hj with ⟨rfl, rfl⟩ | ⟨rfl, rfl⟩
    · rw [up2_s, up2_s]
    · rw [up2_k _ _ _ _ (by decide), up2_k _ _ _ _ (by decide)]; exact hR.aw
  · rw [e]
    rcases hj with ⟨rfl, rfl⟩ | ⟨rfl, rfl⟩
    · rw [up2_k _ _ _ _ (by decide), up2_k _ _ _ _ (by decide)]; exact hR.de
    · rw [up2_s, up2_s]
  · rw [e, up2_k _ _ _ _ (by omega), up2_k _ _ _ _ (by omega)]; exact hR.ma
  · rw [e, up2_a _ _ _ _ (by decide), up2_a _ _ _ _ (by decide)]; exact hR.ho p hp
  · rw [up2_k _ _ _ _ (by omega)]; exact hR.fn
  · rw [e, up2_a _ _ _ _ (by decide), up2_a _ _ _ _ (by decide)]; exact hR.fa i hi
  · rw [e, up2_a _ _ _ _ (by decide), up2_a _ _ _ _ (by decide)]; exact hR.fb i hi
theorem RMk.fld {g : G2} {T : TD} {F : FS} {k : Nat} {x : Int32} (hk : RMk g T F) (h : k ≠ 37 ∧ k ≠ 38) : RMk (up2 g 84 k x) T F := hk.cg (up2_k _ _ _ _ (by omega)) (up2_k _ _ _ _ (by omega)) (up2_f _ _ _ _ (by decide)) (up2_f _ _ _ _ (by decide)) (up2_f _ _ _ _ (by decide)) (up2_f _ _ _ _ (by decide))
theorem c_X12_away {E : En} {d : Nat} {Q : QT} {X : XT} {g : G2} {T : TD} {F : FS} (hT : RMt g T) (hM : RMf g T F) (oF : okF T F) {p0 : Int32} {gone : Bool} (hq : ∀ h, RMf h T (awaM T F p0 gone).2.2 → FB g h → h 84 2 = nI (awaM T F p0 gone).1 → Q (some (.int (awaM T F p0 gone).2.1)) h) : M E md_X12_away (d + 2) [.ref 84, .int p0, .int (b2i gone)] g Q X := by
  refine M.of _ rfl rfl (Nat.le_of_ble_eq_true rfl) ?_
  refine b_aload_n dX12_away_0 rfl rfl ?_
  refine b_iconst (v := 0) dX12_away_1 (by decide +kernel) ?_
  refine b_putI lf_X12_165 lp_12_2 rfl dX12_away_2 ?_
  have B1 : FB g (up2 g 84 2 0) := (FD.code 0).fb
  have c1 : up2 g 84 2 0 84 2 = 0 := up2_s _ _ _ _
  have hM := hM.code (x := 0)
  have hT := hT.code (x := 0)
  generalize up2 g 84 2 0 = g1 at B1 c1 hM hT ⊢
  have h8 := hT.le
  refine b_aload_n dX12_away_5 rfl rfl ?_
  refine b_iload_n dX12_away_6 rfl rfl ?_
  refine b_callV (As := [_]) (st := []) dX12_away_7 lk_X12_382 lm_X12_isPerson lv_X12_isPerson rfl (by decide) rfl rfl rfl (Nat.le_of_ble_eq_true rfl) (Nat.le_refl _) (by decide) ?_
  refine c_X12_isPerson hT.n hT.le ?_
  refine b_if_ne (tgt := 19) dX12_away_10 (by decide) (fun h10 => ?_) (fun h10 => ?_)
  · have e10 := b2i_1 h10
    obtain ⟨p, hp, rfl⟩ := in_nat e10
    refine b_aload_n dX12_away_19 rfl rfl ?_
    refine b_getI lf_X12_323 rfl dX12_away_20 ?_
    refine b_iload_n dX12_away_23 rfl rfl ?_
    refine b_callS (As := [_, _]) (st := []) dX12_away_24 lk_X12_370 lm_X12_isOf ls_X12_isOf rfl rfl (Nat.le_of_ble_eq_true rfl) (Nat.le_refl _) (by decide) ?_
    refine c_X12_isOf ?_
    rw [bt1, hM.1.aw]
    refine b_iload_n dX12_away_27 rfl rfl ?_
    refine b_icmp_eq (tgt := 42) dX12_away_28 (by decide) (fun h28 => ?_) (fun h28 => ?_)
    · have hz := awaM_r (F := F) (b := gone) e10 (Or.inr (b2i_inj h28))
      refine b_aload_n dX12_away_42 rfl rfl ?_
      refine b_callV (As := []) (st := []) dX12_away_43 lk_X12_405 lm_X12_refuses lv_X12_refuses rfl (by decide) rfl rfl rfl (Nat.le_of_ble_eq_true rfl) (Nat.le_refl _) (by decide) ?_
      refine c_X12_refuses ?_
      refine b_zret (Or.inl rfl) rfl (by decide) dX12_away_46 ?_
      have e := hz
      rw [e] at hq
      exact hq _ (hM.ref (by decide)) (B1.tr (FB.st 1 _)) (by rw [up2_a _ _ _ _ (by decide)]; exact c1)
    · refine b_aload_n dX12_away_31 rfl rfl ?_
      refine b_getI lf_X12_326 rfl dX12_away_32 ?_
      refine b_iload_n dX12_away_35 rfl rfl ?_
      refine b_callS (As := [_, _]) (st := []) dX12_away_36 lk_X12_370 lm_X12_isOf ls_X12_isOf rfl rfl (Nat.le_of_ble_eq_true rfl) (Nat.le_refl _) (by decide) ?_
      refine c_X12_isOf ?_
      rw [bt1, hM.1.de]
      refine b_if_eq (tgt := 47) dX12_away_39 (by decide) (fun h39 => ?_) (fun h39 => ?_)
      · have e39 := b2i_0 h39
        have hz := awaM_y (F := F) (b := gone) e10 (fun q => q.elim (fun q => by rw [e39] at q; exact absurd q (by decide)) (fun q => h28 (by rw [q])))
        refine b_aload_n dX12_away_47 rfl rfl ?_
        refine b_callV (As := []) (st := []) dX12_away_48 lk_X12_396 lm_X12_keep lv_X12_keep rfl (by decide) rfl rfl rfl (Nat.le_of_ble_eq_true rfl) (Nat.le_refl _) (by decide) ?_
        refine c_X12_keep h8 hM oF (fun h hK hRk B2 c2 => ?_)
        have c2 : h 84 2 = 0 := by rw [c2]; exact c1
        have B2 := B1.tr B2
        refine b_aload_n dX12_away_51 rfl rfl ?_
        refine b_dup dX12_away_52 rfl ?_
        refine b_getI lf_X12_323 rfl dX12_away_53 ?_
        refine b_iconst (v := 1) dX12_away_56 (by decide +kernel) ?_
        refine b_iload_n dX12_away_57 rfl rfl ?_
        refine b_ishl dX12_away_58 ?_
        refine b_ixor dX12_away_59 ?_
        refine b_putI lf_X12_323 lp_12_33 rfl dX12_away_60 ?_
        refine b_iconst (v := 1) dX12_away_63 (by decide +kernel) ?_
        refine b_zret (Or.inr rfl) rfl (by decide) dX12_away_64 ?_
        rw [hz] at hq
        refine hq _ (RMf.push ?_ (hK.fld (by decide))) (B2.tr (FB.fld 33 _ (by decide))) (by rw [up2_k _ _ _ _ (by decide)]; exact c2)
        rw [hRk.aw]
        exact hRk.set (by decide)
      · have e39 := b2i_1 h39
        have hz := awaM_r (F := F) (b := gone) e10 (Or.inl e39)
        refine b_aload_n dX12_away_42 rfl rfl ?_
        refine b_callV (As := []) (st := []) dX12_away_43 lk_X12_405 lm_X12_refuses lv_X12_refuses rfl (by decide) rfl rfl rfl (Nat.le_of_ble_eq_true rfl) (Nat.le_refl _) (by decide) ?_
        refine c_X12_refuses ?_
        refine b_zret (Or.inl rfl) rfl (by decide) dX12_away_46 ?_
        have e := hz
        rw [e] at hq
        exact hq _ (hM.ref (by decide)) (B1.tr (FB.st 1 _)) (by rw [up2_a _ _ _ _ (by decide)]; exact c1)
  · have e10 := b2i_0 h10
    refine b_aload_n dX12_away_13 rfl rfl ?_
    refine b_iconst (v := 1) dX12_away_14 (by decide +kernel) ?_
    refine b_callV (As := [_]) (st := []) dX12_away_15 lk_X12_402 lm_X12_failing lv_X12_failing rfl (by decide) rfl rfl rfl (Nat.le_of_ble_eq_true rfl) (Nat.le_refl _) (by decide) ?_
    refine c_X12_failing ?_
    refine b_zret (Or.inl rfl) rfl (by decide) dX12_away_18 ?_
    rw [awaM_o e10] at hq
    exact hq _ hM.code (B1.tr (FD.code 1).fb) (up2_s _ _ _ _)
theorem c_X12_dies {E : En} {d : Nat} {Q : QT} {X : XT} {g : G2} {T : TD} {F : FS} (hT : RMt g T) (hM : RMf g T F) (oF : okF T F) {p0 : Int32} (hq : ∀ h, RMf h T (dieM T F p0).2.2 → FB g h → h 84 2 = nI (dieM T F p0).1 → Q (some (.int (dieM T F p0).2.1)) h) : M E md_X12_dies (d + 2) [.ref 84, .int p0] g Q X := by
  refine M.of _ rfl rfl (Nat.le_of_ble_eq_true rfl) ?_
  refine b_aload_n dX12_dies_0 rfl rfl ?_
  refine b_iconst (v := 0) dX12_dies_1 (by decide +kernel) ?_
  refine b_putI lf_X12_165 lp_12_2 rfl dX12_dies_2 ?_
  have B1 : FB g (up2 g 84 2 0) := (FD.code 0).fb
  have c1 : up2 g 84 2 0 84 2 = 0 := up2_s _ _ _ _
  have hM := hM.code (x := 0)
  have hT := hT.code (x := 0)
  generalize up2 g 84 2 0 = g1 at B1 c1 hM hT ⊢
  have h8 := hT.le
  refine b_aload_n dX12_dies_5 rfl rfl ?_
  refine b_iload_n dX12_dies_6 rfl rfl ?_
  refine b_callV (As := [_]) (st := []) dX12_dies_7 lk_X12_382 lm_X12_isPerson lv_X12_isPerson rfl (by decide) rfl rfl rfl (Nat.le_of_ble_eq_true rfl) (Nat.le_refl _) (by decide) ?_
  refine c_X12_isPerson hT.n hT.le ?_
  refine b_if_ne (tgt := 19) dX12_dies_10 (by decide) (fun h10 => ?_) (fun h10 => ?_)
  · have e10 := b2i_1 h10
    obtain ⟨p, hp, rfl⟩ := in_nat e10
    refine b_aload_n dX12_dies_19 rfl rfl ?_
    refine b_getI lf_X12_326 rfl dX12_dies_20 ?_
    refine b_iload_n dX12_dies_23 rfl rfl ?_
    refine b_callS (As := [_, _]) (st := []) dX12_dies_24 lk_X12_370 lm_X12_isOf ls_X12_isOf rfl rfl (Nat.le_of_ble_eq_true rfl) (Nat.le_refl _) (by decide) ?_
    refine c_X12_isOf ?_
    rw [bt1, hM.1.de]
    refine b_if_eq (tgt := 35) dX12_dies_27 (by decide) (fun h27 => ?_) (fun h27 => ?_)
    · have e27 := b2i_0 h27
      have hz := dieM_y (F := F) e10 e27
      refine b_aload_n dX12_dies_35 rfl rfl ?_
      refine b_callV (As := []) (st := []) dX12_dies_36 lk_X12_396 lm_X12_keep lv_X12_keep rfl (by decide) rfl rfl rfl (Nat.le_of_ble_eq_true rfl) (Nat.le_refl _) (by decide) ?_
      refine c_X12_keep h8 hM oF (fun h hK hRk B2 c2 => ?_)
      have c2 : h 84 2 = 0 := by rw [c2]; exact c1
      have B2 := B1.tr B2
      refine b_aload_n dX12_dies_39 rfl rfl ?_
      refine b_dup dX12_dies_40 rfl ?_
      refine b_getI lf_X12_326 rfl dX12_dies_41 ?_
      refine b_iconst (v := 1) dX12_dies_44 (by decide +kernel) ?_
      refine b_iload_n dX12_dies_45 rfl rfl ?_
      refine b_ishl dX12_dies_46 ?_
      refine b_ior dX12_dies_47 ?_
      refine b_putI lf_X12_326 lp_12_34 rfl dX12_dies_48 ?_
      refine b_iconst (v := 1) dX12_dies_51 (by decide +kernel) ?_
      refine b_zret (Or.inr rfl) rfl (by decide) dX12_dies_52 ?_
      rw [hz] at hq
      refine hq _ (RMf.push ?_ (hK.fld (by decide))) (B2.tr (FB.fld 34 _ (by decide))) (by rw [up2_k _ _ _ _ (by decide)]; exact c2)
      rw [hRk.de]
      exact hRk.set (by decide)
    · have e27 := b2i_1 h27
      have hz := dieM_r (F := F) e10 e27
      refine b_aload_n dX12_dies_30 rfl rfl ?_
      refine b_callV (As := []) (st := []) dX12_dies_31 lk_X12_405 lm_X12_refuses lv_X12_refuses rfl (by decide) rfl rfl rfl (Nat.le_of_ble_eq_true rfl) (Nat.le_refl _) (by decide) ?_
      refine c_X12_refuses ?_
      refine b_zret (Or.inl rfl) rfl (by decide) dX12_dies_34 ?_
      have e := hz
      rw [e] at hq
      exact hq _ (hM.ref (by decide)) (B1.tr (FB.st 1 _)) (by rw [up2_a _ _ _ _ (by decide)]; exact c1)
  · have e10 := b2i_0 h10
    refine b_aload_n dX12_dies_13 rfl rfl ?_
    refine b_iconst (v := 1) dX12_dies_14 (by decide +kernel) ?_
    refine b_callV (As := [_]) (st := []) dX12_dies_15 lk_X12_402 lm_X12_failing lv_X12_failing rfl (by decide) rfl rfl rfl (Nat.le_of_ble_eq_true rfl) (Nat.le_refl _) (by decide) ?_
    refine c_X12_failing ?_
    refine b_zret (Or.inl rfl) rfl (by decide) dX12_dies_18 ?_
    rw [dieM_o e10] at hq
    exact hq _ hM.code (B1.tr (FD.code 1).fb) (up2_s _ _ _ _)
theorem RMl.wed {g h : G2} {p o : Nat} {T : TD} {S : LfS} (hR : RMl g T S) (hp : p < t_n T) (hF : ∀ y, y ≠ 84 → y ≠ 99 → h y = g y) (h1 : ∀ j, j ≠ 31 → j ≠ 35 → h 84 j = g 84 j) (h5 : h 84 31 = byM (g 84 31 + 7)) (h8 : h 84 35 = g 84 35 ||| (sbI (nI p) ||| sbI (nI o))) (h4 : ∀ j, j ≠ o → h 99 j = g 99 j) (h4o : h 99 o = g 99 p) : RMl h T (wedS S p o) := by
  have e : ∀ c i, l_g (wedS S p o) c i = up2 (up2 (up2 (l_g S) 3 1 (byM (l_g S 3 1 + 7))) 4 o (l_g S 4 p)) 3 4 (l_g S 3 4 ||| (sbI (nI p) ||| sbI (nI o))) c i := fun _ _ => rfl
  refine hR.upd rfl (h1 32 (by decide) (by decide)) (hF _ (by decide) (by decide)) (hF _ (by decide) (by decide)) (hF _ (by decide) (by decide)) (hF _ (by decide) (by decide)) (funext fun i => ?_) (funext fun i => ?_) (funext fun i => ?_) (funext fun i => ?_) ?_ ?_ ?_ ?_ ?_ (fun q hq2 => ?_) ?_ hR.f6 (fun i hi => ?_) (fun i hi => ?_)
  · rw [e]; simp [up2]
  · rw [e]; simp [up2]
  · rw [e]; simp [up2]
  · rw [e]; simp [up2]
  · rw [e, h1 _ (by decide) (by decide), hR.yy]; simp [up2]
  · rw [e, h5, hR.key]; simp [up2]
  · rw [e, h1 _ (by decide) (by decide), hR.aw]; simp [up2]
  · rw [e, h1 _ (by decide) (by decide), hR.de]; simp [up2]
  · rw [e, h8, hR.ma]; simp [up2]
  · rw [e]
    by_cases z : q = o
    · subst z; rw [h4o, hR.ho p hp]; simp [up2]
    · rw [h4 q z, hR.ho q hq2]; simp [up2, z]
  · rw [h1 _ (by decide) (by decide)]; exact hR.fn
  · rw [e, hF _ (by decide) (by decide), hR.fa i hi]; simp [up2]
  · rw [e, hF _ (by decide) (by decide), hR.fb i hi]; simp [up2]
theorem c_X12_marry {E : En} {d : Nat} {Q : QT} {X : XT} {g : G2} {T : TD} {F : FS} (hT : RMt g T) (hM : RMf g T F) (oF : okF T F) {p0 o0 : Int32} (hq : ∀ h, RMf h T (marM T F p0 o0).2.2 → FB g h → h 84 2 = nI (marM T F p0 o0).1 → Q (some (.int (marM T F p0 o0).2.1)) h) : M E md_X12_marry (d + 2) [.ref 84, .int p0, .int o0] g Q X := by
  refine M.of _ rfl rfl (Nat.le_of_ble_eq_true rfl) ?_
  refine b_aload_n dX12_marry_0 rfl rfl ?_
  refine b_iconst (v := 0) dX12_marry_1 (by decide +kernel) ?_
  refine b_putI lf_X12_165 lp_12_2 rfl dX12_marry_2 ?_
  have B1 : FB g (up2 g 84 2 0) := (FD.code 0).fb
  have c1 : up2 g 84 2 0 84 2 = 0 := up2_s _ _ _ _
  have hM := hM.code (x := 0)
  have hT := hT.code (x := 0)
  generalize up2 g 84 2 0 = g1 at B1 c1 hM hT ⊢
  have h8 := hT.le
  refine b_aload_n dX12_marry_5 rfl rfl ?_
  refine b_iload_n dX12_marry_6 rfl rfl ?_
  refine b_callV (As := [_]) (st := []) dX12_marry_7 lk_X12_382 lm_X12_isPerson lv_X12_isPerson rfl (by decide) rfl rfl rfl (Nat.le_of_ble_eq_true rfl) (Nat.le_refl _) (by decide) ?_
  refine c_X12_isPerson hT.n hT.le ?_
  refine b_if_eq (tgt := 21) dX12_marry_10 (by decide) (fun h10 => ?_) (fun h10 => ?_)
  · have e10 := b2i_0 h10
    refine b_aload_n dX12_marry_21 rfl rfl ?_
    refine b_iconst (v := 1) dX12_marry_22 (by decide +kernel) ?_
    refine b_callV (As := [_]) (st := []) dX12_marry_23 lk_X12_303 lm_X12_fail lv_X12_fail rfl (by decide) rfl rfl rfl (Nat.le_of_ble_eq_true rfl) (Nat.le_refl _) (by decide) ?_
    refine c_X12_fail ?_
    refine b_iret rfl (by decide) dX12_marry_26 ?_
    rw [marM_o (Or.inl e10)] at hq
    exact hq _ hM.code (B1.tr (FD.code 1).fb) (up2_s _ _ _ _)
  · have e10 := b2i_1 h10
    refine b_aload_n dX12_marry_13 rfl rfl ?_
    refine b_iload_n dX12_marry_14 rfl rfl ?_
    refine b_callV (As := [_]) (st := []) dX12_marry_15 lk_X12_382 lm_X12_isPerson lv_X12_isPerson rfl (by decide) rfl rfl rfl (Nat.le_of_ble_eq_true rfl) (Nat.le_refl _) (by decide) ?_
    refine c_X12_isPerson hT.n hT.le ?_
    refine b_if_ne (tgt := 27) dX12_marry_18 (by decide) (fun h18 => ?_) (fun h18 => ?_)
    · have e18 := b2i_1 h18
      obtain ⟨p, hp, rfl⟩ := in_nat e10
      obtain ⟨o, ho, rfl⟩ := in_nat e18
      rw [marM_i hp ho h8] at hq
      refine b_aload_n dX12_marry_27 rfl rfl ?_
      refine b_iload_n dX12_marry_28 rfl rfl ?_
      refine b_iload_n dX12_marry_29 rfl rfl ?_
      refine b_callV (As := [_, _]) (st := []) dX12_marry_30 lk_X12_409 lm_X12_canMarry lv_X12_canMarry rfl (by decide) rfl rfl rfl (Nat.le_of_ble_eq_true rfl) (Nat.le_refl _) (by decide) ?_
      refine c_X12_canMarry (by omega) (by omega) ?_
      rw [mmB_cg (by rw [hM.1.aw, hM.1.de, hM.1.ma]) (hM.1.ho p hp) (hM.1.ho o ho)]
      refine b_if_ne (tgt := 42) dX12_marry_33 (by decide) (fun h33 => ?_) (fun h33 => ?_)
      · have e33 := b2i_1 h33
        rw [if_pos e33] at hq
        refine b_aload_n dX12_marry_42 rfl rfl ?_
        refine b_callV (As := []) (st := []) dX12_marry_43 lk_X12_396 lm_X12_keep lv_X12_keep rfl (by decide) rfl rfl rfl (Nat.le_of_ble_eq_true rfl) (Nat.le_refl _) (by decide) ?_
        refine c_X12_keep h8 hM oF (fun h hK hRk B2 c2 => ?_)
        have c2 : h 84 2 = 0 := by rw [c2]; exact c1
        have B2 := B1.tr B2
        refine b_aload_n dX12_marry_46 rfl rfl ?_
        refine b_iload_n dX12_marry_47 rfl rfl ?_
        refine b_iload_n dX12_marry_48 rfl rfl ?_
        refine b_callV (As := [_, _]) (st := []) dX12_marry_49 lk_X12_412 lm_X12_wed lv_X12_wed rfl (by decide) rfl rfl rfl (Nat.le_of_ble_eq_true rfl) (Nat.le_refl _) (by decide) ?_
        refine c_X12_wed (by omega) (by omega) (fun h3 wF w1 w5 w8 w4 w4o => ?_)
        have hR3 := hRk.wed hp wF w1 w5 w8 w4 w4o
        refine b_aload_n dX12_marry_52 rfl rfl ?_
        refine b_getI lf_X12_318 rfl dX12_marry_53 ?_
        refine b_iret rfl (by decide) dX12_marry_56 ?_
        rw [w5, hRk.key]
        exact hq h3 (RMf.push hR3 (hK.cg (w1 37 (by decide) (by decide)) (w1 38 (by decide) (by decide)) (wF _ (by decide) (by decide)) (wF _ (by decide) (by decide)) (wF _ (by decide) (by decide)) (wF _ (by decide) (by decide)))) (B2.tr ⟨fun y hy => wF y (by omega) (by omega), fun j hj => w1 j (by omega) (by omega)⟩) (by rw [w1 2 (by decide) (by decide)]; exact c2)
      · have e33 := b2i_0 h33
        rw [if_neg (by rw [e33]; decide)] at hq
        refine b_aload_n dX12_marry_36 rfl rfl ?_
        refine b_iconst (v := 1) dX12_marry_37 (by decide +kernel) ?_
        refine b_callV (As := [_]) (st := []) dX12_marry_38 lk_X12_393 lm_X12_refuse lv_X12_refuse rfl (by decide) rfl rfl rfl (Nat.le_of_ble_eq_true rfl) (Nat.le_refl _) (by decide) ?_
        refine c_X12_refuse (p := 1) (by decide) ?_
        refine b_iret rfl (by decide) dX12_marry_41 ?_
        exact hq _ (hM.ref (by decide)) (B1.tr (FB.st 1 _)) (by rw [up2_a _ _ _ _ (by decide)]; exact c1)
    · have e18 := b2i_0 h18
      refine b_aload_n dX12_marry_21 rfl rfl ?_
      refine b_iconst (v := 1) dX12_marry_22 (by decide +kernel) ?_
      refine b_callV (As := [_]) (st := []) dX12_marry_23 lk_X12_303 lm_X12_fail lv_X12_fail rfl (by decide) rfl rfl rfl (Nat.le_of_ble_eq_true rfl) (Nat.le_refl _) (by decide) ?_
      refine c_X12_fail ?_
      refine b_iret rfl (by decide) dX12_marry_26 ?_
      rw [marM_o (Or.inr e18)] at hq
      exact hq _ hM.code (B1.tr (FD.code 1).fb) (up2_s _ _ _ _)
theorem RMl.fds {g h : G2} {T : TD} {S R : LfS} (hR : RMl g T S) (hz : ∀ y, y ≠ 84 → y ≠ 101 → y ≠ 102 → h y = g y) (h1 : ∀ j, j ≠ 36 → h 84 j = g 84 j) (hn : l_n R = l_n S) (hc : ∀ c, c < 6 → l_g R c = l_g S c) (fn : h 84 36 = nI (l_fn R)) (f6 : l_fn R ≤ 6) (fa : ∀ i, i < l_fn R → h 101 i = l_g R 6 i) (fb : ∀ i, i < l_fn R → h 102 i = l_g R 7 i) : RMl h T R := by
  refine hR.upd hn (h1 _ (by decide)) (hz _ (by decide) (by decide) (by decide)) (hz _ (by decide) (by decide) (by decide)) (hz _ (by decide) (by decide) (by decide)) (hz _ (by decide) (by decide) (by decide)) (hc 0 (by decide)) (hc 1 (by decide)) (hc 2 (by decide)) (hc 5 (by decide)) ?_ ?_ ?_ ?_ ?_ (fun q hq => ?_) fn f6 fa fb
  · rw [h1 _ (by decide), hc 3 (by decide)]; exact hR.yy
  · rw [h1 _ (by decide), hc 3 (by decide)]; exact hR.key
  · rw [h1 _ (by decide), hc 3 (by decide)]; exact hR.aw
  · rw [h1 _ (by decide), hc 3 (by decide)]; exact hR.de
  · rw [h1 _ (by decide), hc 3 (by decide)]; exact hR.ma
  · rw [hz _ (by decide) (by decide) (by decide), hc 4 (by decide)]; exact hR.ho q hq
theorem c_X12_quarrel {E : En} {d : Nat} {Q : QT} {X : XT} {g : G2} {T : TD} {F : FS} (hT : RMt g T) (hM : RMf g T F) (oF : okF T F) {p0 o0 : Int32} (hq : ∀ h, RMf h T (quaM T F p0 o0).2.2 → FB g h → h 84 2 = nI (quaM T F p0 o0).1 → Q (some (.int (quaM T F p0 o0).2.1)) h) : M E md_X12_quarrel (d + 2) [.ref 84, .int p0, .int o0] g Q X := by
  refine M.of _ rfl rfl (Nat.le_of_ble_eq_true rfl) ?_
  refine b_aload_n dX12_quarrel_0 rfl rfl ?_
  refine b_iconst (v := 0) dX12_quarrel_1 (by decide +kernel) ?_
  refine b_putI lf_X12_165 lp_12_2 rfl dX12_quarrel_2 ?_
  have B1 : FB g (up2 g 84 2 0) := (FD.code 0).fb
  have c1 : up2 g 84 2 0 84 2 = 0 := up2_s _ _ _ _
  have hM := hM.code (x := 0)
  have hT := hT.code (x := 0)
  generalize up2 g 84 2 0 = g1 at B1 c1 hM hT ⊢
  have h8 := hT.le
  refine b_aload_n dX12_quarrel_5 rfl rfl ?_
  refine b_iload_n dX12_quarrel_6 rfl rfl ?_
  refine b_callV (As := [_]) (st := []) dX12_quarrel_7 lk_X12_382 lm_X12_isPerson lv_X12_isPerson rfl (by decide) rfl rfl rfl (Nat.le_of_ble_eq_true rfl) (Nat.le_refl _) (by decide) ?_
  refine c_X12_isPerson hT.n hT.le ?_
  refine b_if_eq (tgt := 21) dX12_quarrel_10 (by decide) (fun h10 => ?_) (fun h10 => ?_)
  · have e10 := b2i_0 h10
    refine b_aload_n dX12_quarrel_21 rfl rfl ?_
    refine b_iconst (v := 1) dX12_quarrel_22 (by decide +kernel) ?_
    refine b_callV (As := [_]) (st := []) dX12_quarrel_23 lk_X12_303 lm_X12_fail lv_X12_fail rfl (by decide) rfl rfl rfl (Nat.le_of_ble_eq_true rfl) (Nat.le_refl _) (by decide) ?_
    refine c_X12_fail ?_
    refine b_iret rfl (by decide) dX12_quarrel_26 ?_
    rw [quaM_o (Or.inl e10)] at hq
    exact hq _ hM.code (B1.tr (FD.code 1).fb) (up2_s _ _ _ _)
  · have e10 := b2i_1 h10
    refine b_aload_n dX12_quarrel_13 rfl rfl ?_
    refine b_iload_n dX12_quarrel_14 rfl rfl ?_
    refine b_callV (As := [_]) (st := []) dX12_quarrel_15 lk_X12_382 lm_X12_isPerson lv_X12_isPerson rfl (by decide) rfl rfl rfl (Nat.le_of_ble_eq_true rfl) (Nat.le_refl _) (by decide) ?_
    refine c_X12_isPerson hT.n hT.le ?_
    refine b_if_ne (tgt := 27) dX12_quarrel_18 (by decide) (fun h18 => ?_) (fun h18 => ?_)
    · have e18 := b2i_1 h18
      obtain ⟨p, hp, rfl⟩ := in_nat e10
      obtain ⟨o, ho, rfl⟩ := in_nat e18
      have hf6 := hM.1.f6
      refine b_iload_n dX12_quarrel_27 rfl rfl ?_
      refine b_iload_n dX12_quarrel_28 rfl rfl ?_
      refine b_icmp_eq (tgt := 50) dX12_quarrel_29 (by decide) (fun h29 => ?_) (fun h29 => ?_)
      · have hz := quaM_r (F := F) e10 e18 (Or.inl h29)
        refine b_aload_n dX12_quarrel_50 rfl rfl ?_
        refine b_iconst (v := 1) dX12_quarrel_51 (by decide +kernel) ?_
        refine b_callV (As := [_]) (st := []) dX12_quarrel_52 lk_X12_393 lm_X12_refuse lv_X12_refuse rfl (by decide) rfl rfl rfl (Nat.le_of_ble_eq_true rfl) (Nat.le_refl _) (by decide) ?_
        refine c_X12_refuse (p := 1) (by decide) ?_
        refine b_iret rfl (by decide) dX12_quarrel_55 ?_
        have e := hz
        rw [e] at hq
        exact hq _ (hM.ref (by decide)) (B1.tr (FB.st 1 _)) (by rw [up2_a _ _ _ _ (by decide)]; exact c1)
      · refine b_aload_n dX12_quarrel_32 rfl rfl ?_
        refine b_iload_n dX12_quarrel_33 rfl rfl ?_
        refine b_iload_n dX12_quarrel_34 rfl rfl ?_
        refine b_callV (As := [_, _]) (st := []) dX12_quarrel_35 lk_X12_367 lm_X12_isFeud lv_X12_isFeud rfl (by decide) rfl rfl rfl (Nat.le_of_ble_eq_true rfl) (Nat.le_refl _) (by decide) ?_
        refine c_X12_isFeud hM.1.fn hM.1.f6 ?_
        rw [fdP_cg (fun i hi => hM.1.fa i hi) (fun i hi => hM.1.fb i hi)]
        refine b_if_ne (tgt := 50) dX12_quarrel_38 (by decide) (fun h38 => ?_) (fun h38 => ?_)
        · have e38 := b2i_1 h38
          have hz := quaM_r (F := F) e10 e18 (Or.inr (Or.inl e38))
          refine b_aload_n dX12_quarrel_50 rfl rfl ?_
          refine b_iconst (v := 1) dX12_quarrel_51 (by decide +kernel) ?_
          refine b_callV (As := [_]) (st := []) dX12_quarrel_52 lk_X12_393 lm_X12_refuse lv_X12_refuse rfl (by decide) rfl rfl rfl (Nat.le_of_ble_eq_true rfl) (Nat.le_refl _) (by decide) ?_
          refine c_X12_refuse (p := 1) (by decide) ?_
          refine b_iret rfl (by decide) dX12_quarrel_55 ?_
          have e := hz
          rw [e] at hq
          exact hq _ (hM.ref (by decide)) (B1.tr (FB.st 1 _)) (by rw [up2_a _ _ _ _ (by decide)]; exact c1)
        · have e38 := b2i_0 h38
          refine b_aload_n dX12_quarrel_41 rfl rfl ?_
          refine b_getI lf_X12_332 rfl dX12_quarrel_42 ?_
          refine b_topE (y := nI (l_fn (f_S F))) (hM.1.fn) ?_
          refine b_bipush (v := 6) dX12_quarrel_45 (by decide +kernel) ?_
          refine b_icmp_ne (tgt := 56) dX12_quarrel_47 (by decide) (fun h47 => ?_) (fun h47 => ?_)
          · have e47 : (l_fn (f_S F)) ≠ 6 := fun q => h47 (congrArg nI q)
            have hz := quaM_y (F := F) e10 e18 (fun q => q.elim h29 (fun q => q.elim (fun q => by rw [e38] at q; exact absurd q (by decide)) (fun q => absurd e47 (by omega))))
            rw [hz] at hq
            refine b_aload_n dX12_quarrel_56 rfl rfl ?_
            refine b_callV (As := []) (st := []) dX12_quarrel_57 lk_X12_396 lm_X12_keep lv_X12_keep rfl (by decide) rfl rfl rfl (Nat.le_of_ble_eq_true rfl) (Nat.le_refl _) (by decide) ?_
            refine c_X12_keep h8 hM oF (fun h hK hRk B2 c2 => ?_)
            have c2 : h 84 2 = 0 := by rw [c2]; exact c1
            have B2 := B1.tr B2
            refine b_aload_n dX12_quarrel_60 rfl rfl ?_
            refine b_getR (b := 101) lf_X12_84 rfl rfl dX12_quarrel_61 ?_
            refine b_aload_n dX12_quarrel_64 rfl rfl ?_
            refine b_getI lf_X12_332 rfl dX12_quarrel_65 ?_
            refine b_topE (y := nI (l_fn (f_S F))) (hRk.fn) ?_
            refine b_iload_n dX12_quarrel_68 rfl rfl ?_
            refine b_istN (j := l_fn (f_S F)) dX12_quarrel_69 (rfl) (by show _ < 6; omega) ?_
            refine b_aload_n dX12_quarrel_70 rfl rfl ?_
            refine b_getR (b := 102) lf_X12_87 rfl rfl dX12_quarrel_71 ?_
            refine b_aload_n dX12_quarrel_74 rfl rfl ?_
            refine b_getI lf_X12_332 rfl dX12_quarrel_75 ?_
            refine b_topE (y := nI (l_fn (f_S F))) (by rw [up2_a _ _ _ _ (by decide)]; exact hRk.fn) ?_
            refine b_iload_n dX12_quarrel_78 rfl rfl ?_
            refine b_istN (j := l_fn (f_S F)) dX12_quarrel_79 (rfl) (by show _ < 6; omega) ?_
            refine b_aload_n dX12_quarrel_80 rfl rfl ?_
            refine b_dup dX12_quarrel_81 rfl ?_
            refine b_getI lf_X12_332 rfl dX12_quarrel_82 ?_
            refine b_topE (y := nI (l_fn (f_S F))) (by rw [up2_a _ _ _ _ (by decide), up2_a _ _ _ _ (by decide)]; exact hRk.fn) ?_
            refine b_iconst (v := 1) dX12_quarrel_85 (by decide +kernel) ?_
            refine b_iadd dX12_quarrel_86 ?_
            refine b_topE (nI_add (l_fn (f_S F)) 1) ?_
            refine b_putI lf_X12_332 lp_12_36 rfl dX12_quarrel_87 ?_
            refine b_aload_n dX12_quarrel_90 rfl rfl ?_
            refine b_getI lf_X12_332 rfl dX12_quarrel_91 ?_
            refine b_topE (y := nI ((l_fn (f_S F) + 1))) (up2_s _ _ _ _) ?_
            refine b_iconst (v := 1) dX12_quarrel_94 (by decide +kernel) ?_
            refine b_isub dX12_quarrel_95 ?_
            refine b_topE (nI_sub ((l_fn (f_S F) + 1)) 1 (by omega)) ?_
            refine b_iret rfl (by decide) dX12_quarrel_96 ?_
            refine hq _ (RMf.push (hRk.fds (fun y y1 y2 y3 => by rw [up2_f _ _ _ _ y1, up2_f _ _ _ _ y3, up2_f _ _ _ _ y2]) (fun j j1 => by rw [up2_k _ _ _ _ j1, up2_a _ _ _ _ (by decide), up2_a _ _ _ _ (by decide)]) rfl (fun c hc => quaS_c _ _ _ hc) (up2_s _ _ _ _) (by show l_fn (f_S F) + 1 ≤ 6; omega) (fun i hi => ?_) (fun i hi => ?_)) (hK.cg (by rw [up2_k _ _ _ _ (by decide), up2_a _ _ _ _ (by decide), up2_a _ _ _ _ (by decide)]) (by rw [up2_k _ _ _ _ (by decide), up2_a _ _ _ _ (by decide), up2_a _ _ _ _ (by decide)]) (by rw [up2_f _ _ _ _ (by decide), up2_f _ _ _ _ (by decide), up2_f _ _ _ _ (by decide)]) (by rw [up2_f _ _ _ _ (by decide), up2_f _ _ _ _ (by decide), up2_f _ _ _ _ (by decide)]) (by rw [up2_f _ _ _ _ (by decide), up2_f _ _ _ _ (by decide), up2_f _ _ _ _ (by decide)]) (by rw [up2_f _ _ _ _ (by decide), up2_f _ _ _ _ (by decide), up2_f _ _ _ _ (by decide)]))) (B2.tr ⟨fun y hy => by rw [up2_f _ _ _ _ (by omega), up2_f _ _ _ _ (by omega), up2_f _ _ _ _ (by omega)], fun j hj => by rw [up2_k _ _ _ _ (by omega), up2_a _ _ _ _ (by decide), up2_a _ _ _ _ (by decide)]⟩) (by rw [up2_k _ _ _ _ (by decide), up2_a _ _ _ _ (by decide), up2_a _ _ _ _ (by decide)]; exact c2)
            · have hi : i < l_fn (f_S F) + 1 := hi
              rw [quaS_6, up2_a _ _ _ _ (by decide), up2_a _ _ _ _ (by decide), up2_if]
              by_cases e : i = l_fn (f_S F)
              · rw [if_pos e, if_pos e]
              · rw [if_neg e, if_neg e]; exact hRk.fa i (by omega)
            · have hi : i < l_fn (f_S F) + 1 := hi
              rw [quaS_7, up2_a _ _ _ _ (by decide), up2_if, up2_a _ _ _ _ (by decide)]
              by_cases e : i = l_fn (f_S F)
              · rw [if_pos e, if_pos e]
              · rw [if_neg e, if_neg e]; exact hRk.fb i (by omega)
          · have e47 : (l_fn (f_S F)) = 6 := nI_inj (a := (l_fn (f_S F))) (b := 6) (by omega) (by omega) h47
            have hz := quaM_r (F := F) e10 e18 (Or.inr (Or.inr (by omega)))
            refine b_aload_n dX12_quarrel_50 rfl rfl ?_
            refine b_iconst (v := 1) dX12_quarrel_51 (by decide +kernel) ?_
            refine b_callV (As := [_]) (st := []) dX12_quarrel_52 lk_X12_393 lm_X12_refuse lv_X12_refuse rfl (by decide) rfl rfl rfl (Nat.le_of_ble_eq_true rfl) (Nat.le_refl _) (by decide) ?_
            refine c_X12_refuse (p := 1) (by decide) ?_
            refine b_iret rfl (by decide) dX12_quarrel_55 ?_
            have e := hz
            rw [e] at hq
            exact hq _ (hM.ref (by decide)) (B1.tr (FB.st 1 _)) (by rw [up2_a _ _ _ _ (by decide)]; exact c1)
    · have e18 := b2i_0 h18
      refine b_aload_n dX12_quarrel_21 rfl rfl ?_
      refine b_iconst (v := 1) dX12_quarrel_22 (by decide +kernel) ?_
      refine b_callV (As := [_]) (st := []) dX12_quarrel_23 lk_X12_303 lm_X12_fail lv_X12_fail rfl (by decide) rfl rfl rfl (Nat.le_of_ble_eq_true rfl) (Nat.le_refl _) (by decide) ?_
      refine c_X12_fail ?_
      refine b_iret rfl (by decide) dX12_quarrel_26 ?_
      rw [quaM_o (Or.inr e18)] at hq
      exact hq _ hM.code (B1.tr (FD.code 1).fb) (up2_s _ _ _ _)
