theorem town_31 {t : Nat} (h : is_town t) : t < 2 ^ 31 := by rcases h with rfl | rfl <;> decide
theorem mirF_cg {f f2 : Nat → Int32} {n : Nat} (h : ∀ i, i < n → f i = f2 i) : ∀ b e, b ≤ n → mirF f n b e = mirF f2 n b e
  | 0, e, _ => rfl
  | b + 1, e, hb => by
    rw [mirF, mirF, mirF_cg h b (e + 1) (by omega)]
    by_cases he : e < n
    · rw [h b (by omega), h e he]
    · rw [if_neg (fun q => he q.1), if_neg (fun q => he q.1)]
/-- what lies outside the class's scratch stays -/
def scC (y : Nat) : Prop := y = 17 ∨ y = 30 ∨ (41 ≤ y ∧ y ≤ 50) ∨ (74 ≤ y ∧ y ≤ 83)
def FC (g h : G2) : Prop := ∀ y, ¬ scC y → h y = g y
theorem FC.rf (g : G2) : FC g g := fun _ _ => rfl
theorem FC.tr {g h k : G2} (h1 : FC g h) (h2 : FC h k) : FC g k := fun y q => (h2 y q).trans (h1 y q)
def mxI (a b : Int32) : Int32 := if a < b then b else a
def palM (f : Nat → Int32) (n : Nat) : Nat → Int32
  | 0 => 0
  | i + 1 => mxI (mxI (palM f n i) (mirF f n (i + 1) i)) (mirF f n (i + 1) (i + 1))
theorem palM_cg {f f2 : Nat → Int32} {n : Nat} (h : ∀ i, i < n → f i = f2 i) : ∀ i, i ≤ n → palM f n i = palM f2 n i
  | 0, _ => rfl
  | i + 1, hi => by rw [palM, palM, palM_cg h i (by omega), mirF_cg h _ _ hi, mirF_cg h _ _ hi]
theorem mxI_as (a b c : Int32) : mxI a (mxI b c) = mxI (mxI a b) c := by
  unfold mxI
  have t : ∀ {x y : Int32}, ¬ x < y → y ≤ x := fun h => Int32.not_lt.mp h
  by_cases h1 : a < b <;> by_cases h2 : b < c <;> by_cases h3 : a < c <;> simp only [h1, h2, h3, if_true, if_false]
  · exact absurd (Int32.lt_trans h1 h2) h3
  · exact absurd (Int32.lt_of_le_of_lt (t h1) h3) h2
theorem c_X11_palindrome {E : En} {d : Nat} {Q : QT} {X : XT} {g : G2} {n : Nat} (hn : g 31 3 = nI n) (h4 : n ≤ 400) (hq : Q (some (.int (palM (g 32) n n))) g) : M E md_X11_palindrome (d + 1) [.ref 0] g Q X := by
  refine M.of _ rfl rfl (Nat.le_of_ble_eq_true rfl) ?_
  have LP : ∀ i, i ≤ n → B E md_X11_palindrome (d + 1) Q X 4 [(0, .ref 0), (1, .int (palM (g 32) n i)), (2, .int (nI i))] [] g 0 := by
    refine lp_up (fun i hi ih => ?_)
    refine b_iload_n dX11_palindrome_4 rfl rfl ?_
    refine b_aload_n dX11_palindrome_5 rfl rfl ?_
    refine b_getR (b := 31) lf_X11_33 rfl rfl dX11_palindrome_6 ?_
    refine b_getI lf_X11_140 (life_c is_life31) dX11_palindrome_9 ?_
    refine b_icmp_ge (tgt := 51) dX11_palindrome_12 (by decide) (fun h12 => ?_) (fun h12 => ?_)
    · have e : i = n := by have := (nI_leI (by omega) (by omega)).mp (hn ▸ h12); omega
      subst e
      refine b_iload_n dX11_palindrome_51 rfl rfl ?_
      refine b_iret rfl (by decide) dX11_palindrome_52 ?_
      exact hq
    · have e : i < n := by
        rcases Nat.lt_or_ge i n with q | q
        · exact q
        · exact absurd (hn ▸ (nI_leI (by omega) (by omega)).mpr q) h12
      refine b_iload_n dX11_palindrome_15 rfl rfl ?_
      refine b_aload_n dX11_palindrome_16 rfl rfl ?_
      refine b_getR (b := 31) lf_X11_33 rfl rfl dX11_palindrome_17 ?_
      refine b_iload_n dX11_palindrome_20 rfl rfl ?_
      refine b_iload_n dX11_palindrome_21 rfl rfl ?_
      refine b_callV (As := [_, _]) (st := [_]) dX11_palindrome_22 lk_X11_292 lm_X5_mirrored lv_X5_mirrored (life_c is_life31) (by decide) rfl rfl rfl (Nat.le_of_ble_eq_true rfl) (Nat.le_refl _) (by decide) ?_
      refine c_X5_mirrored is_life31 hn h4 (by omega) (by omega) ?_
      refine b_max dX11_palindrome_25 lc_X11_279 (by omega) (Nat.le_of_ble_eq_true rfl) (by decide) ?_
      refine b_istore_n (lv' := [(0, _), (1, _), (2, _)]) dX11_palindrome_28 rfl (by decide) rfl rfl ?_
      refine b_iload_n dX11_palindrome_29 rfl rfl ?_
      refine b_aload_n dX11_palindrome_30 rfl rfl ?_
      refine b_getR (b := 31) lf_X11_33 rfl rfl dX11_palindrome_31 ?_
      refine b_iload_n dX11_palindrome_34 rfl rfl ?_
      refine b_iload_n dX11_palindrome_35 rfl rfl ?_
      refine b_iconst (v := 1) dX11_palindrome_36 (by decide +kernel) ?_
      refine b_iadd dX11_palindrome_37 ?_
      refine b_callV (As := [_, _]) (st := [_]) dX11_palindrome_38 lk_X11_292 lm_X5_mirrored lv_X5_mirrored (life_c is_life31) (by decide) rfl rfl rfl (Nat.le_of_ble_eq_true rfl) (Nat.le_refl _) (by decide) ?_
      rw [nI_1 i]
      refine c_X5_mirrored is_life31 hn h4 (by omega) (by omega) ?_
      refine b_max dX11_palindrome_41 lc_X11_279 (by omega) (Nat.le_of_ble_eq_true rfl) (by decide) ?_
      refine b_istore_n (lv' := [(0, _), (1, _), (2, _)]) dX11_palindrome_44 rfl (by decide) rfl rfl ?_
      refine b_incN (j := i) (lv' := [(0, _), (1, _), (2, _)]) dX11_palindrome_45 rfl rfl (by decide) rfl rfl ?_
      refine b_goto (tgt := 4) dX11_palindrome_48 (by decide) ?_
      exact ih (i + 1) (by omega) (by omega)
  refine b_iconst (v := 0) dX11_palindrome_0 (by decide +kernel) ?_
  refine b_istore_n (lv' := [(0, _), (1, _)]) dX11_palindrome_1 rfl (by decide) rfl rfl ?_
  refine b_iconst (v := 0) dX11_palindrome_2 (by decide +kernel) ?_
  refine b_istore_n (lv' := [(0, _), (1, _), (2, _)]) dX11_palindrome_3 rfl (by decide) rfl rfl ?_
  exact LP 0 (Nat.zero_le _)
theorem c_X12_palindrome {E : En} {d : Nat} {Q : QT} {X : XT} {g : G2} {n : Nat} (hn : g 84 32 = nI n) (h4 : n ≤ 400) (hq : Q (some (.int (palM (g 104) n n))) (up2 g 84 2 0)) : M E md_X12_palindrome (d + 1) [.ref 84] g Q X := by
  refine M.of _ rfl rfl (Nat.le_of_ble_eq_true rfl) ?_
  have hn2 : up2 g 84 2 0 84 32 = nI n := by rw [up2_k _ _ _ _ (by decide)]; exact hn
  have e104 : up2 g 84 2 0 104 = g 104 := up2_f _ _ _ _ (by decide)
  have LP : ∀ i, i ≤ n → B E md_X12_palindrome (d + 1) Q X 9 [(0, .ref 84), (1, .int (palM (g 104) n i)), (2, .int (nI i))] [] (up2 g 84 2 0) 0 := by
    refine lp_up (fun i hi ih => ?_)
    refine b_iload_n dX12_palindrome_9 rfl rfl ?_
    refine b_aload_n dX12_palindrome_10 rfl rfl ?_
    refine b_getI lf_X12_320 rfl dX12_palindrome_11 ?_
    refine b_icmp_ge (tgt := 45) dX12_palindrome_14 (by decide) (fun h14 => ?_) (fun h14 => ?_)
    · have e : i = n := by have := (nI_leI (by omega) (by omega)).mp (hn2 ▸ h14); omega
      subst e
      refine b_iload_n dX12_palindrome_45 rfl rfl ?_
      refine b_iret rfl (by decide) dX12_palindrome_46 ?_
      exact hq
    · have e : i < n := by
        rcases Nat.lt_or_ge i n with q | q
        · exact q
        · exact absurd (hn2 ▸ (nI_leI (by omega) (by omega)).mpr q) h14
      refine b_iload_n dX12_palindrome_17 rfl rfl ?_
      refine b_aload_n dX12_palindrome_18 rfl rfl ?_
      refine b_iload_n dX12_palindrome_19 rfl rfl ?_
      refine b_iload_n dX12_palindrome_20 rfl rfl ?_
      refine b_callV (As := [_, _]) (st := [_]) dX12_palindrome_21 lk_X12_450 lm_X12_roundAbout lv_X12_roundAbout rfl (by decide) rfl rfl rfl (Nat.le_of_ble_eq_true rfl) (Nat.le_refl _) (by decide) ?_
      refine c_X12_roundAbout hn2 h4 (by omega) (by omega) ?_
      rw [e104]
      refine b_aload_n dX12_palindrome_24 rfl rfl ?_
      refine b_iload_n dX12_palindrome_25 rfl rfl ?_
      refine b_iload_n dX12_palindrome_26 rfl rfl ?_
      refine b_iconst (v := 1) dX12_palindrome_27 (by decide +kernel) ?_
      refine b_iadd dX12_palindrome_28 ?_
      refine b_callV (As := [_, _]) (st := [_, _]) dX12_palindrome_29 lk_X12_450 lm_X12_roundAbout lv_X12_roundAbout rfl (by decide) rfl rfl rfl (Nat.le_of_ble_eq_true rfl) (Nat.le_refl _) (by decide) ?_
      rw [nI_1 i]
      refine c_X12_roundAbout hn2 h4 (by omega) (by omega) ?_
      rw [e104]
      refine b_max dX12_palindrome_32 lc_X12_453 (by omega) (Nat.le_of_ble_eq_true rfl) (by decide) ?_
      refine b_max dX12_palindrome_35 lc_X12_453 (by omega) (Nat.le_of_ble_eq_true rfl) (by decide) ?_
      refine b_istore_n (lv' := [(0, _), (1, _), (2, _)]) dX12_palindrome_38 rfl (by decide) rfl rfl ?_
      refine b_incN (j := i) (lv' := [(0, _), (1, _), (2, _)]) dX12_palindrome_39 rfl rfl (by decide) rfl rfl ?_
      refine b_goto (tgt := 9) dX12_palindrome_42 (by decide) ?_
      have z := ih (i + 1) (by omega) (by omega)
      rw [palM, ← mxI_as] at z
      exact z
  refine b_aload_n dX12_palindrome_0 rfl rfl ?_
  refine b_iconst (v := 0) dX12_palindrome_1 (by decide +kernel) ?_
  refine b_putI lf_X12_165 lp_12_2 rfl dX12_palindrome_2 ?_
  refine b_iconst (v := 0) dX12_palindrome_5 (by decide +kernel) ?_
  refine b_istore_n (lv' := [(0, _), (1, _)]) dX12_palindrome_6 rfl (by decide) rfl rfl ?_
  refine b_iconst (v := 0) dX12_palindrome_7 (by decide +kernel) ?_
  refine b_istore_n (lv' := [(0, _), (1, _), (2, _)]) dX12_palindrome_8 rfl (by decide) rfl rfl ?_
  exact LP 0 (Nat.zero_le _)
/-- the note that is there most, and how often -/
def tnM (c : Nat → Nat) : Nat → Int32 × Nat
  | 0 => (-1, 0)
  | v + 1 => if (tnM c v).2 < c v then (nI v, c v) else tnM c v
theorem tnM_le {c : Nat → Nat} {m : Nat} (h : ∀ v, c v ≤ m) : ∀ v, (tnM c v).2 ≤ m
  | 0 => Nat.zero_le _
  | v + 1 => by
    rw [tnM]
    by_cases q : (tnM c v).2 < c v
    · rw [if_pos q]; exact h v
    · rw [if_neg q]; exact tnM_le h v
theorem c_X11_tonic {E : En} {d : Nat} {Q : QT} {X : XT} {g : G2} {n : Nat} (hn : g 31 3 = nI n) (h4 : n ≤ 400) (hq : Q (some (.int (tnM (fun v => cntN (tmP (g 32) (nI v) 0) n) 12).1)) g) : M E md_X11_tonic (d + 1) [.ref 0] g Q X := by
  refine M.of _ rfl rfl (Nat.le_of_ble_eq_true rfl) ?_
  have hB : ∀ v, (tnM (fun v => cntN (tmP (g 32) (nI v) 0) n) v).2 ≤ n := tnM_le (fun v => cntN_le _ _)
  have LP : ∀ i, i ≤ 12 → B E md_X11_tonic (d + 1) Q X 6 [(0, .ref 0), (1, .int (tnM (fun v => cntN (tmP (g 32) (nI v) 0) n) i).1), (2, .int (nI (tnM (fun v => cntN (tmP (g 32) (nI v) 0) n) i).2)), (3, .int (nI i))] [] g 0 := by
    refine lp_up (fun i hi ih => ?_)
    refine b_iload_n dX11_tonic_6 rfl rfl ?_
    refine b_bipush (v := 12) dX11_tonic_7 (by decide +kernel) ?_
    refine b_icmp_ge (tgt := 40) dX11_tonic_9 (by decide) (fun h9 => ?_) (fun h9 => ?_)
    · have e : i = 12 := by have := (nI_leI (a := 12) (by decide) (by omega)).mp h9; omega
      subst e
      refine b_iload_n dX11_tonic_40 rfl rfl ?_
      refine b_iret rfl (by decide) dX11_tonic_41 ?_
      exact hq
    · have e : i < 12 := by
        rcases Nat.lt_or_ge i 12 with q | q
        · exact q
        · exact absurd ((nI_leI (a := 12) (by decide) (by omega)).mpr q) h9
      refine b_aload_n dX11_tonic_12 rfl rfl ?_
      refine b_getR (b := 31) lf_X11_33 rfl rfl dX11_tonic_13 ?_
      refine b_iload_n dX11_tonic_16 rfl rfl ?_
      refine b_iconst (v := 0) dX11_tonic_17 (by decide +kernel) ?_
      refine b_callV (As := [_, _]) (st := []) dX11_tonic_18 lk_X11_295 lm_X5_times lv_X5_times (life_c is_life31) (by decide) rfl rfl rfl (Nat.le_of_ble_eq_true rfl) (Nat.le_refl _) (by decide) ?_
      refine c_X5_times (s := 0) is_life31 hn h4 (Nat.zero_le _) ?_
      refine b_istore (lv' := [(0, _), (1, _), (2, _), (3, _), (4, _)]) dX11_tonic_21 (by decide) rfl rfl ?_
      refine b_iload dX11_tonic_23 rfl ?_
      refine b_iload_n dX11_tonic_25 rfl rfl ?_
      refine b_icmp_le (tgt := 34) dX11_tonic_26 (by decide) (fun h26 => ?_) (fun h26 => ?_)
      · have q : ¬ (tnM (fun v => cntN (tmP (g 32) (nI v) 0) n) i).2 < cntN (tmP (g 32) (nI i) 0) n := fun z => absurd (nI_lt z (Nat.lt_of_le_of_lt (cntN_le _ _) (by omega))) (Int32.not_lt.mpr h26)
        refine b_incN (j := i) (lv' := [(0, _), (1, _), (2, _), (3, _), (4, _)]) dX11_tonic_34 rfl rfl (by decide) rfl rfl ?_
        refine b_goto (tgt := 6) dX11_tonic_37 (by decide) ?_
        refine b_take 4 ?_
        have z := ih (i + 1) (by omega) (by omega)
        rw [tnM, if_neg q] at z
        exact z
      · have q : (tnM (fun v => cntN (tmP (g 32) (nI v) 0) n) i).2 < cntN (tmP (g 32) (nI i) 0) n := (nI_ltI (Nat.lt_of_le_of_lt (hB i) (by omega)) (Nat.lt_of_le_of_lt (cntN_le _ _) (by omega))).mp (Int32.not_le.mp h26)
        refine b_iload dX11_tonic_29 rfl ?_
        refine b_istore_n (lv' := [(0, _), (1, _), (2, _), (3, _), (4, _)]) dX11_tonic_31 rfl (by decide) rfl rfl ?_
        refine b_iload_n dX11_tonic_32 rfl rfl ?_
        refine b_istore_n (lv' := [(0, _), (1, _), (2, _), (3, _), (4, _)]) dX11_tonic_33 rfl (by decide) rfl rfl ?_
        refine b_incN (j := i) (lv' := [(0, _), (1, _), (2, _), (3, _), (4, _)]) dX11_tonic_34 rfl rfl (by decide) rfl rfl ?_
        refine b_goto (tgt := 6) dX11_tonic_37 (by decide) ?_
        refine b_take 4 ?_
        have z := ih (i + 1) (by omega) (by omega)
        rw [tnM, if_pos q] at z
        exact z
  refine b_iconst (v := (-1)) dX11_tonic_0 (by decide +kernel) ?_
  refine b_istore_n (lv' := [(0, _), (1, _)]) dX11_tonic_1 rfl (by decide) rfl rfl ?_
  refine b_iconst (v := 0) dX11_tonic_2 (by decide +kernel) ?_
  refine b_istore_n (lv' := [(0, _), (1, _), (2, _)]) dX11_tonic_3 rfl (by decide) rfl rfl ?_
  refine b_iconst (v := 0) dX11_tonic_4 (by decide +kernel) ?_
  refine b_istore_n (lv' := [(0, _), (1, _), (2, _), (3, _)]) dX11_tonic_5 rfl (by decide) rfl rfl ?_
  exact LP 0 (Nat.zero_le _)
theorem c_X12_tonic {E : En} {d : Nat} {Q : QT} {X : XT} {g : G2} {n : Nat} (hn : g 84 32 = nI n) (h4 : n ≤ 400) (hq : Q (some (.int (tnM (fun v => cntN (tmP (g 104) (nI v) 0) n) 12).1)) (up2 g 84 2 0)) : M E md_X12_tonic (d + 1) [.ref 84] g Q X := by
  refine M.of _ rfl rfl (Nat.le_of_ble_eq_true rfl) ?_
  have hn2 : up2 g 84 2 0 84 32 = nI n := by rw [up2_k _ _ _ _ (by decide)]; exact hn
  have e104 : up2 g 84 2 0 104 = g 104 := up2_f _ _ _ _ (by decide)
  have hB : ∀ v, (tnM (fun v => cntN (tmP (g 104) (nI v) 0) n) v).2 ≤ n := tnM_le (fun v => cntN_le _ _)
  have LP : ∀ i, i ≤ 12 → B E md_X12_tonic (d + 1) Q X 11 [(0, .ref 84), (1, .int (tnM (fun v => cntN (tmP (g 104) (nI v) 0) n) i).1), (2, .int (nI (tnM (fun v => cntN (tmP (g 104) (nI v) 0) n) i).2)), (3, .int (nI i))] [] (up2 g 84 2 0) 0 := by
    refine lp_up (fun i hi ih => ?_)
    refine b_iload_n dX12_tonic_11 rfl rfl ?_
    refine b_bipush (v := 12) dX12_tonic_12 (by decide +kernel) ?_
    refine b_icmp_ge (tgt := 43) dX12_tonic_14 (by decide) (fun h14 => ?_) (fun h14 => ?_)
    · have e : i = 12 := by have := (nI_leI (a := 12) (by decide) (by omega)).mp h14; omega
      subst e
      refine b_iload_n dX12_tonic_43 rfl rfl ?_
      refine b_iret rfl (by decide) dX12_tonic_44 ?_
      exact hq
    · have e : i < 12 := by
        rcases Nat.lt_or_ge i 12 with q | q
        · exact q
        · exact absurd ((nI_leI (a := 12) (by decide) (by omega)).mpr q) h14
      refine b_aload_n dX12_tonic_17 rfl rfl ?_
      refine b_iload_n dX12_tonic_18 rfl rfl ?_
      refine b_callV (As := [_]) (st := []) dX12_tonic_19 lk_X12_456 lm_X12_timesOf lv_X12_timesOf rfl (by decide) rfl rfl rfl (Nat.le_of_ble_eq_true rfl) (Nat.le_refl _) (by decide) ?_
      refine c_X12_timesOf hn2 h4 ?_
      rw [e104]
      refine b_iload_n dX12_tonic_22 rfl rfl ?_
      refine b_icmp_gt (tgt := 29) dX12_tonic_23 (by decide) (fun h23 => ?_) (fun h23 => ?_)
      · have q : (tnM (fun v => cntN (tmP (g 104) (nI v) 0) n) i).2 < cntN (tmP (g 104) (nI i) 0) n := (nI_ltI (Nat.lt_of_le_of_lt (hB i) (by omega)) (Nat.lt_of_le_of_lt (cntN_le _ _) (by omega))).mp h23
        refine b_iload_n dX12_tonic_29 rfl rfl ?_
        refine b_istore_n (lv' := [(0, _), (1, _), (2, _), (3, _)]) dX12_tonic_30 rfl (by decide) rfl rfl ?_
        refine b_aload_n dX12_tonic_31 rfl rfl ?_
        refine b_iload_n dX12_tonic_32 rfl rfl ?_
        refine b_callV (As := [_]) (st := []) dX12_tonic_33 lk_X12_456 lm_X12_timesOf lv_X12_timesOf rfl (by decide) rfl rfl rfl (Nat.le_of_ble_eq_true rfl) (Nat.le_refl _) (by decide) ?_
        refine c_X12_timesOf hn2 h4 ?_
        rw [e104]
        refine b_istore_n (lv' := [(0, _), (1, _), (2, _), (3, _)]) dX12_tonic_36 rfl (by decide) rfl rfl ?_
        refine b_incN (j := i) (lv' := [(0, _), (1, _), (2, _), (3, _)]) dX12_tonic_37 rfl rfl (by decide) rfl rfl ?_
        refine b_goto (tgt := 11) dX12_tonic_40 (by decide) ?_
        have z := ih (i + 1) (by omega) (by omega)
        rw [tnM, if_pos q] at z
        exact z
      · have q : ¬ (tnM (fun v => cntN (tmP (g 104) (nI v) 0) n) i).2 < cntN (tmP (g 104) (nI i) 0) n := fun z => absurd (nI_lt z (Nat.lt_of_le_of_lt (cntN_le _ _) (by omega))) h23
        refine b_goto (tgt := 37) dX12_tonic_26 (by decide) ?_
        refine b_incN (j := i) (lv' := [(0, _), (1, _), (2, _), (3, _)]) dX12_tonic_37 rfl rfl (by decide) rfl rfl ?_
        refine b_goto (tgt := 11) dX12_tonic_40 (by decide) ?_
        have z := ih (i + 1) (by omega) (by omega)
        rw [tnM, if_neg q] at z
        exact z
  refine b_aload_n dX12_tonic_0 rfl rfl ?_
  refine b_iconst (v := 0) dX12_tonic_1 (by decide +kernel) ?_
  refine b_putI lf_X12_165 lp_12_2 rfl dX12_tonic_2 ?_
  refine b_iconst (v := (-1)) dX12_tonic_5 (by decide +kernel) ?_
  refine b_istore_n (lv' := [(0, _), (1, _)]) dX12_tonic_6 rfl (by decide) rfl rfl ?_
  refine b_iconst (v := 0) dX12_tonic_7 (by decide +kernel) ?_
  refine b_istore_n (lv' := [(0, _), (1, _), (2, _)]) dX12_tonic_8 rfl (by decide) rfl rfl ?_
  refine b_iconst (v := 0) dX12_tonic_9 (by decide +kernel) ?_
  refine b_istore_n (lv' := [(0, _), (1, _), (2, _), (3, _)]) dX12_tonic_10 rfl (by decide) rfl rfl ?_
  exact LP 0 (Nat.zero_le _)
theorem c_X11_tritones {E : En} {d : Nat} {Q : QT} {X : XT} {g : G2} {n : Nat} (hn : g 31 3 = nI n) (h4 : n ≤ 400) (hq : Q (some (.int (nI (cntN (rsP (g 32) 0 6) n)))) g) : M E md_X11_tritones (d + 2) [.ref 0] g Q X := by
  refine M.of _ rfl rfl (Nat.le_of_ble_eq_true rfl) ?_
  refine b_aload_n dX11_tritones_0 rfl rfl ?_
  refine b_getR (b := 31) lf_X11_33 rfl rfl dX11_tritones_1 ?_
  refine b_iconst (v := 0) dX11_tritones_4 (by decide +kernel) ?_
  refine b_bipush (v := 6) dX11_tritones_5 (by decide +kernel) ?_
  refine b_callV (As := [_, _]) (st := []) dX11_tritones_7 lk_X11_285 lm_X5_risesFrom lv_X5_risesFrom (life_c is_life31) (by decide) rfl rfl rfl (Nat.le_of_ble_eq_true rfl) (Nat.le_refl _) (by decide) ?_
  refine c_X5_risesFrom (s := 0) is_life31 hn h4 (Nat.zero_le _) ?_
  refine b_iret rfl (by decide) dX11_tritones_10 ?_
  exact hq
theorem c_X12_tritones {E : En} {d : Nat} {Q : QT} {X : XT} {g : G2} {n : Nat} (hn : g 84 32 = nI n) (h4 : n ≤ 400) (hq : Q (some (.int (nI (cntN (fun i => decide (0 ≤ i) && trB (g 104) i) n)))) (up2 g 84 2 0)) : M E md_X12_tritones (d + 3) [.ref 84] g Q X := by
  refine M.of _ rfl rfl (Nat.le_of_ble_eq_true rfl) ?_
  refine b_aload_n dX12_tritones_0 rfl rfl ?_
  refine b_iconst (v := 0) dX12_tritones_1 (by decide +kernel) ?_
  refine b_putI lf_X12_165 lp_12_2 rfl dX12_tritones_2 ?_
  refine b_aload_n dX12_tritones_5 rfl rfl ?_
  refine b_iconst (v := 0) dX12_tritones_6 (by decide +kernel) ?_
  refine b_callV (As := [_]) (st := []) dX12_tritones_7 lk_X12_445 lm_X12_tritonesFrom lv_X12_tritonesFrom rfl (by decide) rfl rfl rfl (Nat.le_of_ble_eq_true rfl) (Nat.le_refl _) (by decide) ?_
  refine c_X12_tritonesFrom (s := 0) (by rw [up2_k _ _ _ _ (by decide)]; exact hn) h4 (Nat.zero_le _) ?_
  rw [show up2 g 84 2 0 104 = g 104 from up2_f _ _ _ _ (by decide)]
  refine b_iret rfl (by decide) dX12_tritones_10 ?_
  exact hq
theorem c_X11_forget {E : En} {d : Nat} {Q : QT} {X : XT} {g : G2} (hq : Q none (up2 g 65 2 0)) : M E md_X11_forget d [.ref 0] g Q X := by
  refine M.of _ rfl rfl (Nat.le_of_ble_eq_true rfl) ?_
  refine b_aload_n dX11_forget_0 rfl rfl ?_
  refine b_getR (b := 65) lf_X11_47 rfl rfl dX11_forget_1 ?_
  refine b_iconst (v := 0) dX11_forget_4 (by decide +kernel) ?_
  refine b_putI lf_X11_116 lp_3_2 (heard_c is_heard65) dX11_forget_5 ?_
  refine b_vret rfl (by decide) dX11_forget_8 ?_
  exact hq
theorem c_X12_forget {E : En} {d : Nat} {Q : QT} {X : XT} {g : G2} (hq : Q none (up2 (up2 g 84 2 0) 84 38 0)) : M E md_X12_forget d [.ref 84] g Q X := by
  refine M.of _ rfl rfl (Nat.le_of_ble_eq_true rfl) ?_
  refine b_aload_n dX12_forget_0 rfl rfl ?_
  refine b_iconst (v := 0) dX12_forget_1 (by decide +kernel) ?_
  refine b_putI lf_X12_165 lp_12_2 rfl dX12_forget_2 ?_
  refine b_aload_n dX12_forget_5 rfl rfl ?_
  refine b_iconst (v := 0) dX12_forget_6 (by decide +kernel) ?_
  refine b_putI lf_X12_341 lp_12_38 rfl dX12_forget_7 ?_
  refine b_vret rfl (by decide) dX12_forget_10 ?_
  exact hq
theorem c_X11_fault {E : En} {d : Nat} {Q : QT} {X : XT} {g : G2} (hq : Q (some (.int (g 1 3))) g) : M E md_X11_fault d [.ref 0] g Q X := by
  refine M.of _ rfl rfl (Nat.le_of_ble_eq_true rfl) ?_
  refine b_aload_n dX11_fault_0 rfl rfl ?_
  refine b_getR (b := 1) lf_X11_10 rfl rfl dX11_fault_1 ?_
  refine b_getI lf_X11_121 rfl dX11_fault_4 ?_
  refine b_iret rfl (by decide) dX11_fault_7 ?_
  exact hq
theorem c_X12_fault {E : En} {d : Nat} {Q : QT} {X : XT} {g : G2} (hq : Q (some (.int (g 84 24))) (up2 g 84 2 0)) : M E md_X12_fault d [.ref 84] g Q X := by
  refine M.of _ rfl rfl (Nat.le_of_ble_eq_true rfl) ?_
  refine b_aload_n dX12_fault_0 rfl rfl ?_
  refine b_iconst (v := 0) dX12_fault_1 (by decide +kernel) ?_
  refine b_putI lf_X12_165 lp_12_2 rfl dX12_fault_2 ?_
  refine b_aload_n dX12_fault_5 rfl rfl ?_
  refine b_getI lf_X12_76 rfl dX12_fault_6 ?_
  refine b_iret rfl (by decide) dX12_fault_9 ?_
  rw [up2_k _ _ _ _ (by decide)]
  exact hq
