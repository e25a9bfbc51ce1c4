theorem c_X6_keep {E : En} {d : Nat} {Q : QT} {X : XT} {g : G2} {b t n on : Nat} (ht : is_town t) (hb : is_life b) (hn : g b 3 = nI n) (h4 : n ≤ 400) (ho : g t 9 = nI on) (h24 : on ≤ 24) (hq : ∀ h, (∀ y, y ≠ 75 → y ≠ 76 → h y = g y) → (∀ j, j ≤ on → h 76 j = lkM (g (b + 1)) (g (t + 9)) n j) → Q none h) : M E md_X6_keep (d + 3) [.ref 74, .ref t, .ref b] g Q X := by
  refine M.of _ rfl rfl (Nat.le_of_ble_eq_true rfl) ?_
  refine b_aload_n dX6_keep_0 rfl rfl ?_
  refine b_aload_n dX6_keep_1 rfl rfl ?_
  refine b_aload_n dX6_keep_2 rfl rfl ?_
  refine b_callV (As := [_, _]) (st := []) dX6_keep_3 lk_X6_31 lm_X6_whole lv_X6_whole rfl (by decide) rfl rfl rfl (Nat.le_of_ble_eq_true rfl) (Nat.le_refl _) (by decide) ?_
  refine c_X6_whole ht hb hn h4 ho h24 (fun h hb1 hr => ?_)
  refine b_pop dX6_keep_6 rfl ?_
  refine b_aload_n dX6_keep_7 rfl rfl ?_
  refine b_getR (b := 75) lf_X6_9 rfl rfl dX6_keep_8 ?_
  refine b_iconst (v := 0) dX6_keep_11 (by decide +kernel) ?_
  refine b_aload_n dX6_keep_12 rfl rfl ?_
  refine b_getR (b := 76) lf_X6_15 rfl rfl dX6_keep_13 ?_
  refine b_iconst (v := 0) dX6_keep_16 (by decide +kernel) ?_
  refine b_bipush (v := 25) dX6_keep_17 (by decide +kernel) ?_
  refine b_copyi dX6_keep_19 lc_X6_35 (by omega) (Nat.le_of_ble_eq_true rfl) ?_ ?_ ?_ ?_ ?_ ?_ ?_ (by decide) ?_
  · decide +kernel
  · decide +kernel
  · decide +kernel
  · decide +kernel
  · decide +kernel
  · decide +kernel
  · decide +kernel
  refine b_vret rfl (by decide) dX6_keep_22 ?_
  rw [show (0 : Int32).toNatClampNeg = 0 from rfl, show (25 : Int32).toNatClampNeg = 25 from by decide +kernel]
  refine hq _ (fun y h1 h2 => by rw [upA_a _ _ _ h2]; exact hb1 y h1) (fun j hj => ?_)
  rw [upA_s, va_cpy, if_pos (by omega), show 0 + (j - 0) = j by omega]
  exact hr j hj
theorem c_X6_further {E : En} {d : Nat} {Q : QT} {X : XT} {g : G2} {s : Nat} {b t n on : Nat} (ht : is_town t) (hb : is_life b) (hn : g b 3 = nI n) (h4 : n ≤ 400) (ho : g t 9 = nI on) (h24 : on ≤ 24) (hs : s ≤ n) (h0 : ∀ j, j ≤ on → g 76 j = lkM (g (b + 1)) (g (t + 9)) s j) (hq : ∀ h, (∀ y, y ≠ 75 → h y = g y) → Q (some (.int (lkM (g (b + 1)) (g (t + 9)) n on))) h) : M E md_X6_further (d + 2) [.ref 74, .ref t, .ref b, .int (nI s)] g Q X := by
  refine M.of _ rfl rfl (Nat.le_of_ble_eq_true rfl) ?_
  have hne : b ≠ 75 ∧ b + 1 ≠ 75 ∧ t ≠ 75 ∧ t + 9 ≠ 75 := by unfold is_town is_life at *; omega
  refine b_aload_n dX6_further_0 rfl rfl ?_
  refine b_getR (b := 76) lf_X6_15 rfl rfl dX6_further_1 ?_
  refine b_iconst (v := 0) dX6_further_4 (by decide +kernel) ?_
  refine b_aload_n dX6_further_5 rfl rfl ?_
  refine b_getR (b := 75) lf_X6_9 rfl rfl dX6_further_6 ?_
  refine b_iconst (v := 0) dX6_further_9 (by decide +kernel) ?_
  refine b_bipush (v := 25) dX6_further_10 (by decide +kernel) ?_
  refine b_copyi dX6_further_12 lc_X6_35 (by omega) (Nat.le_of_ble_eq_true rfl) ?_ ?_ ?_ ?_ ?_ ?_ ?_ (by decide) ?_
  · decide +kernel
  · decide +kernel
  · decide +kernel
  · decide +kernel
  · decide +kernel
  · decide +kernel
  · decide +kernel
  refine b_aload_n dX6_further_15 rfl rfl ?_
  refine b_iload_n dX6_further_16 rfl rfl ?_
  refine b_aload_n dX6_further_17 rfl rfl ?_
  refine b_aload_n dX6_further_18 rfl rfl ?_
  refine b_callV (As := [_, _, _]) (st := []) dX6_further_19 lk_X6_21 lm_X6_takeFrom lv_X6_takeFrom rfl (by decide) rfl rfl rfl (Nat.le_of_ble_eq_true rfl) (Nat.le_refl _) (by decide) ?_
  rw [show (0 : Int32).toNatClampNeg = 0 from rfl, show (25 : Int32).toNatClampNeg = 25 from by decide +kernel]
  have e1 : ∀ y, y ≠ 75 → upA g 75 (va_cpy (g 76) (g 75) 0 0 25) y = g y := fun y hy => upA_a _ _ _ hy
  refine c_X6_takeFrom (n := n) (on := on) (s := s) ht hb (by rw [e1 b hne.1]; exact hn) h4 (by rw [e1 t hne.2.2.1]; exact ho) h24 hs (fun j hj => ?_) (fun h2 hb2 hr => ?_)
  · rw [e1 _ hne.2.1, e1 _ hne.2.2.2, upA_s, va_cpy, if_pos (by omega), show 0 + (j - 0) = j by omega]; exact h0 j hj
  rw [e1 _ hne.2.1, e1 _ hne.2.2.2] at hr
  refine b_aload_n dX6_further_22 rfl rfl ?_
  refine b_getR (b := 75) lf_X6_9 rfl rfl dX6_further_23 ?_
  refine b_aload_n dX6_further_26 rfl rfl ?_
  refine b_getI lf_X6_25 (town_c ht) dX6_further_27 ?_
  refine b_ildN (j := on) dX6_further_30 (by rw [hb2 t hne.2.2.1, e1 t hne.2.2.1]; exact ho) (by show _ < 25; omega) ?_
  refine b_iret rfl (by decide) dX6_further_31 ?_
  rw [hr on (Nat.le_refl _)]
  exact hq h2 (fun y hy => by rw [hb2 y hy]; exact e1 y hy)
/-- what befalls one: 0 away or home, 1 dead, 2 the base 1 more -/
def bfC (g : G2) (a p : Nat) (x : Int32) : G2 :=
  if !(btI (g a 7) (nI p) == 0) then g else if x = 0 then up2 g a 6 (g a 6 ^^^ sbI (nI p)) else if x = 1 then up2 g a 7 (g a 7 ||| sbI (nI p)) else if x = 2 then up2 g (a + 5) p (rmI (g (a + 5) p + 1) 12) else g
theorem c_X5_befall {E : En} {d : Nat} {Q : QT} {X : XT} {g : G2} {a p : Nat} {x : Int32} (ha : is_life a) (hp : p < 8) (hq : Q none (bfC g a p x)) : M E md_X5_befall (d + 1) [.ref a, .int (nI p), .int x] g Q X := by
  refine M.of _ rfl rfl (Nat.le_of_ble_eq_true rfl) ?_
  refine b_aload_n dX5_befall_0 rfl rfl ?_
  refine b_getI lf_X5_34 (life_c ha) dX5_befall_1 ?_
  refine b_iload_n dX5_befall_4 rfl rfl ?_
  refine b_callSN (As := [_, _]) (st := []) dX5_befall_5 (by decide +kernel) rfl lm_X11_isIn ls_X11_isIn rfl rfl (Nat.le_of_ble_eq_true rfl) (Nat.le_refl _) (by decide) ?_
  refine c_X11_isIn ?_
  refine b_if_eq (tgt := 12) dX5_befall_8 (by decide) (fun h8 => ?_) (fun h8 => ?_)
  · have c1 := b2i_0 h8
    refine b_iload_n dX5_befall_12 rfl rfl ?_
    by_cases k0 : x = 0
    · subst k0
      unfold bfC at hq
      rw [if_neg (by rw [c1]; decide)] at hq
      rw [if_pos rfl] at hq
      refine b_tableIn (off := 27) (tgt := 40) dX5_befall_13 (by decide +kernel) (by decide +kernel) (by decide +kernel) (by decide) ?_
      refine b_aload_n dX5_befall_40 rfl rfl ?_
      refine b_dup dX5_befall_41 rfl ?_
      refine b_getI lf_X5_31 (life_c ha) dX5_befall_42 ?_
      refine b_iconst (v := 1) dX5_befall_45 (by decide +kernel) ?_
      refine b_iload_n dX5_befall_46 rfl rfl ?_
      refine b_ishl dX5_befall_47 ?_
      refine b_ixor dX5_befall_48 ?_
      refine b_putI lf_X5_31 lp_5_6 (life_c ha) dX5_befall_49 ?_
      refine b_goto (tgt := 90) dX5_befall_52 (by decide) ?_
      refine b_vret rfl (by decide) dX5_befall_90 ?_
      exact hq
    by_cases k1 : x = 1
    · subst k1
      unfold bfC at hq
      rw [if_neg (by rw [c1]; decide)] at hq
      rw [if_neg (by decide), if_pos rfl] at hq
      refine b_tableIn (off := 42) (tgt := 55) dX5_befall_13 (by decide +kernel) (by decide +kernel) (by decide +kernel) (by decide) ?_
      refine b_aload_n dX5_befall_55 rfl rfl ?_
      refine b_dup dX5_befall_56 rfl ?_
      refine b_getI lf_X5_34 (life_c ha) dX5_befall_57 ?_
      refine b_iconst (v := 1) dX5_befall_60 (by decide +kernel) ?_
      refine b_iload_n dX5_befall_61 rfl rfl ?_
      refine b_ishl dX5_befall_62 ?_
      refine b_ior dX5_befall_63 ?_
      refine b_putI lf_X5_34 lp_5_7 (life_c ha) dX5_befall_64 ?_
      refine b_goto (tgt := 90) dX5_befall_67 (by decide) ?_
      refine b_vret rfl (by decide) dX5_befall_90 ?_
      exact hq
    by_cases k2 : x = 2
    · subst k2
      unfold bfC at hq
      rw [if_neg (by rw [c1]; decide)] at hq
      rw [if_neg (by decide), if_neg (by decide), if_pos rfl] at hq
      refine b_tableIn (off := 57) (tgt := 70) dX5_befall_13 (by decide +kernel) (by decide +kernel) (by decide +kernel) (by decide) ?_
      refine b_aload_n dX5_befall_70 rfl rfl ?_
      refine b_getR (b := (a + 5)) lf_X5_49 (life_c ha) (life_r12 ha) dX5_befall_71 ?_
      refine b_iload_n dX5_befall_74 rfl rfl ?_
      refine b_aload_n dX5_befall_75 rfl rfl ?_
      refine b_getR (b := (a + 5)) lf_X5_49 (life_c ha) (life_r12 ha) dX5_befall_76 ?_
      refine b_iload_n dX5_befall_79 rfl rfl ?_
      refine b_ildN (j := p) dX5_befall_80 (rfl) (by rw [(life_n5 ha)]; omega) ?_
      refine b_iconst (v := 1) dX5_befall_81 (by decide +kernel) ?_
      refine b_iadd dX5_befall_82 ?_
      refine b_bipush (v := 12) dX5_befall_83 (by decide +kernel) ?_
      refine b_irem dX5_befall_85 (by decide +kernel) ?_
      refine b_istN (j := p) dX5_befall_86 (rfl) (by rw [(life_n5 ha)]; omega) ?_
      refine b_goto (tgt := 90) dX5_befall_87 (by decide) ?_
      refine b_vret rfl (by decide) dX5_befall_90 ?_
      exact hq
    unfold bfC at hq
    rw [if_neg (by rw [c1]; decide)] at hq
    rw [if_neg k0, if_neg k1, if_neg k2] at hq
    refine b_tableOut (tgt := 90) dX5_befall_13 ?_ (by decide) ?_
    · have j0 : ¬ (x).toInt = 0 := fun q => k0 (Int32.toInt_inj.mp q); have j1 : ¬ (x).toInt = 1 := fun q => k1 (Int32.toInt_inj.mp q); have j2 : ¬ (x).toInt = 2 := fun q => k2 (Int32.toInt_inj.mp q); omega
    refine b_vret rfl (by decide) dX5_befall_90 ?_
    exact hq
  · have c1 := b2i_1 h8
    unfold bfC at hq
    rw [if_pos c1] at hq
    refine b_vret rfl (by decide) dX5_befall_11 ?_
    exact hq
