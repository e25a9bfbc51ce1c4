theorem lkM_0 (f o : Nat → Int32) : ∀ i, lkM f o i 0 = 0
  | 0 => rfl
  | _ + 1 => rfl
theorem c_X6_clear {E : En} {d : Nat} {Q : QT} {X : XT} {g : G2} (hq : ∀ h, (∀ y, y ≠ 75 → h y = g y) → (∀ j, j ≤ 24 → h 75 j = 0) → Q none h) : M E md_X6_clear d [.ref 74] g Q X := by
  refine M.of _ rfl rfl (Nat.le_of_ble_eq_true rfl) ?_
  have LZ : ∀ i, i ≤ 25 → ∀ h : G2, (∀ y, y ≠ 75 → h y = g y) → (∀ j, j < i → h 75 j = 0) → B E md_X6_clear d Q X 2 [(0, .ref 74), (1, .int (nI i))] [] h 0 := by
    refine lp_up (fun i hi ih h hb hz => ?_)
    refine b_iload_n dX6_clear_2 rfl rfl ?_
    refine b_bipush (v := 24) dX6_clear_3 (by decide +kernel) ?_
    refine b_icmp_gt (tgt := 21) dX6_clear_5 (by decide) (fun h5 => ?_) (fun h5 => ?_)
    · have e : 24 < i := (nI_ltI (a := 24) (by decide) (by omega)).mp h5
      refine b_vret rfl (by decide) dX6_clear_21 ?_
      exact hq h hb (fun j hj => hz j (by omega))
    · have e : i ≤ 24 := by
        rcases Nat.lt_or_ge 24 i with z | z
        · exact absurd (nI_lt (a := 24) z (by omega)) h5
        · exact z
      refine b_aload_n dX6_clear_8 rfl rfl ?_
      refine b_getR (b := 75) lf_X6_9 rfl rfl dX6_clear_9 ?_
      refine b_iload_n dX6_clear_12 rfl rfl ?_
      refine b_iconst (v := 0) dX6_clear_13 (by decide +kernel) ?_
      refine b_istN (j := i) dX6_clear_14 (rfl) (by show _ < 25; omega) ?_
      refine b_incN (j := i) (lv' := [(0, _), (1, _)]) dX6_clear_15 rfl rfl (by decide) rfl rfl ?_
      refine b_goto (tgt := 2) dX6_clear_18 (by decide) ?_
      exact ih (i + 1) (by omega) (by omega) _ (by grind [up2_f]) (by grind [up2])
  refine b_iconst (v := 0) dX6_clear_0 (by decide +kernel) ?_
  refine b_istore_n (lv' := [(0, _), (1, _)]) dX6_clear_1 rfl (by decide) rfl rfl ?_
  exact LZ 0 (Nat.zero_le _) g (fun _ _ => rfl) (fun j hj => absurd hj (by omega))
theorem c_X6_takeFrom {E : En} {d : Nat} {Q : QT} {X : XT} {g : G2} {b t n on s : Nat} (ht : is_town t) (hb : is_life b) (hn : g b 3 = nI n) (h4 : n ≤ 400) (ho : g t 9 = nI on) (h24 : on ≤ 24) (hs : s ≤ n) (h0 : ∀ j, j ≤ on → g 75 j = lkM (g (b + 1)) (g (t + 9)) s j) (hq : ∀ h, (∀ y, y ≠ 75 → h y = g y) → (∀ j, j ≤ on → h 75 j = lkM (g (b + 1)) (g (t + 9)) n j) → Q none h) : M E md_X6_takeFrom (d + 1) [.ref 74, .int (nI s), .ref t, .ref b] g Q X := by
  refine M.of _ rfl rfl (Nat.le_of_ble_eq_true rfl) ?_
  have hne : b ≠ 75 ∧ b + 1 ≠ 75 ∧ t ≠ 75 ∧ t + 9 ≠ 75 := by unfold is_town is_life at *; omega
  have LP : ∀ i, i ≤ n → s ≤ i → ∀ h : G2, (∀ y, y ≠ 75 → h y = g y) → (∀ j, j ≤ on → h 75 j = lkM (g (b + 1)) (g (t + 9)) i j) → B E md_X6_takeFrom (d + 1) Q X 3 [(0, .ref 74), (1, .int (nI s)), (2, .ref t), (3, .ref b), (4, .int (nI i))] [] h 0 := by
    refine lp_up (fun i hi ihI hsi h hb1 hr => ?_)
    have kb : h b 3 = nI n := by rw [hb1 b hne.1]; exact hn
    have IN : i < n → ∀ q, q ≤ on → ∀ h : G2, (∀ y, y ≠ 75 → h y = g y) → (∀ j, j ≤ q → h 75 j = lkM (g (b + 1)) (g (t + 9)) (i + 1) j) → (∀ j, q < j → j ≤ on → h 75 j = lkM (g (b + 1)) (g (t + 9)) i j) → ∀ {c : Int32}, c = lkM (g (b + 1)) (g (t + 9)) i q → B E md_X6_takeFrom (d + 1) Q X 18 [(0, .ref 74), (1, .int (nI s)), (2, .ref t), (3, .ref b), (4, .int (nI i)), (5, .int c), (6, .int (nI (q + 1)))] [] h 0 := by
      intro hin
      refine lp_up (fun q hq0 ih h hb1 hr1 hr2 c hc => ?_)
      have kt : h t 9 = nI on := by rw [hb1 t hne.2.2.1]; exact ho
      have k1 : h (b + 1) = g (b + 1) := hb1 _ hne.2.1
      have k9 : h (t + 9) = g (t + 9) := hb1 _ hne.2.2.2
      refine b_iload dX6_takeFrom_18 rfl ?_
      refine b_aload_n dX6_takeFrom_20 rfl rfl ?_
      refine b_getI lf_X6_25 (town_c ht) dX6_takeFrom_21 ?_
      refine b_icmp_gt (tgt := 105) dX6_takeFrom_24 (by decide) (fun h24 => ?_) (fun h24 => ?_)
      · have e : on < q + 1 := (nI_ltI (by omega) (by omega)).mp (kt ▸ h24)
        refine b_incN (j := i) (lv' := [(0, _), (1, _), (2, _), (3, _), (4, _), (5, _), (6, _)]) dX6_takeFrom_105 rfl rfl (by decide) rfl rfl ?_
        refine b_goto (tgt := 3) dX6_takeFrom_108 (by decide) ?_
        refine b_take 5 ?_
        exact ihI (i + 1) (by omega) (by omega) (by omega) h hb1 (fun j hj => hr1 j (by omega))
      · have e : q + 1 ≤ on := by
          rcases Nat.lt_or_ge on (q + 1) with z | z
          · exact absurd (kt ▸ (nI_lt z (by omega))) h24
          · exact z
        refine b_aload_n dX6_takeFrom_27 rfl rfl ?_
        refine b_getR (b := 75) lf_X6_9 rfl rfl dX6_takeFrom_28 ?_
        refine b_iload dX6_takeFrom_31 rfl ?_
        refine b_ildN (j := (q + 1)) dX6_takeFrom_33 (rfl) (by show _ < 25; omega) ?_
        refine b_istore (lv' := [(0, _), (1, _), (2, _), (3, _), (4, _), (5, _), (6, _), (7, _)]) dX6_takeFrom_34 (by decide) rfl rfl ?_
        refine b_aload_n dX6_takeFrom_36 rfl rfl ?_
        refine b_getR (b := (t + 9)) lf_X6_46 (town_c ht) (town_r8 ht) dX6_takeFrom_37 ?_
        refine b_iload dX6_takeFrom_40 rfl ?_
        refine b_iconst (v := 1) dX6_takeFrom_42 (by decide +kernel) ?_
        refine b_isub dX6_takeFrom_43 ?_
        refine b_ildN (j := q) dX6_takeFrom_44 (nI_pred q) (by rw [(town_n9 ht)]; omega) ?_
        refine b_aload_n dX6_takeFrom_45 rfl rfl ?_
        refine b_getR (b := (b + 1)) lf_X6_49 (life_c hb) (life_r0 hb) dX6_takeFrom_46 ?_
        refine b_iload dX6_takeFrom_49 rfl ?_
        refine b_ildN (j := i) dX6_takeFrom_51 (rfl) (by rw [(life_n1 hb)]; omega) ?_
        refine b_icmp_ne (tgt := 59) dX6_takeFrom_52 (by decide) (fun h52 => ?_) (fun h52 => ?_)
        · rw [k9, k1] at h52
          refine b_iconst (v := 0) dX6_takeFrom_59 (by decide +kernel) ?_
          refine b_istore (lv' := [(0, _), (1, _), (2, _), (3, _), (4, _), (5, _), (6, _), (7, _), (8, _)]) dX6_takeFrom_60 (by decide) rfl rfl ?_
          refine b_aload_n dX6_takeFrom_62 rfl rfl ?_
          refine b_getR (b := 75) lf_X6_9 rfl rfl dX6_takeFrom_63 ?_
          refine b_iload dX6_takeFrom_66 rfl ?_
          refine b_iload dX6_takeFrom_68 rfl ?_
          refine b_if_eq (tgt := 80) dX6_takeFrom_70 (by decide) (fun h70 => ?_) (fun h70 => ?_)
          · refine b_iload dX6_takeFrom_80 rfl ?_
            refine b_aload_n dX6_takeFrom_82 rfl rfl ?_
            refine b_getR (b := 75) lf_X6_9 rfl rfl dX6_takeFrom_83 ?_
            refine b_iload dX6_takeFrom_86 rfl ?_
            refine b_iconst (v := 1) dX6_takeFrom_88 (by decide +kernel) ?_
            refine b_isub dX6_takeFrom_89 ?_
            refine b_ildN (j := q) dX6_takeFrom_90 (nI_pred q) (by show _ < 25; omega) ?_
            refine b_max dX6_takeFrom_91 lc_X6_52 (by omega) (Nat.le_of_ble_eq_true rfl) (by decide) ?_
            refine b_istN (j := (q + 1)) dX6_takeFrom_94 (rfl) (by show _ < 25; omega) ?_
            refine b_iload dX6_takeFrom_95 rfl ?_
            refine b_istore (lv' := [(0, _), (1, _), (2, _), (3, _), (4, _), (5, _), (6, _), (7, _), (8, _)]) dX6_takeFrom_97 (by decide) rfl rfl ?_
            refine b_incN (j := (q + 1)) (lv' := [(0, _), (1, _), (2, _), (3, _), (4, _), (5, _), (6, _), (7, _), (8, _)]) dX6_takeFrom_99 rfl rfl (by decide) rfl rfl ?_
            refine b_goto (tgt := 18) dX6_takeFrom_102 (by decide) ?_
            refine b_take 7 ?_
            refine ih (q + 1) (by omega) (by omega) _ (by grind [up2_f]) (fun j hj => ?_) (fun j hj hj2 => ?_) (hr2 (q + 1) (by omega) (by omega))
            · by_cases ej : j = q + 1
              · rw [ej, up2_s]
                show _ = lkR (lkM (g (b + 1)) (g (t + 9)) i) (g (b + 1) i) (g (t + 9)) (q + 1)
                have hx : ¬ g (b + 1) i = g (t + 9) q := fun z => h52 z.symm
                rw [hr2 (q + 1) (by omega) (by omega), hr1 q (Nat.le_refl _), lkR, if_neg hx]
                rfl
              · rw [up2_k _ _ _ _ ej]; exact hr1 j (by omega)
            · rw [up2_k _ _ _ _ (by omega)]; exact hr2 j (by omega) hj2
          · exact absurd rfl h70
        · rw [k9, k1] at h52
          refine b_iconst (v := 1) dX6_takeFrom_55 (by decide +kernel) ?_
          refine b_goto (tgt := 60) dX6_takeFrom_56 (by decide) ?_
          refine b_istore (lv' := [(0, _), (1, _), (2, _), (3, _), (4, _), (5, _), (6, _), (7, _), (8, _)]) dX6_takeFrom_60 (by decide) rfl rfl ?_
          refine b_aload_n dX6_takeFrom_62 rfl rfl ?_
          refine b_getR (b := 75) lf_X6_9 rfl rfl dX6_takeFrom_63 ?_
          refine b_iload dX6_takeFrom_66 rfl ?_
          refine b_iload dX6_takeFrom_68 rfl ?_
          refine b_if_eq (tgt := 80) dX6_takeFrom_70 (by decide) (fun h70 => ?_) (fun h70 => ?_)
          · exact absurd h70 (by decide)
          · refine b_iload dX6_takeFrom_73 rfl ?_
            refine b_iconst (v := 1) dX6_takeFrom_75 (by decide +kernel) ?_
            refine b_iadd dX6_takeFrom_76 ?_
            refine b_goto (tgt := 94) dX6_takeFrom_77 (by decide) ?_
            refine b_istN (j := (q + 1)) dX6_takeFrom_94 (rfl) (by show _ < 25; omega) ?_
            refine b_iload dX6_takeFrom_95 rfl ?_
            refine b_istore (lv' := [(0, _), (1, _), (2, _), (3, _), (4, _), (5, _), (6, _), (7, _), (8, _)]) dX6_takeFrom_97 (by decide) rfl rfl ?_
            refine b_incN (j := (q + 1)) (lv' := [(0, _), (1, _), (2, _), (3, _), (4, _), (5, _), (6, _), (7, _), (8, _)]) dX6_takeFrom_99 rfl rfl (by decide) rfl rfl ?_
            refine b_goto (tgt := 18) dX6_takeFrom_102 (by decide) ?_
            refine b_take 7 ?_
            refine ih (q + 1) (by omega) (by omega) _ (by grind [up2_f]) (fun j hj => ?_) (fun j hj hj2 => ?_) (hr2 (q + 1) (by omega) (by omega))
            · by_cases ej : j = q + 1
              · rw [ej, up2_s]
                show _ = lkR (lkM (g (b + 1)) (g (t + 9)) i) (g (b + 1) i) (g (t + 9)) (q + 1)
                rw [lkR, if_pos h52.symm, hc]
              · rw [up2_k _ _ _ _ ej]; exact hr1 j (by omega)
            · rw [up2_k _ _ _ _ (by omega)]; exact hr2 j (by omega) hj2
    refine b_iload dX6_takeFrom_3 rfl ?_
    refine b_aload_n dX6_takeFrom_5 rfl rfl ?_
    refine b_getI lf_X6_41 (life_c hb) dX6_takeFrom_6 ?_
    refine b_icmp_ge (tgt := 111) dX6_takeFrom_9 (by decide) (fun h9 => ?_) (fun h9 => ?_)
    · have e : i = n := by have := (nI_leI (by omega) (by omega)).mp (kb ▸ h9); omega
      subst e
      refine b_vret rfl (by decide) dX6_takeFrom_111 ?_
      exact hq h hb1 hr
    · have e : i < n := by
        rcases Nat.lt_or_ge i n with q | q
        · exact q
        · exact absurd (kb ▸ (nI_leI (by omega) (by omega)).mpr q) h9
      refine b_iconst (v := 0) dX6_takeFrom_12 (by decide +kernel) ?_
      refine b_istore (lv' := [(0, _), (1, _), (2, _), (3, _), (4, _), (5, _)]) dX6_takeFrom_13 (by decide) rfl rfl ?_
      refine b_iconst (v := 1) dX6_takeFrom_15 (by decide +kernel) ?_
      refine b_istore (lv' := [(0, _), (1, _), (2, _), (3, _), (4, _), (5, _), (6, _)]) dX6_takeFrom_16 (by decide) rfl rfl ?_
      exact IN e 0 (by omega) h hb1 (fun j hj => by rw [show j = 0 by omega, hr 0 (by omega), lkM_0, lkM_0]) (fun j _ hj => hr j hj) (lkM_0 _ _ i).symm
  refine b_iload_n dX6_takeFrom_0 rfl rfl ?_
  refine b_istore (lv' := [(0, _), (1, _), (2, _), (3, _), (4, _)]) dX6_takeFrom_1 (by decide) rfl rfl ?_
  exact LP s hs (Nat.le_refl _) g (fun _ _ => rfl) h0
theorem c_X6_whole {E : En} {d : Nat} {Q : QT} {X : XT} {g : G2} {b t n on : Nat} (ht : is_town t) (hb : is_life b) (hn : g b 3 = nI n) (h4 : n ≤ 400) (ho : g t 9 = nI on) (h24 : on ≤ 24) (hq : ∀ h, (∀ y, y ≠ 75 → h y = g y) → (∀ j, j ≤ on → h 75 j = lkM (g (b + 1)) (g (t + 9)) n j) → Q (some (.int (lkM (g (b + 1)) (g (t + 9)) n on))) h) : M E md_X6_whole (d + 2) [.ref 74, .ref t, .ref b] g Q X := by
  refine M.of _ rfl rfl (Nat.le_of_ble_eq_true rfl) ?_
  have hne : b ≠ 75 ∧ b + 1 ≠ 75 ∧ t ≠ 75 ∧ t + 9 ≠ 75 := by unfold is_town is_life at *; omega
  refine b_aload_n dX6_whole_0 rfl rfl ?_
  refine b_callV (As := []) (st := []) dX6_whole_1 lk_X6_18 lm_X6_clear lv_X6_clear rfl (by decide) rfl rfl rfl (Nat.le_of_ble_eq_true rfl) (Nat.le_refl _) (by decide) ?_
  refine c_X6_clear (fun h hb1 hz => ?_)
  refine b_aload_n dX6_whole_4 rfl rfl ?_
  refine b_iconst (v := 0) dX6_whole_5 (by decide +kernel) ?_
  refine b_aload_n dX6_whole_6 rfl rfl ?_
  refine b_aload_n dX6_whole_7 rfl rfl ?_
  refine b_callV (As := [_, _, _]) (st := []) dX6_whole_8 lk_X6_21 lm_X6_takeFrom lv_X6_takeFrom rfl (by decide) rfl rfl rfl (Nat.le_of_ble_eq_true rfl) (Nat.le_refl _) (by decide) ?_
  refine c_X6_takeFrom (n := n) (on := on) (s := 0) ht hb (by rw [hb1 b hne.1]; exact hn) h4 (by rw [hb1 t hne.2.2.1]; exact ho) h24 (Nat.zero_le _) (fun j hj => hz j (by omega)) (fun h2 hb2 hr => ?_)
  rw [hb1 _ hne.2.1, hb1 _ hne.2.2.2] at hr
  refine b_aload_n dX6_whole_11 rfl rfl ?_
  refine b_getR (b := 75) lf_X6_9 rfl rfl dX6_whole_12 ?_
  refine b_aload_n dX6_whole_15 rfl rfl ?_
  refine b_getI lf_X6_25 (town_c ht) dX6_whole_16 ?_
  refine b_ildN (j := on) dX6_whole_19 (by rw [hb2 t hne.2.2.1, hb1 t hne.2.2.1]; exact ho) (by show _ < 25; omega) ?_
  refine b_iret rfl (by decide) dX6_whole_20 ?_
  rw [hr on (Nat.le_refl _)]
  exact hq h2 (fun y hy => by rw [hb2 y hy, hb1 y hy]) hr
