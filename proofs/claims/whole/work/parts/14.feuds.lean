theorem nI_m1 {i : Nat} (h : 0 < i) : nI i - 1 = nI (i - 1) := by
  have := nI_pred (i - 1)
  rwa [Nat.sub_add_cancel h] at this
/-- rows that stay -/
def FR (l : List Nat) (g g2 : G2) : Prop := ∀ b, b ∉ l → g2 b = g b
def fdP (f s : Nat → Int32) (p o : Int32) (i : Nat) : Bool := (f i == p && s i == o) || (f i == o && s i == p)
theorem c_X1_between {E : En} {d : Nat} {Q : QT} {X : XT} {g : G2} {a n : Nat} {p o : Int32} (ha : is_feuds a) (hn : g a 2 = nI n) (h6 : n ≤ 6) (hq : Q (some (.int (b2i (anyN (fdP (g (a + 1)) (g (a + 2)) p o) n)))) g) : M E md_X1_between d [.ref a, .int p, .int o] g Q X := by
  refine M.of _ rfl rfl (Nat.le_of_ble_eq_true rfl) ?_
  have L : ∀ i, i ≤ n → anyN (fdP (g (a + 1)) (g (a + 2)) p o) i = false → B E md_X1_between d Q X 2 [(0, .ref a), (1, .int p), (2, .int o), (3, .int (nI i))] [] g 0 := by
    refine lp_up (fun i hi ih hF => ?_)
    refine b_iload_n dX1_between_2 rfl rfl ?_
    refine b_aload_n dX1_between_3 rfl rfl ?_
    refine b_getI lf_X1_18 (feuds_c ha) dX1_between_4 ?_
    refine b_icmp_ge (tgt := 60) dX1_between_7 (by decide) (fun h7 => ?_) (fun h7 => ?_)
    · have e : i = n := by have := (nI_leI (by omega) (by omega)).mp (hn ▸ h7); omega
      subst e
      refine b_iconst (v := 0) dX1_between_60 (by decide +kernel) ?_
      refine b_zret (Or.inl rfl) rfl (by decide) dX1_between_61 ?_
      rw [hF] at hq
      exact hq
    · have e : i < n := by
        rcases Nat.lt_or_ge i n with q | q
        · exact q
        · exact absurd (hn ▸ (nI_leI (by omega) (by omega)).mpr q) h7
      refine b_aload_n dX1_between_10 rfl rfl ?_
      refine b_getR (b := (a + 1)) lf_X1_9 (feuds_c ha) (feuds_r0 ha) dX1_between_11 ?_
      refine b_iload_n dX1_between_14 rfl rfl ?_
      refine b_ildN (j := i) dX1_between_15 (rfl) (by rw [(feuds_n1 ha)]; omega) ?_
      refine b_iload_n dX1_between_16 rfl rfl ?_
      refine b_icmp_ne (tgt := 32) dX1_between_17 (by decide) (fun h17 => ?_) (fun h17 => ?_)
      · refine b_aload_n dX1_between_32 rfl rfl ?_
        refine b_getR (b := (a + 1)) lf_X1_9 (feuds_c ha) (feuds_r0 ha) dX1_between_33 ?_
        refine b_iload_n dX1_between_36 rfl rfl ?_
        refine b_ildN (j := i) dX1_between_37 (rfl) (by rw [(feuds_n1 ha)]; omega) ?_
        refine b_iload_n dX1_between_38 rfl rfl ?_
        refine b_icmp_ne (tgt := 54) dX1_between_39 (by decide) (fun h39 => ?_) (fun h39 => ?_)
        · refine b_incN (j := i) (lv' := [(0, _), (1, _), (2, _), (3, _)]) dX1_between_54 rfl rfl (by decide) rfl rfl ?_
          refine b_goto (tgt := 2) dX1_between_57 (by decide) ?_
          exact ih (i + 1) (by omega) (by omega) (anyN_f hF (by grind [fdP]))
        · refine b_aload_n dX1_between_42 rfl rfl ?_
          refine b_getR (b := (a + 2)) lf_X1_15 (feuds_c ha) (feuds_r1 ha) dX1_between_43 ?_
          refine b_iload_n dX1_between_46 rfl rfl ?_
          refine b_ildN (j := i) dX1_between_47 (rfl) (by rw [(feuds_n2 ha)]; omega) ?_
          refine b_iload_n dX1_between_48 rfl rfl ?_
          refine b_icmp_ne (tgt := 54) dX1_between_49 (by decide) (fun h49 => ?_) (fun h49 => ?_)
          · refine b_incN (j := i) (lv' := [(0, _), (1, _), (2, _), (3, _)]) dX1_between_54 rfl rfl (by decide) rfl rfl ?_
            refine b_goto (tgt := 2) dX1_between_57 (by decide) ?_
            exact ih (i + 1) (by omega) (by omega) (anyN_f hF (by grind [fdP]))
          · refine b_iconst (v := 1) dX1_between_52 (by decide +kernel) ?_
            refine b_zret (Or.inr rfl) rfl (by decide) dX1_between_53 ?_
            rw [anyN_t (P := fdP (g (a + 1)) (g (a + 2)) p o) e (by grind [fdP])] at hq
            exact hq
      · refine b_aload_n dX1_between_20 rfl rfl ?_
        refine b_getR (b := (a + 2)) lf_X1_15 (feuds_c ha) (feuds_r1 ha) dX1_between_21 ?_
        refine b_iload_n dX1_between_24 rfl rfl ?_
        refine b_ildN (j := i) dX1_between_25 (rfl) (by rw [(feuds_n2 ha)]; omega) ?_
        refine b_iload_n dX1_between_26 rfl rfl ?_
        refine b_icmp_ne (tgt := 32) dX1_between_27 (by decide) (fun h27 => ?_) (fun h27 => ?_)
        · refine b_aload_n dX1_between_32 rfl rfl ?_
          refine b_getR (b := (a + 1)) lf_X1_9 (feuds_c ha) (feuds_r0 ha) dX1_between_33 ?_
          refine b_iload_n dX1_between_36 rfl rfl ?_
          refine b_ildN (j := i) dX1_between_37 (rfl) (by rw [(feuds_n1 ha)]; omega) ?_
          refine b_iload_n dX1_between_38 rfl rfl ?_
          refine b_icmp_ne (tgt := 54) dX1_between_39 (by decide) (fun h39 => ?_) (fun h39 => ?_)
          · refine b_incN (j := i) (lv' := [(0, _), (1, _), (2, _), (3, _)]) dX1_between_54 rfl rfl (by decide) rfl rfl ?_
            refine b_goto (tgt := 2) dX1_between_57 (by decide) ?_
            exact ih (i + 1) (by omega) (by omega) (anyN_f hF (by grind [fdP]))
          · refine b_aload_n dX1_between_42 rfl rfl ?_
            refine b_getR (b := (a + 2)) lf_X1_15 (feuds_c ha) (feuds_r1 ha) dX1_between_43 ?_
            refine b_iload_n dX1_between_46 rfl rfl ?_
            refine b_ildN (j := i) dX1_between_47 (rfl) (by rw [(feuds_n2 ha)]; omega) ?_
            refine b_iload_n dX1_between_48 rfl rfl ?_
            refine b_icmp_ne (tgt := 54) dX1_between_49 (by decide) (fun h49 => ?_) (fun h49 => ?_)
            · refine b_incN (j := i) (lv' := [(0, _), (1, _), (2, _), (3, _)]) dX1_between_54 rfl rfl (by decide) rfl rfl ?_
              refine b_goto (tgt := 2) dX1_between_57 (by decide) ?_
              exact ih (i + 1) (by omega) (by omega) (anyN_f hF (by grind [fdP]))
            · refine b_iconst (v := 1) dX1_between_52 (by decide +kernel) ?_
              refine b_zret (Or.inr rfl) rfl (by decide) dX1_between_53 ?_
              rw [anyN_t (P := fdP (g (a + 1)) (g (a + 2)) p o) e (by grind [fdP])] at hq
              exact hq
        · refine b_iconst (v := 1) dX1_between_30 (by decide +kernel) ?_
          refine b_zret (Or.inr rfl) rfl (by decide) dX1_between_31 ?_
          rw [anyN_t (P := fdP (g (a + 1)) (g (a + 2)) p o) e (by grind [fdP])] at hq
          exact hq
  refine b_iconst (v := 0) dX1_between_0 (by decide +kernel) ?_
  refine b_istore_n (lv' := [(0, _), (1, _), (2, _), (3, _)]) dX1_between_1 rfl (by decide) rfl rfl ?_
  exact L 0 (Nat.zero_le _) rfl
theorem c_X1_has {E : En} {d : Nat} {Q : QT} {X : XT} {g : G2} {a n : Nat} {p : Int32} (ha : is_feuds a) (hn : g a 2 = nI n) (hq : Q (some (.int (if 0 ≤ p ∧ p < nI n then 1 else 0))) g) : M E md_X1_has d [.ref a, .int p] g Q X := by
  refine M.of _ rfl rfl (Nat.le_of_ble_eq_true rfl) ?_
  refine b_iload_n dX1_has_0 rfl rfl ?_
  refine b_if_lt (tgt := 16) dX1_has_1 (by decide) (fun h1 => ?_) (fun h1 => ?_)
  · rw [if_neg (by grind)] at hq
    refine b_iconst (v := 0) dX1_has_16 (by decide +kernel) ?_
    refine b_zret (by first | exact Or.inl rfl | exact Or.inr rfl) rfl (by decide) dX1_has_17 ?_
    exact hq
  · skip
    refine b_iload_n dX1_has_4 rfl rfl ?_
    refine b_aload_n dX1_has_5 rfl rfl ?_
    refine b_getI lf_X1_18 (feuds_c ha) dX1_has_6 ?_
    refine b_icmp_ge (tgt := 16) dX1_has_9 (by decide) (fun h9 => ?_) (fun h9 => ?_)
    · rw [hn] at h9; rw [if_neg (by grind)] at hq
      refine b_iconst (v := 0) dX1_has_16 (by decide +kernel) ?_
      refine b_zret (by first | exact Or.inl rfl | exact Or.inr rfl) rfl (by decide) dX1_has_17 ?_
      exact hq
    · rw [hn] at h9; rw [if_pos (by grind)] at hq
      refine b_iconst (v := 1) dX1_has_12 (by decide +kernel) ?_
      refine b_goto (tgt := 17) dX1_has_13 (by decide) ?_
      refine b_zret (by first | exact Or.inl rfl | exact Or.inr rfl) rfl (by decide) dX1_has_17 ?_
      exact hq
theorem c_X1_of {E : En} {d : Nat} {Q : QT} {X : XT} {g : G2} {a n : Nat} {p : Int32} (ha : is_feuds a) (hn : g a 2 = nI n) (h6 : n ≤ 6) (hq : Q (some (.int (nI (cntN (fun i => g (a + 1) i == p || g (a + 2) i == p) n)))) g) : M E md_X1_of d [.ref a, .int p] g Q X := by
  refine M.of _ rfl rfl (Nat.le_of_ble_eq_true rfl) ?_
  have L : ∀ i, i ≤ n → B E md_X1_of d Q X 4 [(0, .ref a), (1, .int p), (2, .int (nI (cntN (fun i => g (a + 1) i == p || g (a + 2) i == p) i))), (3, .int (nI i))] [] g 0 := by
    refine lp_up (fun i hi ih => ?_)
    refine b_iload_n dX1_of_4 rfl rfl ?_
    refine b_aload_n dX1_of_5 rfl rfl ?_
    refine b_getI lf_X1_18 (feuds_c ha) dX1_of_6 ?_
    refine b_icmp_ge (tgt := 41) dX1_of_9 (by decide) (fun h9 => ?_) (fun h9 => ?_)
    · have e : i = n := by have := (nI_leI (by omega) (by omega)).mp (hn ▸ h9); omega
      subst e
      refine b_iload_n dX1_of_41 rfl rfl ?_
      refine b_iret rfl (by decide) dX1_of_42 ?_
      exact hq
    · have e : i < n := by
        rcases Nat.lt_or_ge i n with q | q
        · exact q
        · exact absurd (hn ▸ (nI_leI (by omega) (by omega)).mpr q) h9
      refine b_aload_n dX1_of_12 rfl rfl ?_
      refine b_getR (b := (a + 1)) lf_X1_9 (feuds_c ha) (feuds_r0 ha) dX1_of_13 ?_
      refine b_iload_n dX1_of_16 rfl rfl ?_
      refine b_ildN (j := i) dX1_of_17 (rfl) (by rw [(feuds_n1 ha)]; omega) ?_
      refine b_iload_n dX1_of_18 rfl rfl ?_
      refine b_icmp_eq (tgt := 32) dX1_of_19 (by decide) (fun h19 => ?_) (fun h19 => ?_)
      · refine b_incN (j := cntN (fun i => g (a + 1) i == p || g (a + 2) i == p) i) (lv' := [(0, _), (1, _), (2, _), (3, _)]) dX1_of_32 rfl rfl (by decide) rfl rfl ?_
        refine b_incN (j := i) (lv' := [(0, _), (1, _), (2, _), (3, _)]) dX1_of_35 rfl rfl (by decide) rfl rfl ?_
        refine b_goto (tgt := 4) dX1_of_38 (by decide) ?_
        have ih2 := ih (i + 1) (by omega) (by omega)
        rw [cntN] at ih2
        first
          | (rw [if_pos (by grind)] at ih2; exact ih2)
          | (rw [if_neg (by grind), Nat.add_zero] at ih2; exact ih2)
      · refine b_aload_n dX1_of_22 rfl rfl ?_
        refine b_getR (b := (a + 2)) lf_X1_15 (feuds_c ha) (feuds_r1 ha) dX1_of_23 ?_
        refine b_iload_n dX1_of_26 rfl rfl ?_
        refine b_ildN (j := i) dX1_of_27 (rfl) (by rw [(feuds_n2 ha)]; omega) ?_
        refine b_iload_n dX1_of_28 rfl rfl ?_
        refine b_icmp_ne (tgt := 35) dX1_of_29 (by decide) (fun h29 => ?_) (fun h29 => ?_)
        · refine b_incN (j := i) (lv' := [(0, _), (1, _), (2, _), (3, _)]) dX1_of_35 rfl rfl (by decide) rfl rfl ?_
          refine b_goto (tgt := 4) dX1_of_38 (by decide) ?_
          have ih2 := ih (i + 1) (by omega) (by omega)
          rw [cntN] at ih2
          first
            | (rw [if_pos (by grind)] at ih2; exact ih2)
            | (rw [if_neg (by grind), Nat.add_zero] at ih2; exact ih2)
        · refine b_incN (j := cntN (fun i => g (a + 1) i == p || g (a + 2) i == p) i) (lv' := [(0, _), (1, _), (2, _), (3, _)]) dX1_of_32 rfl rfl (by decide) rfl rfl ?_
          refine b_incN (j := i) (lv' := [(0, _), (1, _), (2, _), (3, _)]) dX1_of_35 rfl rfl (by decide) rfl rfl ?_
          refine b_goto (tgt := 4) dX1_of_38 (by decide) ?_
          have ih2 := ih (i + 1) (by omega) (by omega)
          rw [cntN] at ih2
          first
            | (rw [if_pos (by grind)] at ih2; exact ih2)
            | (rw [if_neg (by grind), Nat.add_zero] at ih2; exact ih2)
  refine b_iconst (v := 0) dX1_of_0 (by decide +kernel) ?_
  refine b_istore_n (lv' := [(0, _), (1, _), (2, _)]) dX1_of_1 rfl (by decide) rfl rfl ?_
  refine b_iconst (v := 0) dX1_of_2 (by decide +kernel) ?_
  refine b_istore_n (lv' := [(0, _), (1, _), (2, _), (3, _)]) dX1_of_3 rfl (by decide) rfl rfl ?_
  exact L 0 (Nat.zero_le _)
def shU (f : Nat → Int32) (i n j : Nat) : Int32 := if i < j ∧ j ≤ n then f (j - 1) else f j
def insF (f : Nat → Int32) (k n : Nat) (x : Int32) (j : Nat) : Int32 := if j = k then x else if k < j ∧ j ≤ n then f (j - 1) else f j
theorem c_X1_insert {E : En} {d : Nat} {Q : QT} {X : XT} {g : G2} {a n k : Nat} {p o : Int32} (ha : is_feuds a) (hn : g a 2 = nI n) (h5 : n < 6) (hk : k ≤ n) (hq : ∀ g2, FR [a, a + 1, a + 2] g g2 → (∀ j, j ≠ 2 → g2 a j = g a j) → g2 a 2 = nI (n + 1) → (∀ j, g2 (a + 1) j = insF (g (a + 1)) k n p j) → (∀ j, g2 (a + 2) j = insF (g (a + 2)) k n o j) → Q none g2) : M E md_X1_insert d [.ref a, .int (nI k), .int p, .int o] g Q X := by
  refine M.of _ rfl rfl (Nat.le_of_ble_eq_true rfl) ?_
  have L : ∀ i, k ≤ i → i ≤ n → ∀ h : G2, (∀ b, b ≠ a + 1 → b ≠ a + 2 → h b = g b) → (∀ j, h (a + 1) j = shU (g (a + 1)) i n j) → (∀ j, h (a + 2) j = shU (g (a + 2)) i n j) → B E md_X1_insert d Q X 28 [(0, .ref a), (1, .int (nI k)), (2, .int p), (3, .int o), (4, .int (nI i))] [] h 0 := by
    refine lp_dn (fun i ih hi hin h hb h1 h2 => ?_)
    refine b_iload dX1_insert_28 rfl ?_
    refine b_iload_n dX1_insert_30 rfl rfl ?_
    refine b_icmp_le (tgt := 72) dX1_insert_31 (by decide) (fun h31 => ?_) (fun h31 => ?_)
    · have e : i = k := by have := (nI_leI (by omega) (by omega)).mp h31; omega
      subst e
      refine b_aload_n dX1_insert_72 rfl rfl ?_
      refine b_getR (b := (a + 1)) lf_X1_9 (feuds_c ha) (feuds_r0 ha) dX1_insert_73 ?_
      refine b_iload_n dX1_insert_76 rfl rfl ?_
      refine b_iload_n dX1_insert_77 rfl rfl ?_
      refine b_istN (j := i) dX1_insert_78 (rfl) (by rw [(feuds_n1 ha)]; omega) ?_
      refine b_aload_n dX1_insert_79 rfl rfl ?_
      refine b_getR (b := (a + 2)) lf_X1_15 (feuds_c ha) (feuds_r1 ha) dX1_insert_80 ?_
      refine b_iload_n dX1_insert_83 rfl rfl ?_
      refine b_iload_n dX1_insert_84 rfl rfl ?_
      refine b_istN (j := i) dX1_insert_85 (rfl) (by rw [(feuds_n2 ha)]; omega) ?_
      refine b_aload_n dX1_insert_86 rfl rfl ?_
      refine b_dup dX1_insert_87 rfl ?_
      refine b_getI lf_X1_18 (feuds_c ha) dX1_insert_88 ?_
      refine b_iconst (v := 1) dX1_insert_91 (by decide +kernel) ?_
      refine b_iadd dX1_insert_92 ?_
      refine b_putI lf_X1_18 lp_1_2 (feuds_c ha) dX1_insert_93 ?_
      refine b_vret rfl (by decide) dX1_insert_96 ?_
      refine hq _ (by grind [up2, FR]) (by grind [up2]) ?_ (by grind [up2, insF, shU]) (by grind [up2, insF, shU])
      rw [up2_s, up2_a _ _ _ _ (by omega), up2_a _ _ _ _ (by omega), hb a (by omega) (by omega), hn]
      exact nI_1 n
    · have e : k < i := by
        rcases Nat.lt_or_ge k i with q | q
        · exact q
        · exact absurd ((nI_leI (by omega) (by omega)).mpr q) h31
      refine b_aload_n dX1_insert_34 rfl rfl ?_
      refine b_getR (b := (a + 1)) lf_X1_9 (feuds_c ha) (feuds_r0 ha) dX1_insert_35 ?_
      refine b_iload dX1_insert_38 rfl ?_
      refine b_aload_n dX1_insert_40 rfl rfl ?_
      refine b_getR (b := (a + 1)) lf_X1_9 (feuds_c ha) (feuds_r0 ha) dX1_insert_41 ?_
      refine b_iload dX1_insert_44 rfl ?_
      refine b_iconst (v := 1) dX1_insert_46 (by decide +kernel) ?_
      refine b_isub dX1_insert_47 ?_
      refine b_ildN (j := (i - 1)) dX1_insert_48 (nI_m1 (by omega)) (by rw [(feuds_n1 ha)]; omega) ?_
      refine b_istN (j := i) dX1_insert_49 (rfl) (by rw [(feuds_n1 ha)]; omega) ?_
      refine b_aload_n dX1_insert_50 rfl rfl ?_
      refine b_getR (b := (a + 2)) lf_X1_15 (feuds_c ha) (feuds_r1 ha) dX1_insert_51 ?_
      refine b_iload dX1_insert_54 rfl ?_
      refine b_aload_n dX1_insert_56 rfl rfl ?_
      refine b_getR (b := (a + 2)) lf_X1_15 (feuds_c ha) (feuds_r1 ha) dX1_insert_57 ?_
      refine b_iload dX1_insert_60 rfl ?_
      refine b_iconst (v := 1) dX1_insert_62 (by decide +kernel) ?_
      refine b_isub dX1_insert_63 ?_
      refine b_ildN (j := (i - 1)) dX1_insert_64 (nI_m1 (by omega)) (by rw [(feuds_n2 ha)]; omega) ?_
      refine b_istN (j := i) dX1_insert_65 (rfl) (by rw [(feuds_n2 ha)]; omega) ?_
      refine b_decN (j := (i - 1)) (lv' := [(0, _), (1, _), (2, _), (3, _), (4, _)]) dX1_insert_66 rfl (by rw [Nat.sub_add_cancel (by omega)]) (by decide) rfl rfl ?_
      refine b_goto (tgt := 28) dX1_insert_69 (by decide) ?_
      exact ih (i - 1) (by omega) (by omega) (by omega) _ (by grind [up2]) (by grind [up2, shU]) (by grind [up2, shU])
  refine b_aload_n dX1_insert_0 rfl rfl ?_
  refine b_getI lf_X1_18 (feuds_c ha) dX1_insert_1 ?_
  refine b_bipush (v := 6) dX1_insert_4 (by decide +kernel) ?_
  refine b_icmp_ge (tgt := 21) dX1_insert_6 (by decide) (fun h6 => ?_) (fun h6 => ?_)
  · rw [hn] at h6
    exact absurd ((nI_leI (a := 6) (by omega) (by omega)).mp h6) (by omega)
  · refine b_iload_n dX1_insert_9 rfl rfl ?_
    refine b_if_lt (tgt := 21) dX1_insert_10 (by decide) (fun h10 => ?_) (fun h10 => ?_)
    · exact absurd h10 (nI_pos (by omega))
    · refine b_iload_n dX1_insert_13 rfl rfl ?_
      refine b_aload_n dX1_insert_14 rfl rfl ?_
      refine b_getI lf_X1_18 (feuds_c ha) dX1_insert_15 ?_
      refine b_icmp_le (tgt := 22) dX1_insert_18 (by decide) (fun h18 => ?_) (fun h18 => ?_)
      · refine b_aload_n dX1_insert_22 rfl rfl ?_
        refine b_getI lf_X1_18 (feuds_c ha) dX1_insert_23 ?_
        refine b_istore (lv' := [(0, _), (1, _), (2, _), (3, _), (4, _)]) dX1_insert_26 (by decide) rfl rfl ?_
        rw [hn]
        exact L n hk (Nat.le_refl _) g (fun b _ _ => rfl) (by grind [shU]) (by grind [shU])
      · exact absurd (hn ▸ (nI_leI (by omega) (by omega)).mpr hk) h18
def rmF (f : Nat → Int32) (k j : Nat) : Int32 := if k ≤ j then f (j + 1) else f j
theorem c_X1_remove {E : En} {d : Nat} {Q : QT} {X : XT} {g : G2} {a n k : Nat} (ha : is_feuds a) (hn : g a 2 = nI (n + 1)) (h5 : n + 1 ≤ 6) (hk : k ≤ n) (hq : ∀ g2, FR [a, a + 1, a + 2] g g2 → (∀ j, j ≠ 2 → g2 a j = g a j) → g2 a 2 = nI n → (∀ j, j < n → g2 (a + 1) j = rmF (g (a + 1)) k j) → (∀ j, j < n → g2 (a + 2) j = rmF (g (a + 2)) k j) → Q none g2) : M E md_X1_remove (d + 1) [.ref a, .int (nI k)] g Q X := by
  refine M.of _ rfl rfl (Nat.le_of_ble_eq_true rfl) ?_
  have L : ∀ i, k ≤ i → i ≤ n → ∀ h : G2, (∀ b, b ≠ a → b ≠ a + 1 → b ≠ a + 2 → h b = g b) → (∀ j, j ≠ 2 → h a j = g a j) → h a 2 = nI n → (∀ j, h (a + 1) j = if k ≤ j ∧ j < i then g (a + 1) (j + 1) else g (a + 1) j) → (∀ j, h (a + 2) j = if k ≤ j ∧ j < i then g (a + 2) (j + 1) else g (a + 2) j) → B E md_X1_remove (d + 1) Q X 21 [(0, .ref a), (1, .int (nI k)), (2, .int (nI i))] [] h 0 := by
    intro i hki hi
    revert hki
    refine lp_up (P := fun i => k ≤ i → ∀ h : G2, (∀ b, b ≠ a → b ≠ a + 1 → b ≠ a + 2 → h b = g b) → (∀ j, j ≠ 2 → h a j = g a j) → h a 2 = nI n → (∀ j, h (a + 1) j = if k ≤ j ∧ j < i then g (a + 1) (j + 1) else g (a + 1) j) → (∀ j, h (a + 2) j = if k ≤ j ∧ j < i then g (a + 2) (j + 1) else g (a + 2) j) → B E md_X1_remove (d + 1) Q X 21 [(0, .ref a), (1, .int (nI k)), (2, .int (nI i))] [] h 0) (fun i hi ih hki h hb hb2 h2 h3 h4 => ?_) i hi
    refine b_iload_n dX1_remove_21 rfl rfl ?_
    refine b_aload_n dX1_remove_22 rfl rfl ?_
    refine b_getI lf_X1_18 (feuds_c ha) dX1_remove_23 ?_
    refine b_icmp_ge (tgt := 63) dX1_remove_26 (by decide) (fun h26 => ?_) (fun h26 => ?_)
    · have e : i = n := by have := (nI_leI (by omega) (by omega)).mp (h2 ▸ h26); omega
      subst e
      refine b_vret rfl (by decide) dX1_remove_63 ?_
      exact hq _ (by grind [FR]) hb2 h2 (by grind [rmF]) (by grind [rmF])
    · have e : i < n := by
        rcases Nat.lt_or_ge i n with q | q
        · exact q
        · exact absurd (h2 ▸ (nI_leI (by omega) (by omega)).mpr q) h26
      refine b_aload_n dX1_remove_29 rfl rfl ?_
      refine b_getR (b := (a + 1)) lf_X1_9 (feuds_c ha) (feuds_r0 ha) dX1_remove_30 ?_
      refine b_iload_n dX1_remove_33 rfl rfl ?_
      refine b_aload_n dX1_remove_34 rfl rfl ?_
      refine b_getR (b := (a + 1)) lf_X1_9 (feuds_c ha) (feuds_r0 ha) dX1_remove_35 ?_
      refine b_iload_n dX1_remove_38 rfl rfl ?_
      refine b_iconst (v := 1) dX1_remove_39 (by decide +kernel) ?_
      refine b_iadd dX1_remove_40 ?_
      refine b_ildN (j := (i + 1)) dX1_remove_41 (nI_1 i) (by rw [(feuds_n1 ha)]; omega) ?_
      refine b_istN (j := i) dX1_remove_42 (rfl) (by rw [(feuds_n1 ha)]; omega) ?_
      refine b_aload_n dX1_remove_43 rfl rfl ?_
      refine b_getR (b := (a + 2)) lf_X1_15 (feuds_c ha) (feuds_r1 ha) dX1_remove_44 ?_
      refine b_iload_n dX1_remove_47 rfl rfl ?_
      refine b_aload_n dX1_remove_48 rfl rfl ?_
      refine b_getR (b := (a + 2)) lf_X1_15 (feuds_c ha) (feuds_r1 ha) dX1_remove_49 ?_
      refine b_iload_n dX1_remove_52 rfl rfl ?_
      refine b_iconst (v := 1) dX1_remove_53 (by decide +kernel) ?_
      refine b_iadd dX1_remove_54 ?_
      refine b_ildN (j := (i + 1)) dX1_remove_55 (nI_1 i) (by rw [(feuds_n2 ha)]; omega) ?_
      refine b_istN (j := i) dX1_remove_56 (rfl) (by rw [(feuds_n2 ha)]; omega) ?_
      refine b_incN (j := i) (lv' := [(0, _), (1, _), (2, _)]) dX1_remove_57 rfl rfl (by decide) rfl rfl ?_
      refine b_goto (tgt := 21) dX1_remove_60 (by decide) ?_
      exact ih (i + 1) (by omega) (by omega) (by omega) _ (by grind [up2]) (by grind [up2]) (by grind [up2]) (by grind [up2]) (by grind [up2])
  refine b_aload_n dX1_remove_0 rfl rfl ?_
  refine b_iload_n dX1_remove_1 rfl rfl ?_
  refine b_callV (As := [_]) (st := []) dX1_remove_2 lk_X1_22 lm_X1_has lv_X1_has (feuds_c ha) (by decide) rfl rfl rfl (by decide) (Nat.le_refl _) (by decide) ?_
  refine c_X1_has (n := n + 1) ha hn ?_
  rw [if_pos ⟨nI_pos' (by omega), nI_lt (by omega) (by omega)⟩]
  refine b_if_ne (tgt := 9) dX1_remove_5 (by decide) (fun h5 => ?_) (fun h5 => ?_)
  · refine b_aload_n dX1_remove_9 rfl rfl ?_
    refine b_dup dX1_remove_10 rfl ?_
    refine b_getI lf_X1_18 (feuds_c ha) dX1_remove_11 ?_
    refine b_iconst (v := 1) dX1_remove_14 (by decide +kernel) ?_
    refine b_isub dX1_remove_15 ?_
    refine b_putI lf_X1_18 lp_1_2 (feuds_c ha) dX1_remove_16 ?_
    refine b_iload_n dX1_remove_19 rfl rfl ?_
    refine b_istore_n (lv' := [(0, _), (1, _), (2, _)]) dX1_remove_20 rfl (by decide) rfl rfl ?_
    exact L k (Nat.le_refl _) (by omega) _ (by grind [up2]) (by grind [up2]) (by rw [up2_s, hn]; exact nI_pred n) (by grind [up2]) (by grind [up2])
  · exact absurd h5 (by decide)
theorem c_X1_copy {E : En} {d : Nat} {Q : QT} {X : XT} {g : G2} {a b n : Nat} (ha : is_feuds a) (hb : is_feuds b) (hab : a ≠ b) (hn : g b 2 = nI n) (h6 : n ≤ 6) (hq : ∀ g2, FR [a, a + 1, a + 2] g g2 → (∀ j, j ≠ 2 → g2 a j = g a j) → g2 a 2 = nI n → (∀ j, j < n → g2 (a + 1) j = g (b + 1) j) → (∀ j, j < n → g2 (a + 2) j = g (b + 2) j) → Q none g2) : M E md_X1_copy (d + 1) [.ref a, .ref b] g Q X := by
  refine M.of _ rfl rfl (Nat.le_of_ble_eq_true rfl) ?_
  refine b_aload_n dX1_copy_0 rfl rfl ?_
  refine b_aload_n dX1_copy_1 rfl rfl ?_
  refine b_getI lf_X1_18 (feuds_c hb) dX1_copy_2 ?_
  refine b_putI lf_X1_18 lp_1_2 (feuds_c ha) dX1_copy_5 ?_
  refine b_aload_n dX1_copy_8 rfl rfl ?_
  refine b_getR (b := (b + 1)) lf_X1_9 (feuds_c hb) (feuds_r0 hb) dX1_copy_9 ?_
  refine b_iconst (v := 0) dX1_copy_12 (by decide +kernel) ?_
  refine b_aload_n dX1_copy_13 rfl rfl ?_
  refine b_getR (b := (a + 1)) lf_X1_9 (feuds_c ha) (feuds_r0 ha) dX1_copy_14 ?_
  refine b_iconst (v := 0) dX1_copy_17 (by decide +kernel) ?_
  refine b_aload_n dX1_copy_18 rfl rfl ?_
  refine b_getI lf_X1_18 (feuds_c ha) dX1_copy_19 ?_
  refine b_copyi dX1_copy_22 lc_X1_26 (by omega) (by decide) ?_ ?_ ?_ ?_ ?_ ?_ ?_ (by decide) ?_
  · exact nI_pos (n := 0) (by omega)
  · exact nI_pos (n := 0) (by omega)
  · rw [up2_s, hn]; exact nI_pos (by omega)
  · rw [up2_s, hn, nI_clamp (by omega)]; show (0 : Nat) + n ≤ _; rw [feuds_n1 hb]; omega
  · rw [up2_s, hn, nI_clamp (by omega)]; show (0 : Nat) + n ≤ _; rw [feuds_n1 ha]; omega
  · rw [feuds_n1 hb]; decide
  · rw [feuds_n1 ha]; decide
  refine b_aload_n dX1_copy_25 rfl rfl ?_
  refine b_getR (b := (b + 2)) lf_X1_15 (feuds_c hb) (feuds_r1 hb) dX1_copy_26 ?_
  refine b_iconst (v := 0) dX1_copy_29 (by decide +kernel) ?_
  refine b_aload_n dX1_copy_30 rfl rfl ?_
  refine b_getR (b := (a + 2)) lf_X1_15 (feuds_c ha) (feuds_r1 ha) dX1_copy_31 ?_
  refine b_iconst (v := 0) dX1_copy_34 (by decide +kernel) ?_
  refine b_aload_n dX1_copy_35 rfl rfl ?_
  refine b_getI lf_X1_18 (feuds_c ha) dX1_copy_36 ?_
  refine b_copyi dX1_copy_39 lc_X1_26 (by omega) (by decide) ?_ ?_ ?_ ?_ ?_ ?_ ?_ (by decide) ?_
  · exact nI_pos (n := 0) (by omega)
  · exact nI_pos (n := 0) (by omega)
  · rw [upA_a _ _ _ (by omega), up2_s, hn]; exact nI_pos (by omega)
  · rw [upA_a _ _ _ (by omega), up2_s, hn, nI_clamp (by omega)]; show (0 : Nat) + n ≤ _; rw [feuds_n2 hb]; omega
  · rw [upA_a _ _ _ (by omega), up2_s, hn, nI_clamp (by omega)]; show (0 : Nat) + n ≤ _; rw [feuds_n2 ha]; omega
  · rw [feuds_n2 hb]; decide
  · rw [feuds_n2 ha]; decide
  refine b_vret rfl (by decide) dX1_copy_42 ?_
  have hb9 : b ≠ a + 1 ∧ b ≠ a + 2 ∧ b + 1 ≠ a ∧ b + 1 ≠ a + 1 ∧ b + 2 ≠ a ∧ b + 2 ≠ a + 1 ∧ b + 2 ≠ a + 2 ∧ b + 1 ≠ a + 2 := by unfold is_feuds at ha hb; omega
  have e0 : (upA (up2 g a 2 (g b 2)) (a + 1) (va_cpy (up2 g a 2 (g b 2) (b + 1)) (up2 g a 2 (g b 2) (a + 1)) (0 : Int32).toNatClampNeg (0 : Int32).toNatClampNeg (up2 g a 2 (g b 2) a 2).toNatClampNeg)) a 2 = nI n := by rw [upA_a _ _ _ (by omega), up2_s, hn]
  refine hq _ (fun b hb => by simp only [List.mem_cons, List.not_mem_nil, or_false, not_or] at hb; rw [upA_a _ _ _ hb.2.2, upA_a _ _ _ hb.2.1, up2_f _ _ _ _ hb.1]) (fun j hj => by rw [upA_a _ _ _ (by omega), upA_a _ _ _ (by omega), up2_k _ _ _ _ hj]) (by rw [upA_a _ _ _ (by omega)]; exact e0) (fun j hj => ?_) (fun j hj => ?_)
  · rw [upA_a _ _ _ (by omega), upA_s, up2_s, hn, nI_clamp (by omega), up2_f _ _ _ _ (by omega), show (0 : Int32).toNatClampNeg = 0 from rfl, va_cpy, if_pos (by omega)]; simp
  · rw [upA_s, e0, nI_clamp (by omega), upA_a _ _ _ (by omega), up2_f _ _ _ _ (by omega), show (0 : Int32).toNatClampNeg = 0 from rfl, va_cpy, if_pos (by omega)]; simp
