theorem c_X12_unpack {E : En} {d : Nat} {Q : QT} {X : XT} {g : G2} {z f n : Nat} (hL : iln z = n) (hf : f + 35 ≤ n) (hn14 : n ≤ 1400) (hz : z ≠ 84 ∧ z ≠ 99 ∧ z ≠ 100 ∧ z ≠ 101 ∧ z ≠ 102) (hq : ∀ h, (∀ y, y ≠ 84 → y ≠ 99 → y ≠ 100 → y ≠ 101 → y ≠ 102 → h y = g y) → (∀ j, (j < 30 ∨ 36 < j) → h 84 j = g 84 j) → PKD h (g z) f → Q none h) : M E md_X12_unpack d [.ref 84, .ref z, .int (nI f)] g Q X := by
  refine M.of _ rfl rfl (Nat.le_of_ble_eq_true rfl) ?_
  have L2 : ∀ i, i ≤ 6 → ∀ h : G2, (∀ y, y ≠ 84 → y ≠ 99 → y ≠ 100 → y ≠ 101 → y ≠ 102 → h y = g y) → (∀ j, (j < 30 ∨ 36 < j) → h 84 j = g 84 j) → (g z f = h 84 30 ∧ g z (f + 1) = h 84 31 ∧ g z (f + 2) = h 84 32 ∧ g z (f + 3) = h 84 33 ∧ g z (f + 4) = h 84 34 ∧ g z (f + 5) = h 84 35 ∧ g z (f + 6) = h 84 36) → (∀ p, p < 8 → g z (f + 7 + p) = h 99 p) → (∀ p, p < 8 → g z (f + 7 + 8 + p) = h 100 p) → (∀ k, k < i → g z (f + 7 + 16 + k) = h 101 k) → (∀ k, k < i → g z (f + 7 + 16 + 6 + k) = h 102 k) → B E md_X12_unpack d Q X 109 [(0, .ref 84), (1, .ref z), (2, .int (nI f)), (3, .int (nI i))] [] h 0 := by
    refine lp_up (fun i hi ih h hb hO h7 hA hB hC hD => ?_)
    have kz := hb z hz.1 hz.2.1 hz.2.2.1 hz.2.2.2.1 hz.2.2.2.2
    refine b_iload_n dX12_unpack_109 rfl rfl ?_
    refine b_bipush (v := 6) dX12_unpack_110 (by decide +kernel) ?_
    refine b_icmp_ge (tgt := 158) dX12_unpack_112 (by decide) (fun h112 => ?_) (fun h112 => ?_)
    · have e : i = 6 := by have := (nI_leI (a := 6) (by decide) (by omega)).mp h112; omega
      subst e
      refine b_vret rfl (by decide) dX12_unpack_158 ?_
      exact hq h hb hO ⟨h7.1, h7.2.1, h7.2.2.1, h7.2.2.2.1, h7.2.2.2.2.1, h7.2.2.2.2.2.1, h7.2.2.2.2.2.2, hA, hB, hC, hD⟩
    · have e : i < 6 := by
        rcases Nat.lt_or_ge i 6 with q | q
        · exact q
        · exact absurd ((nI_leI (a := 6) (by decide) (by omega)).mpr q) h112
      refine b_aload_n dX12_unpack_115 rfl rfl ?_
      refine b_getR (b := 101) lf_X12_84 rfl rfl dX12_unpack_116 ?_
      refine b_iload_n dX12_unpack_119 rfl rfl ?_
      refine b_aload_n dX12_unpack_120 rfl rfl ?_
      refine b_iload_n dX12_unpack_121 rfl rfl ?_
      refine b_bipush (v := 7) dX12_unpack_122 (by decide +kernel) ?_
      refine b_iadd dX12_unpack_124 ?_
      refine b_bipush (v := 16) dX12_unpack_125 (by decide +kernel) ?_
      refine b_iadd dX12_unpack_127 ?_
      refine b_iload_n dX12_unpack_128 rfl rfl ?_
      refine b_iadd dX12_unpack_129 ?_
      refine b_ildN (j := (f + 7 + 16 + i)) dX12_unpack_130 (by rw [show (7 : Int32) = nI 7 from rfl, show (16 : Int32) = nI 16 from rfl, nI_add, nI_add, nI_add]) (by rw [hL]; omega) ?_
      refine b_istN (j := i) dX12_unpack_131 (rfl) (by show _ < 6; omega) ?_
      refine b_aload_n dX12_unpack_132 rfl rfl ?_
      refine b_getR (b := 102) lf_X12_87 rfl rfl dX12_unpack_133 ?_
      refine b_iload_n dX12_unpack_136 rfl rfl ?_
      refine b_aload_n dX12_unpack_137 rfl rfl ?_
      refine b_iload_n dX12_unpack_138 rfl rfl ?_
      refine b_bipush (v := 7) dX12_unpack_139 (by decide +kernel) ?_
      refine b_iadd dX12_unpack_141 ?_
      refine b_bipush (v := 16) dX12_unpack_142 (by decide +kernel) ?_
      refine b_iadd dX12_unpack_144 ?_
      refine b_bipush (v := 6) dX12_unpack_145 (by decide +kernel) ?_
      refine b_iadd dX12_unpack_147 ?_
      refine b_iload_n dX12_unpack_148 rfl rfl ?_
      refine b_iadd dX12_unpack_149 ?_
      refine b_ildN (j := (f + 7 + 16 + 6 + i)) dX12_unpack_150 (by rw [show (7 : Int32) = nI 7 from rfl, show (16 : Int32) = nI 16 from rfl, show (6 : Int32) = nI 6 from rfl, nI_add, nI_add, nI_add, nI_add]) (by rw [hL]; omega) ?_
      refine b_istN (j := i) dX12_unpack_151 (rfl) (by show _ < 6; omega) ?_
      refine b_incN (j := i) (lv' := [(0, _), (1, _), (2, _), (3, _)]) dX12_unpack_152 rfl rfl (by decide) rfl rfl ?_
      refine b_goto (tgt := 109) dX12_unpack_155 (by decide) ?_
      exact ih (i + 1) (by omega) (by omega) _ (by grind [up2_f]) (by grind [up2]) (by grind [up2]) (by grind [up2]) (by grind [up2]) (by grind [up2]) (by grind [up2])
  have L1 : ∀ i, i ≤ 8 → ∀ h : G2, (∀ y, y ≠ 84 → y ≠ 99 → y ≠ 100 → y ≠ 101 → y ≠ 102 → h y = g y) → (∀ j, (j < 30 ∨ 36 < j) → h 84 j = g 84 j) → (g z f = h 84 30 ∧ g z (f + 1) = h 84 31 ∧ g z (f + 2) = h 84 32 ∧ g z (f + 3) = h 84 33 ∧ g z (f + 4) = h 84 34 ∧ g z (f + 5) = h 84 35 ∧ g z (f + 6) = h 84 36) → (∀ p, p < i → g z (f + 7 + p) = h 99 p) → (∀ p, p < i → g z (f + 7 + 8 + p) = h 100 p) → B E md_X12_unpack d Q X 64 [(0, .ref 84), (1, .ref z), (2, .int (nI f)), (3, .int (nI i))] [] h 0 := by
    refine lp_up (fun i hi ih h hb hO h7 hA hB => ?_)
    have kz := hb z hz.1 hz.2.1 hz.2.2.1 hz.2.2.2.1 hz.2.2.2.2
    refine b_iload_n dX12_unpack_64 rfl rfl ?_
    refine b_bipush (v := 8) dX12_unpack_65 (by decide +kernel) ?_
    refine b_icmp_ge (tgt := 107) dX12_unpack_67 (by decide) (fun h67 => ?_) (fun h67 => ?_)
    · have e : i = 8 := by have := (nI_leI (a := 8) (by decide) (by omega)).mp h67; omega
      subst e
      refine b_iconst (v := 0) dX12_unpack_107 (by decide +kernel) ?_
      refine b_istore_n (lv' := [(0, _), (1, _), (2, _), (3, _)]) dX12_unpack_108 rfl (by decide) rfl rfl ?_
      exact L2 0 (Nat.zero_le _) h hb hO h7 hA hB (fun k hk => absurd hk (by omega)) (fun k hk => absurd hk (by omega))
    · have e : i < 8 := by
        rcases Nat.lt_or_ge i 8 with q | q
        · exact q
        · exact absurd ((nI_leI (a := 8) (by decide) (by omega)).mpr q) h67
      refine b_aload_n dX12_unpack_70 rfl rfl ?_
      refine b_getR (b := 99) lf_X12_80 rfl rfl dX12_unpack_71 ?_
      refine b_iload_n dX12_unpack_74 rfl rfl ?_
      refine b_aload_n dX12_unpack_75 rfl rfl ?_
      refine b_iload_n dX12_unpack_76 rfl rfl ?_
      refine b_bipush (v := 7) dX12_unpack_77 (by decide +kernel) ?_
      refine b_iadd dX12_unpack_79 ?_
      refine b_iload_n dX12_unpack_80 rfl rfl ?_
      refine b_iadd dX12_unpack_81 ?_
      refine b_ildN (j := (f + 7 + i)) dX12_unpack_82 (by rw [show (7 : Int32) = nI 7 from rfl, nI_add, nI_add]) (by rw [hL]; omega) ?_
      refine b_istN (j := i) dX12_unpack_83 (rfl) (by show _ < 8; omega) ?_
      refine b_aload_n dX12_unpack_84 rfl rfl ?_
      refine b_getR (b := 100) lf_X12_82 rfl rfl dX12_unpack_85 ?_
      refine b_iload_n dX12_unpack_88 rfl rfl ?_
      refine b_aload_n dX12_unpack_89 rfl rfl ?_
      refine b_iload_n dX12_unpack_90 rfl rfl ?_
      refine b_bipush (v := 7) dX12_unpack_91 (by decide +kernel) ?_
      refine b_iadd dX12_unpack_93 ?_
      refine b_bipush (v := 8) dX12_unpack_94 (by decide +kernel) ?_
      refine b_iadd dX12_unpack_96 ?_
      refine b_iload_n dX12_unpack_97 rfl rfl ?_
      refine b_iadd dX12_unpack_98 ?_
      refine b_ildN (j := (f + 7 + 8 + i)) dX12_unpack_99 (by rw [show (7 : Int32) = nI 7 from rfl, show (8 : Int32) = nI 8 from rfl, nI_add, nI_add, nI_add]) (by rw [hL]; omega) ?_
      refine b_istN (j := i) dX12_unpack_100 (rfl) (by show _ < 8; omega) ?_
      refine b_incN (j := i) (lv' := [(0, _), (1, _), (2, _), (3, _)]) dX12_unpack_101 rfl rfl (by decide) rfl rfl ?_
      refine b_goto (tgt := 64) dX12_unpack_104 (by decide) ?_
      exact ih (i + 1) (by omega) (by omega) _ (by grind [up2_f]) (by grind [up2]) (by grind [up2]) (by grind [up2]) (by grind [up2])
  refine b_aload_n dX12_unpack_0 rfl rfl ?_
  refine b_aload_n dX12_unpack_1 rfl rfl ?_
  refine b_iload_n dX12_unpack_2 rfl rfl ?_
  refine b_ildN (j := (f)) dX12_unpack_3 (rfl) (by rw [hL]; omega) ?_
  refine b_putI lf_X12_316 lp_12_30 rfl dX12_unpack_4 ?_
  refine b_aload_n dX12_unpack_7 rfl rfl ?_
  refine b_aload_n dX12_unpack_8 rfl rfl ?_
  refine b_iload_n dX12_unpack_9 rfl rfl ?_
  refine b_iconst (v := 1) dX12_unpack_10 (by decide +kernel) ?_
  refine b_iadd dX12_unpack_11 ?_
  refine b_ildN (j := (f + 1)) dX12_unpack_12 (by rw [show (1 : Int32) = nI 1 from rfl, nI_add]) (by rw [hL]; omega) ?_
  refine b_putI lf_X12_318 lp_12_31 rfl dX12_unpack_13 ?_
  refine b_aload_n dX12_unpack_16 rfl rfl ?_
  refine b_aload_n dX12_unpack_17 rfl rfl ?_
  refine b_iload_n dX12_unpack_18 rfl rfl ?_
  refine b_iconst (v := 2) dX12_unpack_19 (by decide +kernel) ?_
  refine b_iadd dX12_unpack_20 ?_
  refine b_ildN (j := (f + 2)) dX12_unpack_21 (by rw [show (2 : Int32) = nI 2 from rfl, nI_add]) (by rw [hL]; omega) ?_
  refine b_putI lf_X12_320 lp_12_32 rfl dX12_unpack_22 ?_
  refine b_aload_n dX12_unpack_25 rfl rfl ?_
  refine b_aload_n dX12_unpack_26 rfl rfl ?_
  refine b_iload_n dX12_unpack_27 rfl rfl ?_
  refine b_iconst (v := 3) dX12_unpack_28 (by decide +kernel) ?_
  refine b_iadd dX12_unpack_29 ?_
  refine b_ildN (j := (f + 3)) dX12_unpack_30 (by rw [show (3 : Int32) = nI 3 from rfl, nI_add]) (by rw [hL]; omega) ?_
  refine b_putI lf_X12_323 lp_12_33 rfl dX12_unpack_31 ?_
  refine b_aload_n dX12_unpack_34 rfl rfl ?_
  refine b_aload_n dX12_unpack_35 rfl rfl ?_
  refine b_iload_n dX12_unpack_36 rfl rfl ?_
  refine b_iconst (v := 4) dX12_unpack_37 (by decide +kernel) ?_
  refine b_iadd dX12_unpack_38 ?_
  refine b_ildN (j := (f + 4)) dX12_unpack_39 (by rw [show (4 : Int32) = nI 4 from rfl, nI_add]) (by rw [hL]; omega) ?_
  refine b_putI lf_X12_326 lp_12_34 rfl dX12_unpack_40 ?_
  refine b_aload_n dX12_unpack_43 rfl rfl ?_
  refine b_aload_n dX12_unpack_44 rfl rfl ?_
  refine b_iload_n dX12_unpack_45 rfl rfl ?_
  refine b_iconst (v := 5) dX12_unpack_46 (by decide +kernel) ?_
  refine b_iadd dX12_unpack_47 ?_
  refine b_ildN (j := (f + 5)) dX12_unpack_48 (by rw [show (5 : Int32) = nI 5 from rfl, nI_add]) (by rw [hL]; omega) ?_
  refine b_putI lf_X12_329 lp_12_35 rfl dX12_unpack_49 ?_
  refine b_aload_n dX12_unpack_52 rfl rfl ?_
  refine b_aload_n dX12_unpack_53 rfl rfl ?_
  refine b_iload_n dX12_unpack_54 rfl rfl ?_
  refine b_bipush (v := 6) dX12_unpack_55 (by decide +kernel) ?_
  refine b_iadd dX12_unpack_57 ?_
  refine b_ildN (j := (f + 6)) dX12_unpack_58 (by rw [show (6 : Int32) = nI 6 from rfl, nI_add]) (by rw [hL]; omega) ?_
  refine b_putI lf_X12_332 lp_12_36 rfl dX12_unpack_59 ?_
  refine b_iconst (v := 0) dX12_unpack_62 (by decide +kernel) ?_
  refine b_istore_n (lv' := [(0, _), (1, _), (2, _), (3, _)]) dX12_unpack_63 rfl (by decide) rfl rfl ?_
  exact L1 0 (Nat.zero_le _) _ (by grind [up2_f]) (by grind [up2]) (by grind [up2]) (fun k hk => absurd hk (by omega)) (fun k hk => absurd hk (by omega))
theorem c_X12_be {E : En} {d : Nat} {Q : QT} {X : XT} {g : G2} {a b n : Nat} (ha : iln a = n) (hb : iln b = n) (hn0 : 0 < n) (hn14 : n ≤ 1400) (hab : a ≠ b) (hq : ∀ h, (∀ y, y ≠ a → h y = g y) → (∀ j, j < n → h a j = g b j) → Q none h) : M E md_X12_be d [.ref a, .ref b] g Q X := by
  refine M.of _ rfl rfl (Nat.le_of_ble_eq_true rfl) ?_
  have LP : ∀ i, i ≤ n → ∀ h : G2, (∀ y, y ≠ a → h y = g y) → (∀ j, j < i → h a j = g b j) → B E md_X12_be d Q X 2 [(0, .ref a), (1, .ref b), (2, .int (nI i))] [] h 0 := by
    refine lp_up (fun i hi ih h hF hI => ?_)
    have kb := hF b (Ne.symm hab)
    refine b_iload_n dX12_be_2 rfl rfl ?_
    refine b_aload_n dX12_be_3 rfl rfl ?_
    refine b_ilen (n := n) dX12_be_4 ha hn0 ?_
    refine b_icmp_ge (tgt := 20) dX12_be_5 (by decide) (fun h5 => ?_) (fun h5 => ?_)
    · have e : i = n := by have := (nI_leI (by omega) (by omega)).mp h5; omega
      subst e
      refine b_vret rfl (by decide) dX12_be_20 ?_
      exact hq h hF hI
    · have e : i < n := by
        rcases Nat.lt_or_ge i n with q | q
        · exact q
        · exact absurd ((nI_leI (by omega) (by omega)).mpr q) h5
      refine b_aload_n dX12_be_8 rfl rfl ?_
      refine b_iload_n dX12_be_9 rfl rfl ?_
      refine b_aload_n dX12_be_10 rfl rfl ?_
      refine b_iload_n dX12_be_11 rfl rfl ?_
      refine b_ildN (j := i) dX12_be_12 (rfl) (by rw [hb]; omega) ?_
      refine b_istN (j := i) dX12_be_13 (rfl) (by rw [ha]; omega) ?_
      refine b_incN (j := i) (lv' := [(0, _), (1, _), (2, _)]) dX12_be_14 rfl rfl (by decide) rfl rfl ?_
      refine b_goto (tgt := 2) dX12_be_17 (by decide) ?_
      exact ih (i + 1) (by omega) (by omega) _ (by grind [up2_f]) (by grind [up2])
  refine b_iconst (v := 0) dX12_be_0 (by decide +kernel) ?_
  refine b_istore_n (lv' := [(0, _), (1, _), (2, _)]) dX12_be_1 rfl (by decide) rfl rfl ?_
  exact LP 0 (Nat.zero_le _) g (fun _ _ => rfl) (fun j hj => absurd hj (by omega))
