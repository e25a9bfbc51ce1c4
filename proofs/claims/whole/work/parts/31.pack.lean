/-- the row r holds from f on what the model's life is in g -/
def PKD (g : G2) (r : Nat → Int32) (f : Nat) : Prop := r f = g 84 30 ∧ r (f + 1) = g 84 31 ∧ r (f + 2) = g 84 32 ∧ r (f + 3) = g 84 33 ∧ r (f + 4) = g 84 34 ∧ r (f + 5) = g 84 35 ∧ r (f + 6) = g 84 36 ∧
  (∀ p, p < 8 → r (f + 7 + p) = g 99 p) ∧ (∀ p, p < 8 → r (f + 7 + 8 + p) = g 100 p) ∧ (∀ k, k < 6 → r (f + 7 + 16 + k) = g 101 k) ∧ (∀ k, k < 6 → r (f + 7 + 16 + 6 + k) = g 102 k)
theorem c_X12_pack {E : En} {d : Nat} {Q : QT} {X : XT} {g : G2} {z f n : Nat} (hL : iln z = n) (hf : f + 35 ≤ n) (hn14 : n ≤ 1400) (hz : z ≠ 84 ∧ z ≠ 99 ∧ z ≠ 100 ∧ z ≠ 101 ∧ z ≠ 102) (hq : ∀ h, (∀ y, y ≠ z → h y = g y) → (∀ j, (j < f ∨ f + 35 ≤ j) → h z j = g z j) → PKD g (h z) f → Q none h) : M E md_X12_pack d [.ref 84, .ref z, .int (nI f)] g Q X := by
  refine M.of _ rfl rfl (Nat.le_of_ble_eq_true rfl) ?_
  have L2 : ∀ i, i ≤ 6 → ∀ h : G2, (∀ y, y ≠ z → h y = g y) → (∀ j, (j < f ∨ f + 35 ≤ j) → h z j = g z j) → (h z f = g 84 30 ∧ h z (f + 1) = g 84 31 ∧ h z (f + 2) = g 84 32 ∧ h z (f + 3) = g 84 33 ∧ h z (f + 4) = g 84 34 ∧ h z (f + 5) = g 84 35 ∧ h z (f + 6) = g 84 36) → (∀ p, p < 8 → h z (f + 7 + p) = g 99 p) → (∀ p, p < 8 → h z (f + 7 + 8 + p) = g 100 p) → (∀ k, k < i → h z (f + 7 + 16 + k) = g 101 k) → (∀ k, k < i → h z (f + 7 + 16 + 6 + k) = g 102 k) → B E md_X12_pack d Q X 109 [(0, .ref 84), (1, .ref z), (2, .int (nI f)), (3, .int (nI i))] [] h 0 := by
    refine lp_up (fun i hi ih h hb hO h7 hA hB hC hD => ?_)
    have k101 := hb 101 (by omega)
    have k102 := hb 102 (by omega)
    refine b_iload_n dX12_pack_109 rfl rfl ?_
    refine b_bipush (v := 6) dX12_pack_110 (by decide +kernel) ?_
    refine b_icmp_ge (tgt := 158) dX12_pack_112 (by decide) (fun h112 => ?_) (fun h112 => ?_)
    · have e : i = 6 := by have := (nI_leI (a := 6) (by decide) (by omega)).mp h112; omega
      subst e
      refine b_vret rfl (by decide) dX12_pack_158 ?_
      exact hq h hb hO ⟨h7.1, h7.2.1, h7.2.2.1, h7.2.2.2.1, h7.2.2.2.2.1, h7.2.2.2.2.2.1, h7.2.2.2.2.2.2, hA, hB, hC, hD⟩
    · have e : i < 6 := by
        rcases Nat.lt_or_ge i 6 with q | q
        · exact q
        · exact absurd ((nI_leI (a := 6) (by decide) (by omega)).mpr q) h112
      refine b_aload_n dX12_pack_115 rfl rfl ?_
      refine b_iload_n dX12_pack_116 rfl rfl ?_
      refine b_bipush (v := 7) dX12_pack_117 (by decide +kernel) ?_
      refine b_iadd dX12_pack_119 ?_
      refine b_bipush (v := 16) dX12_pack_120 (by decide +kernel) ?_
      refine b_iadd dX12_pack_122 ?_
      refine b_iload_n dX12_pack_123 rfl rfl ?_
      refine b_iadd dX12_pack_124 ?_
      refine b_aload_n dX12_pack_125 rfl rfl ?_
      refine b_getR (b := 101) lf_X12_84 rfl rfl dX12_pack_126 ?_
      refine b_iload_n dX12_pack_129 rfl rfl ?_
      refine b_ildN (j := i) dX12_pack_130 (rfl) (by show _ < 6; omega) ?_
      refine b_istN (j := (f + 7 + 16 + i)) dX12_pack_131 (by rw [show (7 : Int32) = nI 7 from rfl, show (16 : Int32) = nI 16 from rfl, nI_add, nI_add, nI_add]) (by rw [hL]; omega) ?_
      refine b_aload_n dX12_pack_132 rfl rfl ?_
      refine b_iload_n dX12_pack_133 rfl rfl ?_
      refine b_bipush (v := 7) dX12_pack_134 (by decide +kernel) ?_
      refine b_iadd dX12_pack_136 ?_
      refine b_bipush (v := 16) dX12_pack_137 (by decide +kernel) ?_
      refine b_iadd dX12_pack_139 ?_
      refine b_bipush (v := 6) dX12_pack_140 (by decide +kernel) ?_
      refine b_iadd dX12_pack_142 ?_
      refine b_iload_n dX12_pack_143 rfl rfl ?_
      refine b_iadd dX12_pack_144 ?_
      refine b_aload_n dX12_pack_145 rfl rfl ?_
      refine b_getR (b := 102) lf_X12_87 rfl rfl dX12_pack_146 ?_
      refine b_iload_n dX12_pack_149 rfl rfl ?_
      refine b_ildN (j := i) dX12_pack_150 (rfl) (by show _ < 6; omega) ?_
      refine b_istN (j := (f + 7 + 16 + 6 + i)) dX12_pack_151 (by rw [show (7 : Int32) = nI 7 from rfl, show (16 : Int32) = nI 16 from rfl, show (6 : Int32) = nI 6 from rfl, nI_add, nI_add, nI_add, nI_add]) (by rw [hL]; omega) ?_
      refine b_incN (j := i) (lv' := [(0, _), (1, _), (2, _), (3, _)]) dX12_pack_152 rfl rfl (by decide) rfl rfl ?_
      refine b_goto (tgt := 109) dX12_pack_155 (by decide) ?_
      exact ih (i + 1) (by omega) (by omega) _ (by grind [up2_f]) (by grind [up2]) (by grind [up2]) (by grind [up2]) (by grind [up2]) (by grind [up2]) (by grind [up2])
  have L1 : ∀ i, i ≤ 8 → ∀ h : G2, (∀ y, y ≠ z → h y = g y) → (∀ j, (j < f ∨ f + 35 ≤ j) → h z j = g z j) → (h z f = g 84 30 ∧ h z (f + 1) = g 84 31 ∧ h z (f + 2) = g 84 32 ∧ h z (f + 3) = g 84 33 ∧ h z (f + 4) = g 84 34 ∧ h z (f + 5) = g 84 35 ∧ h z (f + 6) = g 84 36) → (∀ p, p < i → h z (f + 7 + p) = g 99 p) → (∀ p, p < i → h z (f + 7 + 8 + p) = g 100 p) → B E md_X12_pack d Q X 64 [(0, .ref 84), (1, .ref z), (2, .int (nI f)), (3, .int (nI i))] [] h 0 := by
    refine lp_up (fun i hi ih h hb hO h7 hA hB => ?_)
    have k99 := hb 99 (by omega)
    have k100 := hb 100 (by omega)
    refine b_iload_n dX12_pack_64 rfl rfl ?_
    refine b_bipush (v := 8) dX12_pack_65 (by decide +kernel) ?_
    refine b_icmp_ge (tgt := 107) dX12_pack_67 (by decide) (fun h67 => ?_) (fun h67 => ?_)
    · have e : i = 8 := by have := (nI_leI (a := 8) (by decide) (by omega)).mp h67; omega
      subst e
      refine b_iconst (v := 0) dX12_pack_107 (by decide +kernel) ?_
      refine b_istore_n (lv' := [(0, _), (1, _), (2, _), (3, _)]) dX12_pack_108 rfl (by decide) rfl rfl ?_
      exact L2 0 (Nat.zero_le _) h hb hO h7 hA hB (fun k hk => absurd hk (by omega)) (fun k hk => absurd hk (by omega))
    · have e : i < 8 := by
        rcases Nat.lt_or_ge i 8 with q | q
        · exact q
        · exact absurd ((nI_leI (a := 8) (by decide) (by omega)).mpr q) h67
      refine b_aload_n dX12_pack_70 rfl rfl ?_
      refine b_iload_n dX12_pack_71 rfl rfl ?_
      refine b_bipush (v := 7) dX12_pack_72 (by decide +kernel) ?_
      refine b_iadd dX12_pack_74 ?_
      refine b_iload_n dX12_pack_75 rfl rfl ?_
      refine b_iadd dX12_pack_76 ?_
      refine b_aload_n dX12_pack_77 rfl rfl ?_
      refine b_getR (b := 99) lf_X12_80 rfl rfl dX12_pack_78 ?_
      refine b_iload_n dX12_pack_81 rfl rfl ?_
      refine b_ildN (j := i) dX12_pack_82 (rfl) (by show _ < 8; omega) ?_
      refine b_istN (j := (f + 7 + i)) dX12_pack_83 (by rw [show (7 : Int32) = nI 7 from rfl, nI_add, nI_add]) (by rw [hL]; omega) ?_
      refine b_aload_n dX12_pack_84 rfl rfl ?_
      refine b_iload_n dX12_pack_85 rfl rfl ?_
      refine b_bipush (v := 7) dX12_pack_86 (by decide +kernel) ?_
      refine b_iadd dX12_pack_88 ?_
      refine b_bipush (v := 8) dX12_pack_89 (by decide +kernel) ?_
      refine b_iadd dX12_pack_91 ?_
      refine b_iload_n dX12_pack_92 rfl rfl ?_
      refine b_iadd dX12_pack_93 ?_
      refine b_aload_n dX12_pack_94 rfl rfl ?_
      refine b_getR (b := 100) lf_X12_82 rfl rfl dX12_pack_95 ?_
      refine b_iload_n dX12_pack_98 rfl rfl ?_
      refine b_ildN (j := i) dX12_pack_99 (rfl) (by show _ < 8; omega) ?_
      refine b_istN (j := (f + 7 + 8 + i)) dX12_pack_100 (by rw [show (7 : Int32) = nI 7 from rfl, show (8 : Int32) = nI 8 from rfl, nI_add, nI_add, nI_add]) (by rw [hL]; omega) ?_
      refine b_incN (j := i) (lv' := [(0, _), (1, _), (2, _), (3, _)]) dX12_pack_101 rfl rfl (by decide) rfl rfl ?_
      refine b_goto (tgt := 64) dX12_pack_104 (by decide) ?_
      exact ih (i + 1) (by omega) (by omega) _ (by grind [up2_f]) (by grind [up2]) (by grind [up2]) (by grind [up2]) (by grind [up2])
  refine b_aload_n dX12_pack_0 rfl rfl ?_
  refine b_iload_n dX12_pack_1 rfl rfl ?_
  refine b_aload_n dX12_pack_2 rfl rfl ?_
  refine b_getI lf_X12_316 rfl dX12_pack_3 ?_
  refine b_istN (j := (f)) dX12_pack_6 (rfl) (by rw [hL]; omega) ?_
  refine b_aload_n dX12_pack_7 rfl rfl ?_
  refine b_iload_n dX12_pack_8 rfl rfl ?_
  refine b_iconst (v := 1) dX12_pack_9 (by decide +kernel) ?_
  refine b_iadd dX12_pack_10 ?_
  refine b_aload_n dX12_pack_11 rfl rfl ?_
  refine b_getI lf_X12_318 rfl dX12_pack_12 ?_
  refine b_istN (j := (f + 1)) dX12_pack_15 (by rw [show (1 : Int32) = nI 1 from rfl, nI_add]) (by rw [hL]; omega) ?_
  refine b_aload_n dX12_pack_16 rfl rfl ?_
  refine b_iload_n dX12_pack_17 rfl rfl ?_
  refine b_iconst (v := 2) dX12_pack_18 (by decide +kernel) ?_
  refine b_iadd dX12_pack_19 ?_
  refine b_aload_n dX12_pack_20 rfl rfl ?_
  refine b_getI lf_X12_320 rfl dX12_pack_21 ?_
  refine b_istN (j := (f + 2)) dX12_pack_24 (by rw [show (2 : Int32) = nI 2 from rfl, nI_add]) (by rw [hL]; omega) ?_
  refine b_aload_n dX12_pack_25 rfl rfl ?_
  refine b_iload_n dX12_pack_26 rfl rfl ?_
  refine b_iconst (v := 3) dX12_pack_27 (by decide +kernel) ?_
  refine b_iadd dX12_pack_28 ?_
  refine b_aload_n dX12_pack_29 rfl rfl ?_
  refine b_getI lf_X12_323 rfl dX12_pack_30 ?_
  refine b_istN (j := (f + 3)) dX12_pack_33 (by rw [show (3 : Int32) = nI 3 from rfl, nI_add]) (by rw [hL]; omega) ?_
  refine b_aload_n dX12_pack_34 rfl rfl ?_
  refine b_iload_n dX12_pack_35 rfl rfl ?_
  refine b_iconst (v := 4) dX12_pack_36 (by decide +kernel) ?_
  refine b_iadd dX12_pack_37 ?_
  refine b_aload_n dX12_pack_38 rfl rfl ?_
  refine b_getI lf_X12_326 rfl dX12_pack_39 ?_
  refine b_istN (j := (f + 4)) dX12_pack_42 (by rw [show (4 : Int32) = nI 4 from rfl, nI_add]) (by rw [hL]; omega) ?_
  refine b_aload_n dX12_pack_43 rfl rfl ?_
  refine b_iload_n dX12_pack_44 rfl rfl ?_
  refine b_iconst (v := 5) dX12_pack_45 (by decide +kernel) ?_
  refine b_iadd dX12_pack_46 ?_
  refine b_aload_n dX12_pack_47 rfl rfl ?_
  refine b_getI lf_X12_329 rfl dX12_pack_48 ?_
  refine b_istN (j := (f + 5)) dX12_pack_51 (by rw [show (5 : Int32) = nI 5 from rfl, nI_add]) (by rw [hL]; omega) ?_
  refine b_aload_n dX12_pack_52 rfl rfl ?_
  refine b_iload_n dX12_pack_53 rfl rfl ?_
  refine b_bipush (v := 6) dX12_pack_54 (by decide +kernel) ?_
  refine b_iadd dX12_pack_56 ?_
  refine b_aload_n dX12_pack_57 rfl rfl ?_
  refine b_getI lf_X12_332 rfl dX12_pack_58 ?_
  refine b_istN (j := (f + 6)) dX12_pack_61 (by rw [show (6 : Int32) = nI 6 from rfl, nI_add]) (by rw [hL]; omega) ?_
  refine b_iconst (v := 0) dX12_pack_62 (by decide +kernel) ?_
  refine b_istore_n (lv' := [(0, _), (1, _), (2, _), (3, _)]) dX12_pack_63 rfl (by decide) rfl rfl ?_
  exact L1 0 (Nat.zero_le _) _ (by grind [up2_f]) (by grind [up2]) (by grind [up2]) (fun k hk => absurd hk (by omega)) (fun k hk => absurd hk (by omega))
