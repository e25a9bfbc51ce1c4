/-- how like: a row more of the table -/
def lkR (prev : Nat → Int32) (x : Int32) (o : Nat → Int32) : Nat → Int32
  | 0 => 0
  | k + 1 => if x = o k then prev k + 1 else (if prev (k + 1) < lkR prev x o k then lkR prev x o k else prev (k + 1))
def lkM (f o : Nat → Int32) : Nat → Nat → Int32
  | 0 => fun _ => 0
  | i + 1 => lkR (lkM f o i) (f i) o
theorem c_X12_likeNow {E : En} {d : Nat} {Q : QT} {X : XT} {g : G2} {n on : Nat} (hn : g 84 32 = nI n) (h4 : n ≤ 400) (ho : g 87 2 = nI on) (h24 : on ≤ 24) (hq : ∀ h, (∀ y, y ≠ 110 → y ≠ 111 → h y = g y) → Q (some (.int (lkM (g 104) (g 94) n on))) h) : M E md_X12_likeNow (d + 1) [.ref 84] g Q X := by
  refine M.of _ rfl rfl (Nat.le_of_ble_eq_true rfl) ?_
  have LP : ∀ i, i ≤ n → ∀ h : G2, (∀ y, y ≠ 110 → y ≠ 111 → h y = g y) → (∀ j, j ≤ on → h 110 j = lkM (g 104) (g 94) i j) → B E md_X12_likeNow (d + 1) Q X 23 [(0, .ref 84), (1, .int (nI i))] [] h 0 := by
    refine lp_up (fun i hi ihI h hb hr => ?_)
    have k84 : h 84 32 = nI n := by rw [hb 84 (by decide) (by decide)]; exact hn
    have k87 : h 87 2 = nI on := by rw [hb 87 (by decide) (by decide)]; exact ho
    have CP : i < n → ∀ q, q ≤ on + 1 → ∀ h : G2, (∀ y, y ≠ 110 → y ≠ 111 → h y = g y) → (∀ j, j < q → h 110 j = lkM (g 104) (g 94) (i + 1) j) → (∀ j, j ≤ on → h 111 j = lkM (g 104) (g 94) (i + 1) j) → B E md_X12_likeNow (d + 1) Q X 111 [(0, .ref 84), (1, .int (nI i)), (2, .int (nI q))] [] h 0 := by
      intro hin
      refine lp_up (fun q hq0 ih h hb hd hd2 => ?_)
      have k87 : h 87 2 = nI on := by rw [hb 87 (by decide) (by decide)]; exact ho
      refine b_iload_n dX12_likeNow_111 rfl rfl ?_
      refine b_aload_n dX12_likeNow_112 rfl rfl ?_
      refine b_getR (b := 87) lf_X12_40 rfl rfl dX12_likeNow_113 ?_
      refine b_iconst (v := 2) dX12_likeNow_116 (by decide +kernel) ?_
      refine b_ildN (j := 2) dX12_likeNow_117 (rfl) (by show _ < 10; decide) ?_
      refine b_icmp_gt (tgt := 139) dX12_likeNow_118 (by decide) (fun h118 => ?_) (fun h118 => ?_)
      · have e : on < q := (nI_ltI (by omega) (by omega)).mp (k87 ▸ h118)
        refine b_incN (j := i) (lv' := [(0, _), (1, _), (2, _)]) dX12_likeNow_139 rfl rfl (by decide) rfl rfl ?_
        refine b_goto (tgt := 23) dX12_likeNow_142 (by decide) ?_
        refine b_take 2 ?_
        exact ihI (i + 1) (by omega) (by omega) h hb (fun j hj => hd j (by omega))
      · have e : q ≤ on := by
          rcases Nat.lt_or_ge on q with z | z
          · exact absurd (k87 ▸ (nI_lt z (by omega))) h118
          · exact z
        refine b_aload_n dX12_likeNow_121 rfl rfl ?_
        refine b_getR (b := 110) lf_X12_114 rfl rfl dX12_likeNow_122 ?_
        refine b_iload_n dX12_likeNow_125 rfl rfl ?_
        refine b_aload_n dX12_likeNow_126 rfl rfl ?_
        refine b_getR (b := 111) lf_X12_117 rfl rfl dX12_likeNow_127 ?_
        refine b_iload_n dX12_likeNow_130 rfl rfl ?_
        refine b_ildN (j := q) dX12_likeNow_131 (rfl) (by show _ < 25; omega) ?_
        refine b_istN (j := q) dX12_likeNow_132 (rfl) (by show _ < 25; omega) ?_
        refine b_incN (j := q) (lv' := [(0, _), (1, _), (2, _)]) dX12_likeNow_133 rfl rfl (by decide) rfl rfl ?_
        refine b_goto (tgt := 111) dX12_likeNow_136 (by decide) ?_
        exact ih (q + 1) (by omega) (by omega) _ (by grind [up2_f]) (by grind [up2]) (by grind [up2])
    have IN : i < n → ∀ q, q ≤ on → ∀ h : G2, (∀ y, y ≠ 110 → y ≠ 111 → h y = g y) → (∀ j, j ≤ on → h 110 j = lkM (g 104) (g 94) i j) → (∀ j, j ≤ q → h 111 j = lkM (g 104) (g 94) (i + 1) j) → B E md_X12_likeNow (d + 1) Q X 40 [(0, .ref 84), (1, .int (nI i)), (2, .int (nI (q + 1)))] [] h 0 := by
      intro hin
      have CP := CP hin
      refine lp_up (fun q hq0 ih h hb hr hn1 => ?_)
      have k87 : h 87 2 = nI on := by rw [hb 87 (by decide) (by decide)]; exact ho
      have k104 : h 104 = g 104 := hb 104 (by decide) (by decide)
      have k94 : h 94 = g 94 := hb 94 (by decide) (by decide)
      refine b_iload_n dX12_likeNow_40 rfl rfl ?_
      refine b_aload_n dX12_likeNow_41 rfl rfl ?_
      refine b_getR (b := 87) lf_X12_40 rfl rfl dX12_likeNow_42 ?_
      refine b_iconst (v := 2) dX12_likeNow_45 (by decide +kernel) ?_
      refine b_ildN (j := 2) dX12_likeNow_46 (rfl) (by show _ < 10; decide) ?_
      refine b_icmp_gt (tgt := 109) dX12_likeNow_47 (by decide) (fun h47 => ?_) (fun h47 => ?_)
      · have e : on < q + 1 := (nI_ltI (by omega) (by omega)).mp (k87 ▸ h47)
        refine b_iconst (v := 0) dX12_likeNow_109 (by decide +kernel) ?_
        refine b_istore_n (lv' := [(0, _), (1, _), (2, _)]) dX12_likeNow_110 rfl (by decide) rfl rfl ?_
        exact CP 0 (by omega) h hb (fun j hj => absurd hj (by omega)) (fun j hj => hn1 j (by omega))
      · have e : q + 1 ≤ on := by
          rcases Nat.lt_or_ge on (q + 1) with z | z
          · exact absurd (k87 ▸ (nI_lt z (by omega))) h47
          · exact z
        refine b_aload_n dX12_likeNow_50 rfl rfl ?_
        refine b_getR (b := 111) lf_X12_117 rfl rfl dX12_likeNow_51 ?_
        refine b_iload_n dX12_likeNow_54 rfl rfl ?_
        refine b_aload_n dX12_likeNow_55 rfl rfl ?_
        refine b_getR (b := 104) lf_X12_93 rfl rfl dX12_likeNow_56 ?_
        refine b_iload_n dX12_likeNow_59 rfl rfl ?_
        refine b_ildN (j := i) dX12_likeNow_60 (rfl) (by show _ < 400; omega) ?_
        refine b_aload_n dX12_likeNow_61 rfl rfl ?_
        refine b_getR (b := 94) lf_X12_61 rfl rfl dX12_likeNow_62 ?_
        refine b_iload_n dX12_likeNow_65 rfl rfl ?_
        refine b_iconst (v := 1) dX12_likeNow_66 (by decide +kernel) ?_
        refine b_isub dX12_likeNow_67 ?_
        refine b_ildN (j := q) dX12_likeNow_68 (nI_pred q) (by show _ < 48; omega) ?_
        refine b_icmp_ne (tgt := 85) dX12_likeNow_69 (by decide) (fun h69 => ?_) (fun h69 => ?_)
        · rw [k104, k94] at h69
          refine b_aload_n dX12_likeNow_85 rfl rfl ?_
          refine b_getR (b := 110) lf_X12_114 rfl rfl dX12_likeNow_86 ?_
          refine b_iload_n dX12_likeNow_89 rfl rfl ?_
          refine b_ildN (j := (q + 1)) dX12_likeNow_90 (rfl) (by show _ < 25; omega) ?_
          refine b_aload_n dX12_likeNow_91 rfl rfl ?_
          refine b_getR (b := 111) lf_X12_117 rfl rfl dX12_likeNow_92 ?_
          refine b_iload_n dX12_likeNow_95 rfl rfl ?_
          refine b_iconst (v := 1) dX12_likeNow_96 (by decide +kernel) ?_
          refine b_isub dX12_likeNow_97 ?_
          refine b_ildN (j := q) dX12_likeNow_98 (nI_pred q) (by show _ < 25; omega) ?_
          refine b_max dX12_likeNow_99 lc_X12_453 (by omega) (Nat.le_of_ble_eq_true rfl) (by decide) ?_
          refine b_istN (j := (q + 1)) dX12_likeNow_102 (rfl) (by show _ < 25; omega) ?_
          refine b_incN (j := (q + 1)) (lv' := [(0, _), (1, _), (2, _)]) dX12_likeNow_103 rfl rfl (by decide) rfl rfl ?_
          refine b_goto (tgt := 40) dX12_likeNow_106 (by decide) ?_
          refine ih (q + 1) (by omega) (by omega) _ (by grind [up2_f]) (by grind [up2]) (fun j hj => ?_)
          by_cases ej : j = q + 1
          · rw [ej, up2_s]
            show _ = lkR (lkM (g 104) (g 94) i) (g 104 i) (g 94) (q + 1)
            rw [lkR, if_neg h69, hr (q + 1) (by omega), hn1 q (by omega)]
            rfl
          · rw [up2_k _ _ _ _ ej]; exact hn1 j (by omega)
        · rw [k104, k94] at h69
          refine b_aload_n dX12_likeNow_72 rfl rfl ?_
          refine b_getR (b := 110) lf_X12_114 rfl rfl dX12_likeNow_73 ?_
          refine b_iload_n dX12_likeNow_76 rfl rfl ?_
          refine b_iconst (v := 1) dX12_likeNow_77 (by decide +kernel) ?_
          refine b_isub dX12_likeNow_78 ?_
          refine b_ildN (j := q) dX12_likeNow_79 (nI_pred q) (by show _ < 25; omega) ?_
          refine b_iconst (v := 1) dX12_likeNow_80 (by decide +kernel) ?_
          refine b_iadd dX12_likeNow_81 ?_
          refine b_goto (tgt := 102) dX12_likeNow_82 (by decide) ?_
          refine b_istN (j := (q + 1)) dX12_likeNow_102 (rfl) (by show _ < 25; omega) ?_
          refine b_incN (j := (q + 1)) (lv' := [(0, _), (1, _), (2, _)]) dX12_likeNow_103 rfl rfl (by decide) rfl rfl ?_
          refine b_goto (tgt := 40) dX12_likeNow_106 (by decide) ?_
          refine ih (q + 1) (by omega) (by omega) _ (by grind [up2_f]) (by grind [up2]) (fun j hj => ?_)
          by_cases ej : j = q + 1
          · rw [ej, up2_s]
            show _ = lkR (lkM (g 104) (g 94) i) (g 104 i) (g 94) (q + 1)
            rw [lkR, if_pos h69, hr q (by omega)]
          
          · rw [up2_k _ _ _ _ ej]; exact hn1 j (by omega)
    refine b_iload_n dX12_likeNow_23 rfl rfl ?_
    refine b_aload_n dX12_likeNow_24 rfl rfl ?_
    refine b_getI lf_X12_320 rfl dX12_likeNow_25 ?_
    refine b_icmp_ge (tgt := 145) dX12_likeNow_28 (by decide) (fun h28 => ?_) (fun h28 => ?_)
    · have e : i = n := by have := (nI_leI (by omega) (by omega)).mp (k84 ▸ h28); omega
      subst e
      refine b_aload_n dX12_likeNow_145 rfl rfl ?_
      refine b_getR (b := 110) lf_X12_114 rfl rfl dX12_likeNow_146 ?_
      refine b_aload_n dX12_likeNow_149 rfl rfl ?_
      refine b_getR (b := 87) lf_X12_40 rfl rfl dX12_likeNow_150 ?_
      refine b_iconst (v := 2) dX12_likeNow_153 (by decide +kernel) ?_
      refine b_ildN (j := 2) dX12_likeNow_154 (rfl) (by show _ < 10; decide) ?_
      refine b_ildN (j := on) dX12_likeNow_155 (k87) (by show _ < 25; omega) ?_
      refine b_iret rfl (by decide) dX12_likeNow_156 ?_
      rw [hr on (Nat.le_refl _)]
      exact hq h hb
    · have e : i < n := by
        rcases Nat.lt_or_ge i n with q | q
        · exact q
        · exact absurd (k84 ▸ (nI_leI (by omega) (by omega)).mpr q) h28
      refine b_aload_n dX12_likeNow_31 rfl rfl ?_
      refine b_getR (b := 111) lf_X12_117 rfl rfl dX12_likeNow_32 ?_
      refine b_iconst (v := 0) dX12_likeNow_35 (by decide +kernel) ?_
      refine b_iconst (v := 0) dX12_likeNow_36 (by decide +kernel) ?_
      refine b_istN (j := 0) dX12_likeNow_37 (rfl) (by show _ < 25; decide) ?_
      refine b_iconst (v := 1) dX12_likeNow_38 (by decide +kernel) ?_
      refine b_istore_n (lv' := [(0, _), (1, _), (2, _)]) dX12_likeNow_39 rfl (by decide) rfl rfl ?_
      exact IN e 0 (by omega) _ (by grind [up2_f]) (by grind [up2]) (fun j hj => by
        rw [show j = 0 by omega, up2_s]; rfl)
  have LZ : ∀ i, i ≤ 25 → ∀ h : G2, (∀ y, y ≠ 110 → y ≠ 111 → h y = g y) → (∀ j, j < i → h 110 j = 0) → B E md_X12_likeNow (d + 1) Q X 2 [(0, .ref 84), (1, .int (nI i))] [] h 0 := by
    refine lp_up (fun i hi ih h hb hz => ?_)
    refine b_iload_n dX12_likeNow_2 rfl rfl ?_
    refine b_bipush (v := 24) dX12_likeNow_3 (by decide +kernel) ?_
    refine b_icmp_gt (tgt := 21) dX12_likeNow_5 (by decide) (fun h5 => ?_) (fun h5 => ?_)
    · have e : 24 < i := (nI_ltI (a := 24) (by decide) (by omega)).mp h5
      refine b_iconst (v := 0) dX12_likeNow_21 (by decide +kernel) ?_
      refine b_istore_n (lv' := [(0, _), (1, _)]) dX12_likeNow_22 rfl (by decide) rfl rfl ?_
      refine LP 0 (Nat.zero_le _) h hb (fun j hj => hz j (by omega))
    · have e : i ≤ 24 := by
        rcases Nat.lt_or_ge 24 i with z | z
        · exact absurd (nI_lt (a := 24) z (by omega)) h5
        · exact z
      refine b_aload_n dX12_likeNow_8 rfl rfl ?_
      refine b_getR (b := 110) lf_X12_114 rfl rfl dX12_likeNow_9 ?_
      refine b_iload_n dX12_likeNow_12 rfl rfl ?_
      refine b_iconst (v := 0) dX12_likeNow_13 (by decide +kernel) ?_
      refine b_istN (j := i) dX12_likeNow_14 (rfl) (by show _ < 25; omega) ?_
      refine b_incN (j := i) (lv' := [(0, _), (1, _)]) dX12_likeNow_15 rfl rfl (by decide) rfl rfl ?_
      refine b_goto (tgt := 2) dX12_likeNow_18 (by decide) ?_
      exact ih (i + 1) (by omega) (by omega) _ (by grind [up2_f]) (by grind [up2])
  refine b_iconst (v := 0) dX12_likeNow_0 (by decide +kernel) ?_
  refine b_istore_n (lv' := [(0, _), (1, _)]) dX12_likeNow_1 rfl (by decide) rfl rfl ?_
  exact LZ 0 (Nat.zero_le _) g (fun _ _ _ => rfl) (fun j hj => absurd hj (by omega))
