theorem enL_0 {f : Nat → Nat} {n : Nat} {r : LR} (h : r.b = 0) : enL f n r = enL f n (0, 0, r.s) := by
  obtain ⟨b, p, s⟩ := r
  have h : b = 0 := h
  subst h
  rfl
theorem enL_n {f : Nat → Nat} {n : Nat} {r : LR} (h : r.b ≠ 0) : enL f n r = r := if_pos h
theorem LQ.mn {Q : QT} {f : Nat → Nat} {n u : Nat} {g h : G2} {r : LR} (hq : LQ Q f n u g r) (L : FLn u g h) : LQ Q f n u h r := ⟨fun k z F C => hq.1 k z (L.tr F) C, fun k z F C => hq.2 k z (L.tr F) C⟩
theorem c_X7_readLine {E : En} {d : Nat} {Q : QT} {X : XT} {g : G2} {f : Nat → Nat} {n u : Nat} {s : TxS} (hu : is_town u) (hC : RCl g f n u s) (hO : okLs f n s) (hq : LQ Q f n u g (ln f n s)) : M E md_X7_readLine (d + 8) [.ref 1] g Q X := by
  refine M.of _ rfl rfl (Nat.le_of_ble_eq_true rfl) ?_
  have h1 := hC.2.2.1.1
  have h8 := hO.2.1
  have h6 := hO.2.2.1
  have h24 := hO.2.2.2.1
  have hn6 := hC.1.2.1
  have hk := hO.1.vd.1
  have K168 : (¬ (100 ≤ s.t.k ∧ s.t.k ≤ 106) ∧ s.t.k ≠ 110) → B E md_X7_readLine (d + 8) Q X 168 [(0, .ref 1), (1, .int (nI s.t.k))] [] g 0 := by
    intro c0
    refine b_aload_n dX7_readLine_168 rfl rfl ?_
    refine b_iconst (v := 1) dX7_readLine_169 (by decide +kernel) ?_
    refine b_callV (As := [_]) (st := []) dX7_readLine_170 lk_X7_91 lm_X7_refuse lv_X7_refuse rfl (by decide) rfl rfl rfl (Nat.le_of_ble_eq_true rfl) (Nat.le_refl _) (by decide) ?_
    refine c_X7_refuse (k := 1) hC.2.1.2.2.1 ?_
    refine b_zret (Or.inl rfl) rfl (by decide) dX7_readLine_173 ?_
    rw [show ln f n s = (1, s.t.pl, s) from by unfold ln; rw [if_neg (by omega), if_neg (by omega), if_neg (by omega), if_neg (by omega), if_neg (by omega)]] at hq
    exact hq.2 _ (Nat.succ_ne_zero _) FLn.ref (FLt.ref hu hC.2.2.2.1.1 h8)
  have K44 : ¬ (100 ≤ s.t.k ∧ s.t.k ≤ 103) → B E md_X7_readLine (d + 8) Q X 44 [(0, .ref 1), (1, .int (nI s.t.k))] [] g 0 := by
    intro c0
    refine b_iload_n dX7_readLine_44 rfl rfl ?_
    by_cases k104 : s.t.k = 104
    · refine b_topE (y := 104) (congrArg nI k104) ?_
      refine b_tableIn (off := 63) (tgt := 108) dX7_readLine_45 (by decide +kernel) (by decide +kernel) (by decide +kernel) (by decide) ?_
      refine b_aload_n dX7_readLine_108 rfl rfl ?_
      refine b_callV (As := []) (st := []) dX7_readLine_109 lk_X7_82 lm_X7_readFeud lv_X7_readFeud rfl (by decide) rfl rfl rfl (Nat.le_of_ble_eq_true rfl) (Nat.le_refl _) (by decide) ?_
      rw [show ln f n s = enL f n (lnF f n s) from by unfold ln; rw [if_neg (by omega), if_neg (by omega), if_pos k104]] at hq
      refine c_X7_readFeud hu hC hO ⟨fun h2 z2 L2 C2 => ?_, fun h2 z2 L2 T2 => ?_⟩
      · have o2 := (lnF_ok hO (by omega) z2).1
        rw [enL_0 z2] at hq
        refine b_if_eq (tgt := 126) dX7_readLine_112 (by decide) (fun h112 => ?_) (fun h112 => ?_)
        · exact absurd h112 (by decide)
        · refine b_aload_n dX7_readLine_115 rfl rfl ?_
          refine b_callV (As := []) (st := []) dX7_readLine_116 lk_X7_76 lm_X7_readEnd lv_X7_readEnd rfl (by decide) rfl rfl rfl (Nat.le_of_ble_eq_true rfl) (Nat.le_refl _) (by decide) ?_
          refine c_X7_readEnd hu C2 o2.1 o2.2.1 ⟨fun h3 z3 L3 C3 => ?_, fun h3 z3 L3 T3 => ?_⟩
          · refine b_if_eq (tgt := 126) dX7_readLine_119 (by decide) (fun h119 => ?_) (fun h119 => ?_)
            · exact absurd h119 (by decide)
            · refine b_iconst (v := 1) dX7_readLine_122 (by decide +kernel) ?_
              refine b_goto (tgt := 127) dX7_readLine_123 (by decide) ?_
              refine b_zret (Or.inr rfl) rfl (by decide) dX7_readLine_127 ?_
              exact hq.1 _ z3 (L2.tr L3) C3
          · refine b_if_eq (tgt := 126) dX7_readLine_119 (by decide) (fun h119 => ?_) (fun h119 => ?_)
            · refine b_iconst (v := 0) dX7_readLine_126 (by decide +kernel) ?_
              refine b_zret (Or.inl rfl) rfl (by decide) dX7_readLine_127 ?_
              exact hq.2 _ z3 (L2.tr L3) T3
            · exact absurd rfl h119
      · rw [enL_n z2] at hq
        refine b_if_eq (tgt := 126) dX7_readLine_112 (by decide) (fun h112 => ?_) (fun h112 => ?_)
        · refine b_iconst (v := 0) dX7_readLine_126 (by decide +kernel) ?_
          refine b_zret (Or.inl rfl) rfl (by decide) dX7_readLine_127 ?_
          exact hq.2 _ z2 L2 T2
        · exact absurd rfl h112
    by_cases k105 : s.t.k = 105
    · refine b_topE (y := 105) (congrArg nI k105) ?_
      refine b_tableIn (off := 83) (tgt := 128) dX7_readLine_45 (by decide +kernel) (by decide +kernel) (by decide +kernel) (by decide) ?_
      refine b_aload_n dX7_readLine_128 rfl rfl ?_
      refine b_callV (As := []) (st := []) dX7_readLine_129 lk_X7_85 lm_X7_readOther lv_X7_readOther rfl (by decide) rfl rfl rfl (Nat.le_of_ble_eq_true rfl) (Nat.le_refl _) (by decide) ?_
      rw [show ln f n s = enL f n (lnO f n s) from by unfold ln; rw [if_neg (by omega), if_neg (by omega), if_neg (by omega), if_pos k105]] at hq
      refine c_X7_readOther hu hC hO ⟨fun h2 z2 L2 C2 => ?_, fun h2 z2 L2 T2 => ?_⟩
      · have o2 := (lnO_ok hO (by omega) z2).1
        rw [enL_0 z2] at hq
        refine b_if_eq (tgt := 146) dX7_readLine_132 (by decide) (fun h132 => ?_) (fun h132 => ?_)
        · exact absurd h132 (by decide)
        · refine b_aload_n dX7_readLine_135 rfl rfl ?_
          refine b_callV (As := []) (st := []) dX7_readLine_136 lk_X7_76 lm_X7_readEnd lv_X7_readEnd rfl (by decide) rfl rfl rfl (Nat.le_of_ble_eq_true rfl) (Nat.le_refl _) (by decide) ?_
          refine c_X7_readEnd hu C2 o2.1 o2.2.1 ⟨fun h3 z3 L3 C3 => ?_, fun h3 z3 L3 T3 => ?_⟩
          · refine b_if_eq (tgt := 146) dX7_readLine_139 (by decide) (fun h139 => ?_) (fun h139 => ?_)
            · exact absurd h139 (by decide)
            · refine b_iconst (v := 1) dX7_readLine_142 (by decide +kernel) ?_
              refine b_goto (tgt := 147) dX7_readLine_143 (by decide) ?_
              refine b_zret (Or.inr rfl) rfl (by decide) dX7_readLine_147 ?_
              exact hq.1 _ z3 (L2.tr L3) C3
          · refine b_if_eq (tgt := 146) dX7_readLine_139 (by decide) (fun h139 => ?_) (fun h139 => ?_)
            · refine b_iconst (v := 0) dX7_readLine_146 (by decide +kernel) ?_
              refine b_zret (Or.inl rfl) rfl (by decide) dX7_readLine_147 ?_
              exact hq.2 _ z3 (L2.tr L3) T3
            · exact absurd rfl h139
      · rw [enL_n z2] at hq
        refine b_if_eq (tgt := 146) dX7_readLine_132 (by decide) (fun h132 => ?_) (fun h132 => ?_)
        · refine b_iconst (v := 0) dX7_readLine_146 (by decide +kernel) ?_
          refine b_zret (Or.inl rfl) rfl (by decide) dX7_readLine_147 ?_
          exact hq.2 _ z2 L2 T2
        · exact absurd rfl h132
    by_cases k106 : s.t.k = 106
    · refine b_topE (y := 106) (congrArg nI k106) ?_
      refine b_tableIn (off := 103) (tgt := 148) dX7_readLine_45 (by decide +kernel) (by decide +kernel) (by decide +kernel) (by decide) ?_
      refine b_aload_n dX7_readLine_148 rfl rfl ?_
      refine b_callV (As := []) (st := []) dX7_readLine_149 lk_X7_88 lm_X7_readSings lv_X7_readSings rfl (by decide) rfl rfl rfl (Nat.le_of_ble_eq_true rfl) (Nat.le_refl _) (by decide) ?_
      rw [show ln f n s = enL f n (lnS f n s) from by unfold ln; rw [if_neg (by omega), if_neg (by omega), if_neg (by omega), if_neg (by omega), if_pos k106]] at hq
      refine c_X7_readSings hu hC hO (by omega) (fun h2 z2 y2 L2 C2 => ?_) (fun h2 z2 L2 T2 => ?_)
      · have o2 := (lnS_ok hn6 hO (by omega) z2 y2).1
        rw [enL_0 z2] at hq
        refine b_if_eq (tgt := 166) dX7_readLine_152 (by decide) (fun h152 => ?_) (fun h152 => ?_)
        · exact absurd h152 (by decide)
        · refine b_aload_n dX7_readLine_155 rfl rfl ?_
          refine b_callV (As := []) (st := []) dX7_readLine_156 lk_X7_76 lm_X7_readEnd lv_X7_readEnd rfl (by decide) rfl rfl rfl (Nat.le_of_ble_eq_true rfl) (Nat.le_refl _) (by decide) ?_
          refine c_X7_readEnd hu C2 o2.1 o2.2.1 ⟨fun h3 z3 L3 C3 => ?_, fun h3 z3 L3 T3 => ?_⟩
          · refine b_if_eq (tgt := 166) dX7_readLine_159 (by decide) (fun h159 => ?_) (fun h159 => ?_)
            · exact absurd h159 (by decide)
            · refine b_iconst (v := 1) dX7_readLine_162 (by decide +kernel) ?_
              refine b_goto (tgt := 167) dX7_readLine_163 (by decide) ?_
              refine b_zret (Or.inr rfl) rfl (by decide) dX7_readLine_167 ?_
              exact hq.1 _ z3 (L2.tr L3) C3
          · refine b_if_eq (tgt := 166) dX7_readLine_159 (by decide) (fun h159 => ?_) (fun h159 => ?_)
            · refine b_iconst (v := 0) dX7_readLine_166 (by decide +kernel) ?_
              refine b_zret (Or.inl rfl) rfl (by decide) dX7_readLine_167 ?_
              exact hq.2 _ z3 (L2.tr L3) T3
            · exact absurd rfl h159
      · refine b_if_eq (tgt := 166) dX7_readLine_152 (by decide) (fun h152 => ?_) (fun h152 => ?_)
        · refine b_iconst (v := 0) dX7_readLine_166 (by decide +kernel) ?_
          refine b_zret (Or.inl rfl) rfl (by decide) dX7_readLine_167 ?_
          exact hq.2 _ z2 L2 T2
        · exact absurd rfl h152
    by_cases k107 : s.t.k = 107
    · refine b_topE (y := 107) (congrArg nI k107) ?_
      refine b_tableIn (off := 123) (tgt := 168) dX7_readLine_45 (by decide +kernel) (by decide +kernel) (by decide +kernel) (by decide) ?_
      exact K168 (by omega)
    by_cases k108 : s.t.k = 108
    · refine b_topE (y := 108) (congrArg nI k108) ?_
      refine b_tableIn (off := 123) (tgt := 168) dX7_readLine_45 (by decide +kernel) (by decide +kernel) (by decide +kernel) (by decide) ?_
      exact K168 (by omega)
    by_cases k109 : s.t.k = 109
    · refine b_topE (y := 109) (congrArg nI k109) ?_
      refine b_tableIn (off := 123) (tgt := 168) dX7_readLine_45 (by decide +kernel) (by decide +kernel) (by decide +kernel) (by decide) ?_
      exact K168 (by omega)
    by_cases k110 : s.t.k = 110
    · refine b_topE (y := 110) (congrArg nI k110) ?_
      refine b_tableIn (off := 43) (tgt := 88) dX7_readLine_45 (by decide +kernel) (by decide +kernel) (by decide +kernel) (by decide) ?_
      refine b_aload_n dX7_readLine_88 rfl rfl ?_
      refine b_callV (As := []) (st := []) dX7_readLine_89 lk_X7_79 lm_X7_readKey lv_X7_readKey rfl (by decide) rfl rfl rfl (Nat.le_of_ble_eq_true rfl) (Nat.le_refl _) (by decide) ?_
      rw [show ln f n s = enL f n (lnK f n s) from by unfold ln; rw [if_neg (by omega), if_pos k110]] at hq
      refine c_X7_readKey hu hC hO ⟨fun h2 z2 L2 C2 => ?_, fun h2 z2 L2 T2 => ?_⟩
      · have o2 := (lnK_ok hO (by omega) z2).1
        rw [enL_0 z2] at hq
        refine b_if_eq (tgt := 106) dX7_readLine_92 (by decide) (fun h92 => ?_) (fun h92 => ?_)
        · exact absurd h92 (by decide)
        · refine b_aload_n dX7_readLine_95 rfl rfl ?_
          refine b_callV (As := []) (st := []) dX7_readLine_96 lk_X7_76 lm_X7_readEnd lv_X7_readEnd rfl (by decide) rfl rfl rfl (Nat.le_of_ble_eq_true rfl) (Nat.le_refl _) (by decide) ?_
          refine c_X7_readEnd hu C2 o2.1 o2.2.1 ⟨fun h3 z3 L3 C3 => ?_, fun h3 z3 L3 T3 => ?_⟩
          · refine b_if_eq (tgt := 106) dX7_readLine_99 (by decide) (fun h99 => ?_) (fun h99 => ?_)
            · exact absurd h99 (by decide)
            · refine b_iconst (v := 1) dX7_readLine_102 (by decide +kernel) ?_
              refine b_goto (tgt := 107) dX7_readLine_103 (by decide) ?_
              refine b_zret (Or.inr rfl) rfl (by decide) dX7_readLine_107 ?_
              exact hq.1 _ z3 (L2.tr L3) C3
          · refine b_if_eq (tgt := 106) dX7_readLine_99 (by decide) (fun h99 => ?_) (fun h99 => ?_)
            · refine b_iconst (v := 0) dX7_readLine_106 (by decide +kernel) ?_
              refine b_zret (Or.inl rfl) rfl (by decide) dX7_readLine_107 ?_
              exact hq.2 _ z3 (L2.tr L3) T3
            · exact absurd rfl h99
      · rw [enL_n z2] at hq
        refine b_if_eq (tgt := 106) dX7_readLine_92 (by decide) (fun h92 => ?_) (fun h92 => ?_)
        · refine b_iconst (v := 0) dX7_readLine_106 (by decide +kernel) ?_
          refine b_zret (Or.inl rfl) rfl (by decide) dX7_readLine_107 ?_
          exact hq.2 _ z2 L2 T2
        · exact absurd rfl h92
    refine b_tableOut (tgt := 168) dX7_readLine_45 ?_ (by decide) ?_
    · rw [nI_toInt (by omega)]; omega
    exact K168 (by omega)
  refine b_aload_n dX7_readLine_0 rfl rfl ?_
  refine b_getR (b := 3) lf_X7_21 rfl rfl dX7_readLine_1 ?_
  refine b_getI lf_X7_59 rfl dX7_readLine_4 ?_
  refine b_topE (hC.2.1.2.1) ?_
  refine b_istore_n (lv' := [(0, _), (1, _)]) dX7_readLine_7 rfl (by decide) rfl rfl ?_
  refine b_iload_n dX7_readLine_8 rfl rfl ?_
  refine b_bipush (v := 100) dX7_readLine_9 (by decide +kernel) ?_
  refine b_icmp_lt (tgt := 44) dX7_readLine_11 (by decide) (fun h11 => ?_) (fun h11 => ?_)
  · have e11 : s.t.k < 100 := nn_lt (a := s.t.k) (b := 100) (by omega) (by omega) h11
    exact K44 (by omega)
  · have e11 : 100 ≤ s.t.k := nn_nlt (a := s.t.k) (b := 100) (by omega) (by omega) h11
    refine b_iload_n dX7_readLine_14 rfl rfl ?_
    refine b_bipush (v := 103) dX7_readLine_15 (by decide +kernel) ?_
    refine b_icmp_gt (tgt := 44) dX7_readLine_17 (by decide) (fun h17 => ?_) (fun h17 => ?_)
    · have e17 : 103 < s.t.k := nn_lt (a := 103) (b := s.t.k) (by omega) (by omega) h17
      exact K44 (by omega)
    · have e17 : s.t.k ≤ 103 := nn_nlt (a := 103) (b := s.t.k) (by omega) (by omega) h17
      refine b_aload_n dX7_readLine_20 rfl rfl ?_
      refine b_iload_n dX7_readLine_21 rfl rfl ?_
      refine b_bipush (v := 100) dX7_readLine_22 (by decide +kernel) ?_
      refine b_isub dX7_readLine_24 ?_
      refine b_topE (nI_sub s.t.k 100 (by omega)) ?_
      refine b_callV (As := [_]) (st := []) dX7_readLine_25 lk_X7_72 lm_X7_readPerson lv_X7_readPerson rfl (by decide) rfl rfl rfl (Nat.le_of_ble_eq_true rfl) (Nat.le_refl _) (by decide) ?_
      rw [show ln f n s = enL f n (lnP f n (s.t.k - 100) s) from by unfold ln; rw [if_pos (by omega)]] at hq
      refine c_X7_readPerson hu hC hO ⟨fun h2 z2 L2 C2 => ?_, fun h2 z2 L2 T2 => ?_⟩
      · have o2 := (lnP_ok hO (by omega) (by omega) z2).1
        rw [enL_0 z2] at hq
        refine b_if_eq (tgt := 42) dX7_readLine_28 (by decide) (fun h28 => ?_) (fun h28 => ?_)
        · exact absurd h28 (by decide)
        · refine b_aload_n dX7_readLine_31 rfl rfl ?_
          refine b_callV (As := []) (st := []) dX7_readLine_32 lk_X7_76 lm_X7_readEnd lv_X7_readEnd rfl (by decide) rfl rfl rfl (Nat.le_of_ble_eq_true rfl) (Nat.le_refl _) (by decide) ?_
          refine c_X7_readEnd hu C2 o2.1 o2.2.1 ⟨fun h3 z3 L3 C3 => ?_, fun h3 z3 L3 T3 => ?_⟩
          · refine b_if_eq (tgt := 42) dX7_readLine_35 (by decide) (fun h35 => ?_) (fun h35 => ?_)
            · exact absurd h35 (by decide)
            · refine b_iconst (v := 1) dX7_readLine_38 (by decide +kernel) ?_
              refine b_goto (tgt := 43) dX7_readLine_39 (by decide) ?_
              refine b_zret (Or.inr rfl) rfl (by decide) dX7_readLine_43 ?_
              exact hq.1 _ z3 (L2.tr L3) C3
          · refine b_if_eq (tgt := 42) dX7_readLine_35 (by decide) (fun h35 => ?_) (fun h35 => ?_)
            · refine b_iconst (v := 0) dX7_readLine_42 (by decide +kernel) ?_
              refine b_zret (Or.inl rfl) rfl (by decide) dX7_readLine_43 ?_
              exact hq.2 _ z3 (L2.tr L3) T3
            · exact absurd rfl h35
      · rw [enL_n z2] at hq
        refine b_if_eq (tgt := 42) dX7_readLine_28 (by decide) (fun h28 => ?_) (fun h28 => ?_)
        · refine b_iconst (v := 0) dX7_readLine_42 (by decide +kernel) ?_
          refine b_zret (Or.inl rfl) rfl (by decide) dX7_readLine_43 ?_
          exact hq.2 _ z2 L2 T2
        · exact absurd rfl h28
/-- who has which birthday, m of them laid -/
def ordR (r : Nat → Nat) (f : Nat → Int32) : Nat → Nat → Int32
  | 0 => f
  | m + 1 => fun i => if i = r m then nI m else ordR r f m i
/-- how many have their birthday ahead of p's -/
def rkN (H : Nat → Nat) (np p : Nat) : Nat := cntN (fun i => decide (H i < H p)) np
theorem cntN_lt {P : Nat → Bool} : ∀ {n p : Nat}, p < n → P p = false → cntN P n < n
  | 0, p, h, _ => absurd h (Nat.not_lt_zero _)
  | n + 1, p, h, hp => by
    have := cntN_le P n
    unfold cntN
    by_cases q : p = n
    · subst q
      rw [if_neg (by rw [hp]; exact Bool.false_ne_true)]; omega
    · have := cntN_lt (P := P) (n := n) (p := p) (by omega) hp
      split <;> omega
theorem c_X10_sortByBirthdays {E : En} {d : Nat} {Q : QT} {X : XT} {g : G2} {u np : Nat} (hu : is_town u) (h0 : g u 0 = nI np) (h8 : np ≤ 8) (hq : ∀ h, (∀ y, y ≠ u + 5 → h y = g y) → (∀ k, h (u + 5) k = ordR (fun p => cntN (fun j => decide (g (u + 3) j < g (u + 3) p)) np) (g (u + 5)) np k) → Q none h) : M E md_X10_sortByBirthdays (d + 1) [.ref u] g Q X := by
  refine M.of _ rfl rfl (Nat.le_of_ble_eq_true rfl) ?_
  have L : ∀ i, i ≤ np → ∀ h : G2, (∀ y, y ≠ u + 5 → h y = g y) → (∀ k, h (u + 5) k = ordR (fun p => cntN (fun j => decide (g (u + 3) j < g (u + 3) p)) np) (g (u + 5)) i k) → B E md_X10_sortByBirthdays (d + 1) Q X 2 [(0, .ref u), (1, .int (nI i))] [] h 0 := by
    refine lp_up (fun i hi ih h hy hk => ?_)
    refine b_iload_n dX10_sortByBirthdays_2 rfl rfl ?_
    refine b_aload_n dX10_sortByBirthdays_3 rfl rfl ?_
    refine b_getI lf_X10_9 (town_c hu) dX10_sortByBirthdays_4 ?_
    refine b_topE (((congrFun (hy u (by omega)) 0).trans h0)) ?_
    refine b_icmp_ge (tgt := 27) dX10_sortByBirthdays_7 (by decide) (fun h7 => ?_) (fun h7 => ?_)
    · have e7 : np ≤ i := nn_le (a := np) (b := i) (by omega) (by omega) h7
      refine b_vret rfl (by decide) dX10_sortByBirthdays_27 ?_
      have z : i = np := by omega
      subst z
      exact hq _ hy hk
    · have e7 : i < np := nn_nle (a := np) (b := i) (by omega) (by omega) h7
      refine b_aload_n dX10_sortByBirthdays_10 rfl rfl ?_
      refine b_getR (b := (u + 5)) lf_X10_28 (town_c hu) (town_r5 hu) dX10_sortByBirthdays_11 ?_
      refine b_aload_n dX10_sortByBirthdays_14 rfl rfl ?_
      refine b_iload_n dX10_sortByBirthdays_15 rfl rfl ?_
      refine b_callV (As := [_]) (st := [_]) dX10_sortByBirthdays_16 lk_X10_58 lm_X10_rank lv_X10_rank (town_c hu) (by decide) rfl rfl rfl (Nat.le_of_ble_eq_true rfl) (Nat.le_refl _) (by decide) ?_
      refine c_X10_rank hu ((congrFun (hy u (by omega)) 0).trans h0) h8 (by omega) ?_
      rw [hy (u + 3) (by omega)]
      have hr : (cntN (fun j => decide (g (u + 3) j < g (u + 3) i)) np) < np := cntN_lt (p := i) e7 (decide_eq_false Int32.lt_irrefl)
      refine b_iload_n dX10_sortByBirthdays_19 rfl rfl ?_
      refine b_istN (j := (cntN (fun j => decide (g (u + 3) j < g (u + 3) i)) np)) dX10_sortByBirthdays_20 (rfl) (by rw [(town_n5 hu)]; omega) ?_
      refine b_incN (j := i) (lv' := [(0, _), (1, _)]) dX10_sortByBirthdays_21 rfl rfl (by decide) rfl rfl ?_
      refine b_goto (tgt := 2) dX10_sortByBirthdays_24 (by decide) ?_
      refine ih (i + 1) (by omega) (by omega) _ (fun y q => (up2_f _ _ _ _ q).trans (hy y q)) (fun k => ?_)
      rw [up2_if]
      show _ = (if k = (cntN (fun j => decide (g (u + 3) j < g (u + 3) i)) np) then nI i else ordR (fun p => cntN (fun j => decide (g (u + 3) j < g (u + 3) p)) np) (g (u + 5)) i k)
      split
      · rfl
      · exact hk k
  refine b_iconst (v := 0) dX10_sortByBirthdays_0 (by decide +kernel) ?_
  refine b_istore_n (lv' := [(0, _), (1, _)]) dX10_sortByBirthdays_1 rfl (by decide) rfl rfl ?_
  exact L 0 (Nat.zero_le _) g (fun _ _ => rfl) (fun _ => rfl)
/-- what reading a text may change -/
def FRd (u : Nat) (g h : G2) : Prop := (∀ y, y ≠ 1 → y ≠ 2 → y ≠ 3 → ¬ (u ≤ y ∧ y ≤ u + 12) → h y = g y) ∧ h 1 0 = g 1 0 ∧ h 3 1 = g 3 1
theorem FRd.ln {u : Nat} {g h : G2} (F : FLn u g h) : FRd u g h := ⟨F.1, F.2.1, F.2.2 1 (by decide)⟩
theorem FRd.tr {u : Nat} {g h k : G2} (h1 : FRd u g h) (h2 : FRd u h k) : FRd u g k := ⟨fun y a b c e => (h2.1 y a b c e).trans (h1.1 y a b c e), h2.2.1.trans h1.2.1, h2.2.2.trans h1.2.2⟩
theorem ordR_cg {r r2 : Nat → Nat} {f : Nat → Int32} : ∀ {m k : Nat}, (∀ p, p < m → r p = r2 p) → ordR r f m k = ordR r2 f m k
  | 0, k, _ => rfl
  | m + 1, k, h => by
    simp only [ordR]
    rw [h m (by omega), ordR_cg (fun p hp => h p (by omega))]
theorem nI_ltd {a b : Nat} (ha : a < 2 ^ 31) (hb : b < 2 ^ 31) : decide (nI a < nI b) = decide (a < b) := by
  by_cases h : a < b
  · rw [decide_eq_true h]
    exact decide_eq_true (Decidable.byContradiction (fun q => absurd (nn_nlt ha hb q) (by omega)))
  · rw [decide_eq_false h]
    exact decide_eq_false (fun q => h (nn_lt ha hb q))
theorem rk_eq {g : G2} {f : Nat → Nat} {n u : Nat} {s : TxS} (hC : RCl g f n u s) (hO : okLs f n s) {p : Nat} (hp : p < s.np) : cntN (fun j => decide (g (u + 3) j < g (u + 3) p)) s.np = rkN (s.H 1) s.np p := by
  refine cntN_cg (fun i hi => ?_)
  have a := hO.2.2.2.2.1 i hi
  have b := hO.2.2.2.2.1 p hp
  rw [(hC.2.2.2.1.2 i hi).2.2.1, (hC.2.2.2.1.2 p hp).2.2.1]
  exact nI_ltd (by omega) (by omega)
theorem tkX_le (s : PS) : (tkX s).1 ≤ 3 := by
  unfold tkX tkP tkO
  (repeat' split) <;> first | exact Nat.zero_le _ | exact Nat.succ_le_succ (Nat.zero_le _) | exact Nat.succ_le_succ (Nat.succ_le_succ (Nat.zero_le _)) | exact Nat.le_refl _
theorem runC_le {f : Nat → Nat} {n : Nat} : ∀ (F : Nat) (s : PS), (runC f n F s).1 ≤ 3
  | 0, s => Nat.zero_le _
  | F + 1, s => by
    simp only [runC]
    split
    · exact Nat.zero_le _
    · split
      · exact runC_le F _
      · exact tkX_le s
theorem nuC_le (lo hi : Nat) (t : Tk) : nuC lo hi t ≤ 2 := by unfold nuC; (repeat' split) <;> decide
theorem pnC_le (np : Nat) (t : Tk) : pnC np t ≤ 3 := by
  have := nuC_le 0 9999 t
  unfold pnC; (repeat' split) <;> omega
theorem otL_le {f : Nat → Nat} {n : Nat} : ∀ (F : Nat) (s : TxS), (otL f n F s).b ≤ 5
  | 0, s => by show 0 ≤ 5; decide
  | F + 1, s => by
    have := nuC_le 0 12 s.t
    simp only [otL]
    split
    · split
      · show nuC 0 12 s.t ≤ 5; omega
      · split
        · show 2 ≤ 5; decide
        · exact otL_le F _
    · show 0 ≤ 5; decide
theorem enL_le {f : Nat → Nat} {n : Nat} {r : LR} (h : r.b ≤ 5) : (enL f n r).b ≤ 5 := by
  unfold enL
  split
  · exact h
  · split
    · show 0 ≤ 5; decide
    · show 1 ≤ 5; decide
theorem ln_le {f : Nat → Nat} {n : Nat} {s : TxS} (hn : n ≤ 600) (hO : okLs f n s) : (ln f n s).b ≤ 5 := by
  unfold ln
  by_cases c1 : 100 ≤ s.t.k ∧ s.t.k ≤ 103
  · rw [if_pos c1]; refine enL_le ?_
    have a1 := nuC_le 0 3 (nxt f n s.t.af)
    have a2 := nuC_le 1 365 (nxt f n (nxt f n s.t.af).af)
    have a3 := nuC_le 0 11 (nxt f n (nxt f n (nxt f n s.t.af).af).af)
    unfold lnP
    simp only
    (repeat' split) <;> first | (show 2 ≤ 5; decide) | (show 4 ≤ 5; decide) | (show 0 ≤ 5; decide) | exact Nat.le_trans a1 (by decide) | exact Nat.le_trans a2 (by decide) | exact Nat.le_trans a3 (by decide)
  · rw [if_neg c1]
    by_cases c2 : s.t.k = 110
    · rw [if_pos c2]; refine enL_le ?_
      have a1 := nuC_le 0 11 (nxt f n s.t.af)
      unfold lnK
      simp only
      (repeat' split) <;> first | (show 5 ≤ 5; decide) | (show 0 ≤ 5; decide) | exact Nat.le_trans a1 (by decide)
    · rw [if_neg c2]
      by_cases c3 : s.t.k = 104
      · rw [if_pos c3]; refine enL_le ?_
        have a1 := pnC_le s.np (nxt f n s.t.af)
        have a2 := pnC_le s.np (nxt f n (nxt f n s.t.af).af)
        unfold lnF
        simp only
        (repeat' split) <;> first | (show 2 ≤ 5; decide) | (show 4 ≤ 5; decide) | (show 0 ≤ 5; decide) | exact Nat.le_trans a1 (by decide) | exact Nat.le_trans a2 (by decide)
      · rw [if_neg c3]
        by_cases c4 : s.t.k = 105
        · rw [if_pos c4]; refine enL_le ?_
          unfold lnO
          split
          · show 5 ≤ 5; decide
          · exact otL_le _ _
        · rw [if_neg c4]
          by_cases c5 : s.t.k = 106
          · rw [if_pos c5]; refine enL_le ?_
            unfold lnS
            simp only
            split
            · show 5 ≤ 5; decide
            · split
              · rename_i q
                obtain ⟨r1, -⟩ := rule_eq (f := f) hn hO.1.nx.ok (by have := hO.1.lt (by omega); omega)
                obtain ⟨x, e1, -⟩ := r1 q
                have := runC_le (f := f) (n := n) 600 ⟨true, nxt f n s.t.af, 0, [], []⟩
                rw [e1] at this
                exact Nat.le_trans this (by decide)
              · show 0 ≤ 5; decide
          · rw [if_neg c5]; show 1 ≤ 5; decide
theorem lns_le {f : Nat → Nat} {n : Nat} (hn : n ≤ 600) : ∀ (F : Nat) {s : TxS}, okLs f n s → (lns f n F s).b ≤ 5
  | 0, s, h => by show 0 ≤ 5; decide
  | F + 1, s, h => by
    simp only [lns]
    split
    · show 0 ≤ 5; decide
    · split
      · rename_i q; exact lns_le hn F (ln_ok hn h q).1
      · exact ln_le hn h
theorem c_X7_read {E : En} {d : Nat} {Q : QT} {X : XT} {g : G2} {f : Nat → Nat} {n u : Nat} (hu : is_town u) (h11 : g 1 0 = nI u) (hn6 : n ≤ 600) (hf : ∀ i, i < n → f i < 256 ∧ g 4 i = bSg (f i)) (hq1 : ∀ h, (twL f n).b = 0 → FRd u g h → RCl h f n u (twL f n).s → (∃ f0, ∀ k, h (u + 5) k = ordR (rkN ((twL f n).s.H 1) (twL f n).s.np) f0 (twL f n).s.np k) → Q (some (.int 0)) h) (hq2 : ∀ h, (twL f n).b ≠ 0 → FRd u g h → h 1 3 = nI (twL f n).p → Q (some (.int (nI (twL f n).b))) h) : M E md_X7_read (d + 9) [.ref 1, .int (nI n)] g Q X := by
  refine M.of _ rfl rfl (Nat.le_of_ble_eq_true rfl) ?_
  have h1 := h11
  have hu5 : u = 5 ∨ u = 18 := hu
  refine b_aload_n dX7_read_0 rfl rfl ?_
  refine b_getD lf_X7_12 rfl h1 (town_31 hu) dX7_read_1 ?_
  refine b_callV (As := []) (st := []) dX7_read_4 lk_X7_52 lm_X10_clear lv_X10_clear (town_c hu) (by decide) rfl rfl rfl (Nat.le_of_ble_eq_true rfl) (Nat.le_refl _) (by decide) ?_
  refine c_X10_clear hu (fun g2 F a0 a6 a9 ak b2 bk c1 ck => ?_)
  refine b_aload_n dX7_read_7 rfl rfl ?_
  refine b_iconst (v := 0) dX7_read_8 (by decide +kernel) ?_
  refine b_putI lf_X7_25 lp_7_2 rfl dX7_read_9 ?_
  refine b_aload_n dX7_read_12 rfl rfl ?_
  refine b_iconst (v := (-1)) dX7_read_13 (by decide +kernel) ?_
  refine b_putI lf_X7_29 lp_7_3 rfl dX7_read_14 ?_
  refine b_aload_n dX7_read_17 rfl rfl ?_
  refine b_iconst (v := 0) dX7_read_18 (by decide +kernel) ?_
  refine b_putZ (Or.inl rfl) lf_X7_32 lp_7_4 rfl dX7_read_19 ?_
  refine b_aload_n dX7_read_22 rfl rfl ?_
  refine b_iconst (v := 0) dX7_read_23 (by decide +kernel) ?_
  refine b_putZ (Or.inl rfl) lf_X7_36 lp_7_5 rfl dX7_read_24 ?_
  refine b_aload_n dX7_read_27 rfl rfl ?_
  refine b_iconst (v := 0) dX7_read_28 (by decide +kernel) ?_
  refine b_putZ (Or.inl rfl) lf_X7_39 lp_7_6 rfl dX7_read_29 ?_
  have y1 : ∀ y, y ≠ 1 → up2 (up2 (up2 (up2 (up2 g2 1 2 0) 1 3 (-1)) 1 4 0) 1 5 0) 1 6 0 y = g2 y := fun y q => by rw [up2_f _ _ _ _ q, up2_f _ _ _ _ q, up2_f _ _ _ _ q, up2_f _ _ _ _ q, up2_f _ _ _ _ q]
  have y0 : up2 (up2 (up2 (up2 (up2 g2 1 2 0) 1 3 (-1)) 1 4 0) 1 5 0) 1 6 0 1 0 = g2 1 0 := by rw [up2_k _ _ _ _ (by decide), up2_k _ _ _ _ (by decide), up2_k _ _ _ _ (by decide), up2_k _ _ _ _ (by decide), up2_k _ _ _ _ (by decide)]
  have y2 : up2 (up2 (up2 (up2 (up2 g2 1 2 0) 1 3 (-1)) 1 4 0) 1 5 0) 1 6 0 1 2 = 0 := by rw [up2_k _ _ _ _ (by decide), up2_k _ _ _ _ (by decide), up2_k _ _ _ _ (by decide), up2_k _ _ _ _ (by decide)]; exact up2_s _ _ _ _
  have y3 : up2 (up2 (up2 (up2 (up2 g2 1 2 0) 1 3 (-1)) 1 4 0) 1 5 0) 1 6 0 1 3 = -1 := by rw [up2_k _ _ _ _ (by decide), up2_k _ _ _ _ (by decide), up2_k _ _ _ _ (by decide)]; exact up2_s _ _ _ _
  have y4 : up2 (up2 (up2 (up2 (up2 g2 1 2 0) 1 3 (-1)) 1 4 0) 1 5 0) 1 6 0 1 4 = 0 := by rw [up2_k _ _ _ _ (by decide), up2_k _ _ _ _ (by decide)]; exact up2_s _ _ _ _
  have y5 : up2 (up2 (up2 (up2 (up2 g2 1 2 0) 1 3 (-1)) 1 4 0) 1 5 0) 1 6 0 1 5 = 0 := by rw [up2_k _ _ _ _ (by decide)]; exact up2_s _ _ _ _
  have y6 : up2 (up2 (up2 (up2 (up2 g2 1 2 0) 1 3 (-1)) 1 4 0) 1 5 0) 1 6 0 1 6 = 0 := up2_s _ _ _ _
  generalize up2 (up2 (up2 (up2 (up2 g2 1 2 0) 1 3 (-1)) 1 4 0) 1 5 0) 1 6 0 = g3 at y1 y0 y2 y3 y4 y5 y6 ⊢
  have eg : ∀ y, y ≠ u → y ≠ u + 6 → y ≠ u + 10 → g2 y = g y := fun y p q r => F y (by simp; omega)
  refine b_aload_n dX7_read_32 rfl rfl ?_
  refine b_getR (b := 3) lf_X7_21 rfl rfl dX7_read_33 ?_
  refine b_iload_n dX7_read_36 rfl rfl ?_
  refine b_callV (As := [_]) (st := []) dX7_read_37 lk_X7_55 lm_X9_begin lv_X9_begin rfl (by decide) rfl rfl rfl (Nat.le_of_ble_eq_true rfl) (Nat.le_refl _) (by decide) ?_
  refine c_X9_begin (f := f) (n := n) hn6 (fun i hi => by rw [y1 4 (by decide), eg 4 (by omega) (by omega) (by omega)]; exact hf i hi) (fun h1 B1 B2 B3 B4 => ?_)
  have h10 : h1 1 0 = nI u := by rw [B1 1 (by decide), y0, eg 1 (by omega) (by omega) (by omega)]; exact h11
  have F1 : FRd u g h1 := ⟨fun y p q r w => by rw [B1 y r, y1 y p, eg y (by omega) (by omega) (by omega)], by rw [B1 1 (by decide), y0, eg 1 (by omega) (by omega) (by omega)], by rw [B2, y1 3 (by decide), eg 3 (by omega) (by omega) (by omega)]⟩
  have C1 : RCl h1 f n u (s0L f n) := by
    have eu : ∀ y, y ≠ 1 → y ≠ 3 → h1 y = g2 y := fun y p q => by rw [B1 y q, y1 y p]
    refine ⟨B3, B4, ⟨h10, by rw [B1 1 (by decide)]; exact y2, by rw [B1 1 (by decide)]; exact y3, by rw [B1 1 (by decide)]; exact y4, by rw [B1 1 (by decide)]; exact y5, by rw [B1 1 (by decide)]; exact y6⟩, ⟨by rw [eu u (by omega) (by omega)]; exact a0, fun p hp => absurd hp (Nat.not_lt_zero _)⟩, by rw [eu u (by omega) (by omega)]; exact a6, ⟨by rw [eu _ (by omega) (by omega)]; exact b2, fun p hp => absurd hp (Nat.not_lt_zero _)⟩, ⟨by rw [eu u (by omega) (by omega)]; exact a9, fun p hp => absurd hp (Nat.not_lt_zero _)⟩, ⟨by rw [eu _ (by omega) (by omega)]; exact c1, trivial⟩⟩
  refine b_iconst (v := 0) dX7_read_40 (by decide +kernel) ?_
  refine b_istore_n (lv' := [(0, _), (1, _), (2, _)]) dX7_read_41 rfl (by decide) rfl rfl ?_
  have K77 : ∀ (s : TxS) (h : G2) (i : Nat), RCl h f n u s → okLs f n s → FLn u h1 h → (0, 0, s) = twL f n → B E md_X7_read (d + 9) Q X 77 [(0, .ref 1), (1, .int (nI n)), (2, .int (nI i))] [] h 0 := by
    intro s h i hC hO L e
    refine b_aload_n dX7_read_77 rfl rfl ?_
    refine b_getD lf_X7_12 rfl hC.2.2.1.1 (town_31 hu) dX7_read_78 ?_
    refine b_callV (As := []) (st := []) dX7_read_81 lk_X7_66 lm_X10_sortByBirthdays lv_X10_sortByBirthdays (town_c hu) (by decide) rfl rfl rfl (Nat.le_of_ble_eq_true rfl) (Nat.le_refl _) (by decide) ?_
    refine c_X10_sortByBirthdays hu hC.2.2.2.1.1 hO.2.1 (fun h2 G2 o2 => ?_)
    refine b_aload_n dX7_read_84 rfl rfl ?_
    refine b_getI lf_X7_25 rfl dX7_read_85 ?_
    refine b_topE (((congrFun (G2 1 (by omega)) 2).trans hC.2.2.1.2.1)) ?_
    refine b_iret rfl (by decide) dX7_read_88 ?_
    rw [← e] at hq1
    exact hq1 h2 rfl (F1.tr ((FRd.ln L).tr ⟨fun y _ _ _ q => G2 y (by omega), by rw [G2 1 (by omega)], by rw [G2 3 (by omega)]⟩)) (hC.cg hu (G2 1 (by omega)) (fun j _ => by rw [G2 3 (by omega)]) (G2 4 (by omega)) (fun y _ _ c => G2 y c) (hC.2.1.c3 (G2 3 (by omega)))) ⟨_, fun k => (o2 k).trans (ordR_cg (fun p hp => rk_eq hC hO hp))⟩
  have K77b : ∀ (h : G2) (i : Nat), (twL f n).b ≠ 0 → FLn u h1 h → FLt h u (twL f n).b (twL f n).p → B E md_X7_read (d + 9) Q X 77 [(0, .ref 1), (1, .int (nI n)), (2, .int (nI i))] [] h 0 := by
    intro h i zb L T
    refine b_aload_n dX7_read_77 rfl rfl ?_
    refine b_getD lf_X7_12 rfl (L.2.1.trans h10) (town_31 hu) dX7_read_78 ?_
    refine b_callV (As := []) (st := []) dX7_read_81 lk_X7_66 lm_X10_sortByBirthdays lv_X10_sortByBirthdays (town_c hu) (by decide) rfl rfl rfl (Nat.le_of_ble_eq_true rfl) (Nat.le_refl _) (by decide) ?_
    obtain ⟨t2, t3, m, m8, tm⟩ := T
    refine c_X10_sortByBirthdays hu tm m8 (fun h2 G2 o2 => ?_)
    refine b_aload_n dX7_read_84 rfl rfl ?_
    refine b_getI lf_X7_25 rfl dX7_read_85 ?_
    refine b_topE (y := nI ((twL f n).b)) (((congrFun (G2 1 (by omega)) 2).trans t2)) ?_
    refine b_iret rfl (by decide) dX7_read_88 ?_
    exact hq2 h2 zb (F1.tr ((FRd.ln L).tr ⟨fun y _ _ _ q => G2 y (by omega), by rw [G2 1 (by omega)], by rw [G2 3 (by omega)]⟩)) (by rw [G2 1 (by omega)]; exact t3)
  have K42b : ∀ (h : G2) (i : Nat), i ≤ 600 → (twL f n).b ≠ 0 → (twL f n).b ≤ 5 → FLn u h1 h → FLt h u (twL f n).b (twL f n).p → B E md_X7_read (d + 9) Q X 42 [(0, .ref 1), (1, .int (nI n)), (2, .int (nI i))] [] h 0 := by
    intro h i hi zb b5 L T
    refine b_iload_n dX7_read_42 rfl rfl ?_
    refine b_sipush (v := 600) dX7_read_43 (by decide +kernel) ?_
    refine b_icmp_ge (tgt := 77) dX7_read_46 (by decide) (fun h46 => ?_) (fun h46 => ?_)
    · have e46 : 600 ≤ i := nn_le (a := 600) (b := i) (by omega) (by omega) h46
      exact K77b h i zb L T
    · have e46 : i < 600 := nn_nle (a := 600) (b := i) (by omega) (by omega) h46
      refine b_aload_n dX7_read_49 rfl rfl ?_
      refine b_getI lf_X7_25 rfl dX7_read_50 ?_
      refine b_topE (y := nI ((twL f n).b)) (T.1) ?_
      refine b_if_ne (tgt := 77) dX7_read_53 (by decide) (fun h53 => ?_) (fun h53 => ?_)
      · have e53 : ((twL f n).b) ≠ 0 := fun q => h53 (by rw [q]; rfl)
        exact K77b h i zb L T
      · have e53 : ((twL f n).b) = 0 := nI_inj (b := 0) (by omega) (by decide) h53
        exact absurd e53 zb
  have key : ∀ i, i ≤ 600 → ∀ (F : Nat) (s : TxS) (h : G2), i + F = 600 → RCl h f n u s → okLs f n s → FLn u h1 h → lns f n F s = twL f n → 600 ≤ F + s.t.pl → B E md_X7_read (d + 9) Q X 42 [(0, .ref 1), (1, .int (nI n)), (2, .int (nI i))] [] h 0 := by
    refine lp_up (fun i hi ih F s h hF hC hO L e hP => ?_)
    have hk := hO.1.vd.1
    refine b_iload_n dX7_read_42 rfl rfl ?_
    refine b_sipush (v := 600) dX7_read_43 (by decide +kernel) ?_
    refine b_icmp_ge (tgt := 77) dX7_read_46 (by decide) (fun h46 => ?_) (fun h46 => ?_)
    · have e46 : 600 ≤ i := nn_le (a := 600) (b := i) (by omega) (by omega) h46
      exact K77 s h i hC hO L (by rw [← e, show F = 0 from by omega]; rfl)
    · have e46 : i < 600 := nn_nle (a := 600) (b := i) (by omega) (by omega) h46
      refine b_aload_n dX7_read_49 rfl rfl ?_
      refine b_getI lf_X7_25 rfl dX7_read_50 ?_
      refine b_topE (hC.2.2.1.2.1) ?_
      refine b_if_ne (tgt := 77) dX7_read_53 (by decide) (fun h53 => ?_) (fun h53 => ?_)
      · exact absurd rfl h53
      · refine b_aload_n dX7_read_56 rfl rfl ?_
        refine b_getR (b := 3) lf_X7_21 rfl rfl dX7_read_57 ?_
        refine b_getI lf_X7_59 rfl dX7_read_60 ?_
        refine b_topE (hC.2.1.2.1) ?_
        refine b_if_eq (tgt := 77) dX7_read_63 (by decide) (fun h63 => ?_) (fun h63 => ?_)
        · have e63 : s.t.k = 0 := nI_inj (b := 0) (by omega) (by decide) h63
          exact K77 s h i hC hO L (by rw [← e, show F = F - 1 + 1 from by omega]; simp only [lns]; rw [if_pos e63])
        · have e63 : s.t.k ≠ 0 := fun q => h63 (by rw [q]; rfl)
          refine b_aload_n dX7_read_66 rfl rfl ?_
          refine b_callV (As := []) (st := []) dX7_read_67 lk_X7_62 lm_X7_readLine lv_X7_readLine rfl (by decide) rfl rfl rfl (Nat.le_of_ble_eq_true rfl) (Nat.le_refl _) (by decide) ?_
          obtain ⟨m, hm⟩ : ∃ m, F = m + 1 := ⟨F - 1, by omega⟩
          rw [hm] at e hP
          simp only [lns] at e
          rw [if_neg e63] at e
          refine c_X7_readLine hu hC hO ⟨fun h2 z2 L2 C2 => ?_, fun h2 z2 L2 T2 => ?_⟩
          · rw [if_pos z2] at e
            obtain ⟨o2, p2⟩ := ln_ok hn6 hO z2
            refine b_pop dX7_read_70 rfl ?_
            refine b_incN (j := i) (lv' := [(0, _), (1, _), (2, _)]) dX7_read_71 rfl rfl (by decide) rfl rfl ?_
            refine b_goto (tgt := 42) dX7_read_74 (by decide) ?_
            exact ih (i + 1) (by omega) (by omega) m (ln f n s).s h2 (by omega) C2 o2 (L.tr L2) e (by omega)
          · rw [if_neg z2] at e
            have b5 := ln_le hn6 hO
            refine b_pop dX7_read_70 rfl ?_
            refine b_incN (j := i) (lv' := [(0, _), (1, _), (2, _)]) dX7_read_71 rfl rfl (by decide) rfl rfl ?_
            refine b_goto (tgt := 42) dX7_read_74 (by decide) ?_
            rw [e] at T2 z2 b5
            exact K42b h2 (i + 1) (by omega) z2 b5 (L.tr L2) T2
  exact key 0 (by decide) 600 (s0L f n) h1 rfl C1 (s0L_ok f n) (FLn.rf u h1) rfl (by omega)
