def mnI (a b : Int32) : Int32 := if b < a then b else a
def apR (prev : Nat → Int32) (x : Int32) (o : Nat → Int32) : Nat → Int32
  | 0 => prev 0 + 1
  | k + 1 => mnI (if x = o k then prev k else prev k + 1) (mnI (prev (k + 1)) (apR prev x o k) + 1)
/-- how far apart: the row behind i signs from place s on -/
def apM (f o : Nat → Int32) (s : Nat) : Nat → Nat → Int32
  | 0 => fun k => nI k
  | i + 1 => apR (apM f o s i) (f (s + i)) o
theorem apM_0 (f o : Nat → Int32) (s : Nat) : ∀ i, apM f o s i 0 = nI i
  | 0 => rfl
  | i + 1 => by
    show apM f o s i 0 + 1 = _
    rw [apM_0 f o s i, nI_1]
theorem apR_cg {p p2 o o2 : Nat → Int32} {x : Int32} {on : Nat} (hp : ∀ j, j ≤ on → p j = p2 j) (ho : ∀ j, j < on → o j = o2 j) : ∀ k, k ≤ on → apR p x o k = apR p2 x o2 k
  | 0, _ => by rw [apR, apR, hp 0 (by omega)]
  | k + 1, hk => by rw [apR, apR, hp k (by omega), hp (k + 1) hk, ho k (by omega), apR_cg hp ho k (by omega)]
theorem apM_cg {f f2 o o2 : Nat → Int32} {s n on : Nat} (hf : ∀ j, j < n → f j = f2 j) (ho : ∀ j, j < on → o j = o2 j) : ∀ i, s + i ≤ n → ∀ k, k ≤ on → apM f o s i k = apM f2 o2 s i k
  | 0, _, _, _ => rfl
  | i + 1, hi, k, hk => by
    show apR (apM f o s i) (f (s + i)) o k = apR (apM f2 o2 s i) (f2 (s + i)) o2 k
    rw [hf (s + i) (by omega)]
    exact apR_cg (fun j hj => apM_cg hf ho i (by omega) j hj) ho k hk
theorem lkR_cg {p p2 o o2 : Nat → Int32} {x : Int32} {on : Nat} (hp : ∀ j, j ≤ on → p j = p2 j) (ho : ∀ j, j < on → o j = o2 j) : ∀ k, k ≤ on → lkR p x o k = lkR p2 x o2 k
  | 0, _ => rfl
  | k + 1, hk => by rw [lkR, lkR, hp k (by omega), hp (k + 1) hk, ho k (by omega), lkR_cg hp ho k (by omega)]
theorem lkM_cg {f f2 o o2 : Nat → Int32} {n on : Nat} (hf : ∀ j, j < n → f j = f2 j) (ho : ∀ j, j < on → o j = o2 j) : ∀ i, i ≤ n → ∀ k, k ≤ on → lkM f o i k = lkM f2 o2 i k
  | 0, _, _, _ => rfl
  | i + 1, hi, k, hk => by
    show lkR (lkM f o i) (f i) o k = lkR (lkM f2 o2 i) (f2 i) o2 k
    rw [hf i (by omega)]
    exact lkR_cg (fun j hj => lkM_cg hf ho i (by omega) j hj) ho k hk
theorem mx0 {n m : Nat} (hn : n < 2 ^ 30) (hm : m < 2 ^ 30) : (if (0 : Int32) < nI n - nI m then nI n - nI m else 0) = nI (n - m) := by
  rcases Nat.lt_or_ge n m with h | h
  · rw [if_neg (fun q => absurd (Int32.lt_trans (pk_sneg hm h) q) (Int32.lt_irrefl)), show n - m = 0 by omega]; rfl
  · rw [nI_sub n m h]
    by_cases e : n - m = 0
    · rw [e]; rfl
    · rw [if_pos (show (0 : Int32) < nI (n - m) from nI_lt (a := 0) (by omega) (by omega))]
theorem c_X6_apart {E : En} {d : Nat} {Q : QT} {X : XT} {g : G2} {b t n on : Nat} (ht : is_town t) (hb : is_life b) (hn : g b 3 = nI n) (h4 : n ≤ 400) (ho : g t 9 = nI on) (h24 : on ≤ 24) (hq : ∀ h, (∀ y, y ≠ 75 → h y = g y) → Q (some (.int (apM (g (b + 1)) (g (t + 9)) (n - on) (n - (n - on)) on))) h) : M E md_X6_apart (d + 1) [.ref 74, .ref t, .ref b] g Q X := by
  refine M.of _ rfl rfl (Nat.le_of_ble_eq_true rfl) ?_
  have hne : b ≠ 75 ∧ b + 1 ≠ 75 ∧ t ≠ 75 ∧ t + 9 ≠ 75 := by unfold is_town is_life at *; omega
  have LP : ∀ j, n - on + j ≤ n → ∀ h : G2, (∀ y, y ≠ 75 → h y = g y) → (∀ j1, j1 ≤ on → h 75 j1 = apM (g (b + 1)) (g (t + 9)) (n - on) j j1) → B E md_X6_apart (d + 1) Q X 35 [(0, .ref 74), (1, .ref t), (2, .ref b), (3, .int (nI (n - on + j)))] [] h 0 := by
    have LQ : ∀ j, j ≤ n → n - on + j ≤ n → ∀ h : G2, (∀ y, y ≠ 75 → h y = g y) → (∀ j1, j1 ≤ on → h 75 j1 = apM (g (b + 1)) (g (t + 9)) (n - on) j j1) → B E md_X6_apart (d + 1) Q X 35 [(0, .ref 74), (1, .ref t), (2, .ref b), (3, .int (nI (n - on + j)))] [] h 0 := by
      refine lp_up (fun j hj0 ihI hj h hF hr => ?_)
      have kb : h b 3 = nI n := by rw [hF b hne.1]; exact hn
      have ihI : ∀ j2, j < j2 → n - on + j2 ≤ n → ∀ h : G2, (∀ y, y ≠ 75 → h y = g y) → (∀ j1, j1 ≤ on → h 75 j1 = apM (g (b + 1)) (g (t + 9)) (n - on) j2 j1) → B E md_X6_apart (d + 1) Q X 35 [(0, .ref 74), (1, .ref t), (2, .ref b), (3, .int (nI (n - on + j2)))] [] h 0 := fun j2 a1 a2 => ihI j2 a1 (by omega) a2
      have IN : n - on + j < n → ∀ q, q ≤ on → ∀ h : G2, (∀ y, y ≠ 75 → h y = g y) → (∀ j1, j1 ≤ q → h 75 j1 = apM (g (b + 1)) (g (t + 9)) (n - on) (j + 1) j1) → (∀ j1, q < j1 → j1 ≤ on → h 75 j1 = apM (g (b + 1)) (g (t + 9)) (n - on) j j1) → ∀ c, c = apM (g (b + 1)) (g (t + 9)) (n - on) j q → B E md_X6_apart (d + 1) Q X 64 [(0, .ref 74), (1, .ref t), (2, .ref b), (3, .int (nI (n - on + j))), (4, .int c), (5, .int (nI (q + 1)))] [] h 0 := by
        intro hin
        refine lp_up (fun q hq0 ih h hF hr1 hr2 c hc => ?_)
        have kt : h t 9 = nI on := by rw [hF t hne.2.2.1]; exact ho
        have k1 : h (b + 1) = g (b + 1) := hF _ hne.2.1
        have k9 : h (t + 9) = g (t + 9) := hF _ hne.2.2.2
        refine b_iload dX6_apart_64 rfl ?_
        refine b_aload_n dX6_apart_66 rfl rfl ?_
        refine b_getI lf_X6_25 (town_c ht) dX6_apart_67 ?_
        refine b_topE (y := nI on) (kt) ?_
        refine b_icmp_gt (tgt := 149) dX6_apart_70 (by decide) (fun h70 => ?_) (fun h70 => ?_)
        · have e70 : on < (q + 1) := nn_lt (a := on) (b := (q + 1)) (by omega) (by omega) h70
          refine b_incN (j := (n - on + j)) (lv' := [(0, _), (1, _), (2, _), (3, _), (4, _), (5, _)]) dX6_apart_149 rfl rfl (by decide) rfl rfl ?_
          refine b_goto (tgt := 35) dX6_apart_152 (by decide) ?_
          refine b_take 4 ?_
          exact ihI (j + 1) (by omega) (by omega) h hF (fun j1 hj1 => hr1 j1 (by omega))
        · have e70 : (q + 1) ≤ on := nn_nlt (a := on) (b := (q + 1)) (by omega) (by omega) h70
          refine b_aload_n dX6_apart_73 rfl rfl ?_
          refine b_getR (b := 75) lf_X6_9 rfl rfl dX6_apart_74 ?_
          refine b_iload dX6_apart_77 rfl ?_
          refine b_ildN (j := q + 1) dX6_apart_79 (rfl) (by show _ < 25; omega) ?_
          refine b_istore (lv' := [(0, _), (1, _), (2, _), (3, _), (4, _), (5, _), (6, _)]) dX6_apart_80 (by decide) rfl rfl ?_
          refine b_aload_n dX6_apart_82 rfl rfl ?_
          refine b_getR (b := (t + 9)) lf_X6_46 (town_c ht) (town_r8 ht) dX6_apart_83 ?_
          refine b_iload dX6_apart_86 rfl ?_
          refine b_iconst (v := 1) dX6_apart_88 (by decide +kernel) ?_
          refine b_isub dX6_apart_89 ?_
          refine b_topE (nI_sub (q + 1) 1 (by omega)) ?_
          refine b_ildN (j := q) dX6_apart_90 (congrArg nI (by omega)) (by rw [(town_n9 ht)]; omega) ?_
          rw [k9]
          refine b_aload_n dX6_apart_91 rfl rfl ?_
          refine b_getR (b := (b + 1)) lf_X6_49 (life_c hb) (life_r0 hb) dX6_apart_92 ?_
          refine b_iload_n dX6_apart_95 rfl rfl ?_
          refine b_ildN (j := (n - on + j)) dX6_apart_96 (rfl) (by rw [(life_n1 hb)]; omega) ?_
          rw [k1]
          refine b_icmp_ne (tgt := 105) dX6_apart_97 (by decide) (fun h97 => ?_) (fun h97 => ?_)
          · refine b_iload dX6_apart_105 rfl ?_
            refine b_iconst (v := 1) dX6_apart_107 (by decide +kernel) ?_
            refine b_iadd dX6_apart_108 ?_
            refine b_istore (lv' := [(0, _), (1, _), (2, _), (3, _), (4, _), (5, _), (6, _), (7, _)]) dX6_apart_109 (by decide) rfl rfl ?_
            refine b_aload_n dX6_apart_111 rfl rfl ?_
            refine b_getR (b := 75) lf_X6_9 rfl rfl dX6_apart_112 ?_
            refine b_iload dX6_apart_115 rfl ?_
            refine b_iload dX6_apart_117 rfl ?_
            refine b_iload dX6_apart_119 rfl ?_
            refine b_aload_n dX6_apart_121 rfl rfl ?_
            refine b_getR (b := 75) lf_X6_9 rfl rfl dX6_apart_122 ?_
            refine b_iload dX6_apart_125 rfl ?_
            refine b_iconst (v := 1) dX6_apart_127 (by decide +kernel) ?_
            refine b_isub dX6_apart_128 ?_
            refine b_topE (nI_sub (q + 1) 1 (by omega)) ?_
            refine b_ildN (j := q) dX6_apart_129 (congrArg nI (by omega)) (by show _ < 25; omega) ?_
            refine b_min dX6_apart_130 lc_X6_58 (by omega) (Nat.le_of_ble_eq_true rfl) (by decide) ?_
            refine b_iconst (v := 1) dX6_apart_133 (by decide +kernel) ?_
            refine b_iadd dX6_apart_134 ?_
            refine b_min dX6_apart_135 lc_X6_58 (by omega) (Nat.le_of_ble_eq_true rfl) (by decide) ?_
            refine b_istN (j := q + 1) dX6_apart_138 (rfl) (by show _ < 25; omega) ?_
            refine b_iload dX6_apart_139 rfl ?_
            refine b_istore (lv' := [(0, _), (1, _), (2, _), (3, _), (4, _), (5, _), (6, _), (7, _)]) dX6_apart_141 (by decide) rfl rfl ?_
            refine b_incN (j := q + 1) (lv' := [(0, _), (1, _), (2, _), (3, _), (4, _), (5, _), (6, _), (7, _)]) dX6_apart_143 rfl rfl (by decide) rfl rfl ?_
            refine b_goto (tgt := 64) dX6_apart_146 (by decide) ?_
            refine b_take 6 ?_
            refine ih (q + 1) (by omega) (by omega) _ (fun y hy => by rw [up2_f _ _ _ _ hy]; exact hF y hy) (fun j1 hj1 => ?_) (fun j1 a1 a2 => by rw [up2_k _ _ _ _ (by omega)]; exact hr2 j1 (by omega) a2) _ (hr2 (q + 1) (by omega) (by omega))
            by_cases ej : j1 = q + 1
            · rw [ej, up2_s, hr1 q (by omega), hr2 (q + 1) (by omega) (by omega), hc]
              show _ = apR (apM (g (b + 1)) (g (t + 9)) (n - on) j) (g (b + 1) (n - on + j)) (g (t + 9)) (q + 1)
              rw [apR, if_neg (c := g (b + 1) (n - on + j) = g (t + 9) q) (fun z => h97 z.symm)]
              rfl
            · rw [up2_k _ _ _ _ ej]; exact hr1 j1 (by omega)
          · refine b_iload dX6_apart_100 rfl ?_
            refine b_goto (tgt := 109) dX6_apart_102 (by decide) ?_
            refine b_istore (lv' := [(0, _), (1, _), (2, _), (3, _), (4, _), (5, _), (6, _), (7, _)]) dX6_apart_109 (by decide) rfl rfl ?_
            refine b_aload_n dX6_apart_111 rfl rfl ?_
            refine b_getR (b := 75) lf_X6_9 rfl rfl dX6_apart_112 ?_
            refine b_iload dX6_apart_115 rfl ?_
            refine b_iload dX6_apart_117 rfl ?_
            refine b_iload dX6_apart_119 rfl ?_
            refine b_aload_n dX6_apart_121 rfl rfl ?_
            refine b_getR (b := 75) lf_X6_9 rfl rfl dX6_apart_122 ?_
            refine b_iload dX6_apart_125 rfl ?_
            refine b_iconst (v := 1) dX6_apart_127 (by decide +kernel) ?_
            refine b_isub dX6_apart_128 ?_
            refine b_topE (nI_sub (q + 1) 1 (by omega)) ?_
            refine b_ildN (j := q) dX6_apart_129 (congrArg nI (by omega)) (by show _ < 25; omega) ?_
            refine b_min dX6_apart_130 lc_X6_58 (by omega) (Nat.le_of_ble_eq_true rfl) (by decide) ?_
            refine b_iconst (v := 1) dX6_apart_133 (by decide +kernel) ?_
            refine b_iadd dX6_apart_134 ?_
            refine b_min dX6_apart_135 lc_X6_58 (by omega) (Nat.le_of_ble_eq_true rfl) (by decide) ?_
            refine b_istN (j := q + 1) dX6_apart_138 (rfl) (by show _ < 25; omega) ?_
            refine b_iload dX6_apart_139 rfl ?_
            refine b_istore (lv' := [(0, _), (1, _), (2, _), (3, _), (4, _), (5, _), (6, _), (7, _)]) dX6_apart_141 (by decide) rfl rfl ?_
            refine b_incN (j := q + 1) (lv' := [(0, _), (1, _), (2, _), (3, _), (4, _), (5, _), (6, _), (7, _)]) dX6_apart_143 rfl rfl (by decide) rfl rfl ?_
            refine b_goto (tgt := 64) dX6_apart_146 (by decide) ?_
            refine b_take 6 ?_
            refine ih (q + 1) (by omega) (by omega) _ (fun y hy => by rw [up2_f _ _ _ _ hy]; exact hF y hy) (fun j1 hj1 => ?_) (fun j1 a1 a2 => by rw [up2_k _ _ _ _ (by omega)]; exact hr2 j1 (by omega) a2) _ (hr2 (q + 1) (by omega) (by omega))
            by_cases ej : j1 = q + 1
            · rw [ej, up2_s, hr1 q (by omega), hr2 (q + 1) (by omega) (by omega), hc]
              show _ = apR (apM (g (b + 1)) (g (t + 9)) (n - on) j) (g (b + 1) (n - on + j)) (g (t + 9)) (q + 1)
              rw [apR, if_pos (c := g (b + 1) (n - on + j) = g (t + 9) q) h97.symm]
              rfl
            · rw [up2_k _ _ _ _ ej]; exact hr1 j1 (by omega)
      refine b_iload_n dX6_apart_35 rfl rfl ?_
      refine b_aload_n dX6_apart_36 rfl rfl ?_
      refine b_getI lf_X6_41 (life_c hb) dX6_apart_37 ?_
      refine b_topE (y := nI n) (kb) ?_
      refine b_icmp_ge (tgt := 155) dX6_apart_40 (by decide) (fun h40 => ?_) (fun h40 => ?_)
      · have e40 : n ≤ ((n - on + j)) := nn_le (a := n) (b := ((n - on + j))) (by omega) (by omega) h40
        refine b_aload_n dX6_apart_155 rfl rfl ?_
        refine b_getR (b := 75) lf_X6_9 rfl rfl dX6_apart_156 ?_
        refine b_aload_n dX6_apart_159 rfl rfl ?_
        refine b_getI lf_X6_25 (town_c ht) dX6_apart_160 ?_
        refine b_topE (y := nI on) (by rw [hF t hne.2.2.1]; exact ho) ?_
        refine b_ildN (j := on) dX6_apart_163 (rfl) (by show _ < 25; omega) ?_
        refine b_iret rfl (by decide) dX6_apart_164 ?_
        have e : j = n - (n - on) := by omega
        rw [hr on (Nat.le_refl _), e]
        exact hq h hF
      · have e40 : ((n - on + j)) < n := nn_nle (a := n) (b := ((n - on + j))) (by omega) (by omega) h40
        refine b_aload_n dX6_apart_43 rfl rfl ?_
        refine b_getR (b := 75) lf_X6_9 rfl rfl dX6_apart_44 ?_
        refine b_iconst (v := 0) dX6_apart_47 (by decide +kernel) ?_
        refine b_ildN (j := 0) dX6_apart_48 (rfl) (by show _ < 25; omega) ?_
        refine b_istore (lv' := [(0, _), (1, _), (2, _), (3, _), (4, _)]) dX6_apart_49 (by decide) rfl rfl ?_
        refine b_aload_n dX6_apart_51 rfl rfl ?_
        refine b_getR (b := 75) lf_X6_9 rfl rfl dX6_apart_52 ?_
        refine b_iconst (v := 0) dX6_apart_55 (by decide +kernel) ?_
        refine b_dup2 dX6_apart_56 rfl rfl ?_
        refine b_ildN (j := 0) dX6_apart_57 (rfl) (by show _ < 25; omega) ?_
        refine b_iconst (v := 1) dX6_apart_58 (by decide +kernel) ?_
        refine b_iadd dX6_apart_59 ?_
        refine b_istN (j := 0) dX6_apart_60 (rfl) (by show _ < 25; omega) ?_
        refine b_iconst (v := 1) dX6_apart_61 (by decide +kernel) ?_
        refine b_istore (lv' := [(0, _), (1, _), (2, _), (3, _), (4, _), (5, _)]) dX6_apart_62 (by decide) rfl rfl ?_
        refine IN e40 0 (Nat.zero_le _) _ (fun y hy => by rw [up2_f _ _ _ _ hy]; exact hF y hy) (fun j1 hj1 => ?_) (fun j1 a1 a2 => by rw [up2_k _ _ _ _ (by omega)]; exact hr j1 a2) _ (hr 0 (Nat.zero_le _))
        rw [show j1 = 0 by omega, up2_s, hr 0 (Nat.zero_le _)]
        rfl
    exact fun j hj => LQ j (by omega) hj
  have LZ : ∀ i, i ≤ 25 → ∀ h : G2, (∀ y, y ≠ 75 → h y = g y) → (∀ j1, j1 < i → h 75 j1 = nI j1) → B E md_X6_apart (d + 1) Q X 2 [(0, .ref 74), (1, .ref t), (2, .ref b), (3, .int (nI i))] [] h 0 := by
    refine lp_up (fun i hi ih h hF hz => ?_)
    refine b_iload_n dX6_apart_2 rfl rfl ?_
    refine b_bipush (v := 24) dX6_apart_3 (by decide +kernel) ?_
    refine b_icmp_gt (tgt := 21) dX6_apart_5 (by decide) (fun h5 => ?_) (fun h5 => ?_)
    · have e5 : 24 < i := nn_lt (a := 24) (b := i) (by omega) (by omega) h5
      refine b_iconst (v := 0) dX6_apart_21 (by decide +kernel) ?_
      refine b_aload_n dX6_apart_22 rfl rfl ?_
      refine b_getI lf_X6_41 (life_c hb) dX6_apart_23 ?_
      refine b_topE (y := nI n) (by rw [hF b hne.1]; exact hn) ?_
      refine b_aload_n dX6_apart_26 rfl rfl ?_
      refine b_getI lf_X6_25 (town_c ht) dX6_apart_27 ?_
      refine b_topE (y := nI on) (by rw [hF t hne.2.2.1]; exact ho) ?_
      refine b_isub dX6_apart_30 ?_
      refine b_max dX6_apart_31 lc_X6_52 (by omega) (Nat.le_of_ble_eq_true rfl) (by decide) ?_
      refine b_topE (y := nI ((n - on))) (mx0 (by omega) (by omega)) ?_
      refine b_istore_n (lv' := [(0, _), (1, _), (2, _), (3, _)]) dX6_apart_34 rfl (by decide) rfl rfl ?_
      exact LP 0 (by omega) h hF (fun j1 hj1 => hz j1 (by omega))
    · have e5 : i ≤ 24 := nn_nlt (a := 24) (b := i) (by omega) (by omega) h5
      refine b_aload_n dX6_apart_8 rfl rfl ?_
      refine b_getR (b := 75) lf_X6_9 rfl rfl dX6_apart_9 ?_
      refine b_iload_n dX6_apart_12 rfl rfl ?_
      refine b_iload_n dX6_apart_13 rfl rfl ?_
      refine b_istN (j := i) dX6_apart_14 (rfl) (by show _ < 25; omega) ?_
      refine b_incN (j := i) (lv' := [(0, _), (1, _), (2, _), (3, _)]) dX6_apart_15 rfl rfl (by decide) rfl rfl ?_
      refine b_goto (tgt := 2) dX6_apart_18 (by decide) ?_
      refine ih (i + 1) (by omega) (by omega) _ (fun y hy => by rw [up2_f _ _ _ _ hy]; exact hF y hy) (fun j1 hj1 => ?_)
      by_cases e : j1 = i
      · rw [e, up2_s]
      · rw [up2_k _ _ _ _ e]; exact hz j1 (by omega)
  refine b_iconst (v := 0) dX6_apart_0 (by decide +kernel) ?_
  refine b_istore_n (lv' := [(0, _), (1, _), (2, _), (3, _)]) dX6_apart_1 rfl (by decide) rfl rfl ?_
  exact LZ 0 (Nat.zero_le _) g (fun _ _ => rfl) (fun j hj => absurd hj (by omega))
theorem c_X12_apartNow {E : En} {d : Nat} {Q : QT} {X : XT} {g : G2} {n on : Nat} (hn : g 84 32 = nI n) (h4 : n ≤ 400) (ho : g 87 2 = nI on) (h24 : on ≤ 24) (hq : ∀ h, (∀ y, y ≠ 110 → y ≠ 111 → h y = g y) → Q (some (.int (apM (g 104) (g 94) (n - on) (n - (n - on)) on))) h) : M E md_X12_apartNow (d + 1) [.ref 84] g Q X := by
  refine M.of _ rfl rfl (Nat.le_of_ble_eq_true rfl) ?_
  have LP : ∀ j, n - on + j ≤ n → ∀ h : G2, (∀ y, y ≠ 110 → y ≠ 111 → h y = g y) → (∀ j1, j1 ≤ on → h 110 j1 = apM (g 104) (g 94) (n - on) j j1) → B E md_X12_apartNow (d + 1) Q X 39 [(0, .ref 84), (1, .int (nI (n - on))), (2, .int (nI (n - on + j)))] [] h 0 := by
    have LQ : ∀ j, j ≤ n → n - on + j ≤ n → ∀ h : G2, (∀ y, y ≠ 110 → y ≠ 111 → h y = g y) → (∀ j1, j1 ≤ on → h 110 j1 = apM (g 104) (g 94) (n - on) j j1) → B E md_X12_apartNow (d + 1) Q X 39 [(0, .ref 84), (1, .int (nI (n - on))), (2, .int (nI (n - on + j)))] [] h 0 := by
      refine lp_up (fun j hj0 ihI hj h hF hr => ?_)
      have k84 : h 84 32 = nI n := by rw [hF 84 (by decide) (by decide)]; exact hn
      have k87 : h 87 2 = nI on := by rw [hF 87 (by decide) (by decide)]; exact ho
      have ihI : ∀ j2, j < j2 → n - on + j2 ≤ n → ∀ h : G2, (∀ y, y ≠ 110 → y ≠ 111 → h y = g y) → (∀ j1, j1 ≤ on → h 110 j1 = apM (g 104) (g 94) (n - on) j2 j1) → B E md_X12_apartNow (d + 1) Q X 39 [(0, .ref 84), (1, .int (nI (n - on))), (2, .int (nI (n - on + j2)))] [] h 0 := fun j2 a1 a2 => ihI j2 a1 (by omega) a2
      have CP : n - on + j < n → ∀ q, q ≤ on + 1 → ∀ h : G2, (∀ y, y ≠ 110 → y ≠ 111 → h y = g y) → (∀ j1, j1 < q → h 110 j1 = apM (g 104) (g 94) (n - on) (j + 1) j1) → (∀ j1, j1 ≤ on → h 111 j1 = apM (g 104) (g 94) (n - on) (j + 1) j1) → B E md_X12_apartNow (d + 1) Q X 141 [(0, .ref 84), (1, .int (nI (n - on))), (2, .int (nI (n - on + j))), (3, .int (nI q))] [] h 0 := by
        intro hin
        refine lp_up (fun q hq0 ih h hF hd hd2 => ?_)
        have k87 : h 87 2 = nI on := by rw [hF 87 (by decide) (by decide)]; exact ho
        refine b_iload_n dX12_apartNow_141 rfl rfl ?_
        refine b_aload_n dX12_apartNow_142 rfl rfl ?_
        refine b_getR (b := 87) lf_X12_40 rfl rfl dX12_apartNow_143 ?_
        refine b_iconst (v := 2) dX12_apartNow_146 (by decide +kernel) ?_
        refine b_ildN (j := 2) dX12_apartNow_147 (rfl) (by show _ < 10; omega) ?_
        refine b_topE (y := nI on) (k87) ?_
        refine b_icmp_gt (tgt := 169) dX12_apartNow_148 (by decide) (fun h148 => ?_) (fun h148 => ?_)
        · have e148 : on < q := nn_lt (a := on) (b := q) (by omega) (by omega) h148
          refine b_incN (j := (n - on + j)) (lv' := [(0, _), (1, _), (2, _), (3, _)]) dX12_apartNow_169 rfl rfl (by decide) rfl rfl ?_
          refine b_goto (tgt := 39) dX12_apartNow_172 (by decide) ?_
          refine b_take 3 ?_
          exact ihI (j + 1) (by omega) (by omega) h hF (fun j1 hj1 => hd j1 (by omega))
        · have e148 : q ≤ on := nn_nlt (a := on) (b := q) (by omega) (by omega) h148
          refine b_aload_n dX12_apartNow_151 rfl rfl ?_
          refine b_getR (b := 110) lf_X12_114 rfl rfl dX12_apartNow_152 ?_
          refine b_iload_n dX12_apartNow_155 rfl rfl ?_
          refine b_aload_n dX12_apartNow_156 rfl rfl ?_
          refine b_getR (b := 111) lf_X12_117 rfl rfl dX12_apartNow_157 ?_
          refine b_iload_n dX12_apartNow_160 rfl rfl ?_
          refine b_ildN (j := q) dX12_apartNow_161 (rfl) (by show _ < 25; omega) ?_
          refine b_istN (j := q) dX12_apartNow_162 (rfl) (by show _ < 25; omega) ?_
          refine b_incN (j := q) (lv' := [(0, _), (1, _), (2, _), (3, _)]) dX12_apartNow_163 rfl rfl (by decide) rfl rfl ?_
          refine b_goto (tgt := 141) dX12_apartNow_166 (by decide) ?_
          refine ih (q + 1) (by omega) (by omega) _ (fun y y1 y2 => by rw [up2_f _ _ _ _ y1]; exact hF y y1 y2) (fun j1 hj1 => ?_) (fun j1 hj1 => by rw [up2_a _ _ _ _ (by decide)]; exact hd2 j1 hj1)
          by_cases e : j1 = q
          · rw [e, up2_s]; exact hd2 q (by omega)
          · rw [up2_k _ _ _ _ e]; exact hd j1 (by omega)
      have IN : n - on + j < n → ∀ q, q ≤ on → ∀ h : G2, (∀ y, y ≠ 110 → y ≠ 111 → h y = g y) → (∀ j1, j1 ≤ on → h 110 j1 = apM (g 104) (g 94) (n - on) j j1) → (∀ j1, j1 ≤ q → h 111 j1 = apM (g 104) (g 94) (n - on) (j + 1) j1) → B E md_X12_apartNow (d + 1) Q X 60 [(0, .ref 84), (1, .int (nI (n - on))), (2, .int (nI (n - on + j))), (3, .int (nI (q + 1)))] [] h 0 := by
        intro hin
        refine lp_up (fun q hq0 ih h hF hr hn1 => ?_)
        have k87 : h 87 2 = nI on := by rw [hF 87 (by decide) (by decide)]; exact ho
        have k104 : h 104 = g 104 := hF 104 (by decide) (by decide)
        have k94 : h 94 = g 94 := hF 94 (by decide) (by decide)
        refine b_iload_n dX12_apartNow_60 rfl rfl ?_
        refine b_aload_n dX12_apartNow_61 rfl rfl ?_
        refine b_getR (b := 87) lf_X12_40 rfl rfl dX12_apartNow_62 ?_
        refine b_iconst (v := 2) dX12_apartNow_65 (by decide +kernel) ?_
        refine b_ildN (j := 2) dX12_apartNow_66 (rfl) (by show _ < 10; omega) ?_
        refine b_topE (y := nI on) (k87) ?_
        refine b_icmp_gt (tgt := 139) dX12_apartNow_67 (by decide) (fun h67 => ?_) (fun h67 => ?_)
        · have e67 : on < (q + 1) := nn_lt (a := on) (b := (q + 1)) (by omega) (by omega) h67
          refine b_iconst (v := 0) dX12_apartNow_139 (by decide +kernel) ?_
          refine b_istore_n (lv' := [(0, _), (1, _), (2, _), (3, _)]) dX12_apartNow_140 rfl (by decide) rfl rfl ?_
          exact CP hin 0 (Nat.zero_le _) h hF (fun j1 hj1 => absurd hj1 (by omega)) (fun j1 hj1 => hn1 j1 (by omega))
        · have e67 : (q + 1) ≤ on := nn_nlt (a := on) (b := (q + 1)) (by omega) (by omega) h67
          refine b_aload_n dX12_apartNow_70 rfl rfl ?_
          refine b_getR (b := 110) lf_X12_114 rfl rfl dX12_apartNow_71 ?_
          refine b_iload_n dX12_apartNow_74 rfl rfl ?_
          refine b_iconst (v := 1) dX12_apartNow_75 (by decide +kernel) ?_
          refine b_isub dX12_apartNow_76 ?_
          refine b_topE (nI_sub (q + 1) 1 (by omega)) ?_
          refine b_ildN (j := q) dX12_apartNow_77 (congrArg nI (by omega)) (by show _ < 25; omega) ?_
          refine b_aload_n dX12_apartNow_78 rfl rfl ?_
          refine b_getR (b := 104) lf_X12_93 rfl rfl dX12_apartNow_79 ?_
          refine b_iload_n dX12_apartNow_82 rfl rfl ?_
          refine b_ildN (j := (n - on + j)) dX12_apartNow_83 (rfl) (by show _ < 400; omega) ?_
          rw [k104]
          refine b_aload_n dX12_apartNow_84 rfl rfl ?_
          refine b_getR (b := 94) lf_X12_61 rfl rfl dX12_apartNow_85 ?_
          refine b_iload_n dX12_apartNow_88 rfl rfl ?_
          refine b_iconst (v := 1) dX12_apartNow_89 (by decide +kernel) ?_
          refine b_isub dX12_apartNow_90 ?_
          refine b_topE (nI_sub (q + 1) 1 (by omega)) ?_
          refine b_ildN (j := q) dX12_apartNow_91 (congrArg nI (by omega)) (by show _ < 48; omega) ?_
          rw [k94]
          refine b_icmp_ne (tgt := 99) dX12_apartNow_92 (by decide) (fun h92 => ?_) (fun h92 => ?_)
          · refine b_iconst (v := 1) dX12_apartNow_99 (by decide +kernel) ?_
            refine b_iadd dX12_apartNow_100 ?_
            refine b_istore (lv' := [(0, _), (1, _), (2, _), (3, _), (4, _)]) dX12_apartNow_101 (by decide) rfl rfl ?_
            refine b_aload_n dX12_apartNow_103 rfl rfl ?_
            refine b_getR (b := 111) lf_X12_117 rfl rfl dX12_apartNow_104 ?_
            refine b_iload_n dX12_apartNow_107 rfl rfl ?_
            refine b_iload dX12_apartNow_108 rfl ?_
            refine b_aload_n dX12_apartNow_110 rfl rfl ?_
            refine b_getR (b := 110) lf_X12_114 rfl rfl dX12_apartNow_111 ?_
            refine b_iload_n dX12_apartNow_114 rfl rfl ?_
            refine b_ildN (j := q + 1) dX12_apartNow_115 (rfl) (by show _ < 25; omega) ?_
            refine b_aload_n dX12_apartNow_116 rfl rfl ?_
            refine b_getR (b := 111) lf_X12_117 rfl rfl dX12_apartNow_117 ?_
            refine b_iload_n dX12_apartNow_120 rfl rfl ?_
            refine b_iconst (v := 1) dX12_apartNow_121 (by decide +kernel) ?_
            refine b_isub dX12_apartNow_122 ?_
            refine b_topE (nI_sub (q + 1) 1 (by omega)) ?_
            refine b_ildN (j := q) dX12_apartNow_123 (congrArg nI (by omega)) (by show _ < 25; omega) ?_
            refine b_min dX12_apartNow_124 lc_X12_202 (by omega) (Nat.le_of_ble_eq_true rfl) (by decide) ?_
            refine b_iconst (v := 1) dX12_apartNow_127 (by decide +kernel) ?_
            refine b_iadd dX12_apartNow_128 ?_
            refine b_min dX12_apartNow_129 lc_X12_202 (by omega) (Nat.le_of_ble_eq_true rfl) (by decide) ?_
            refine b_istN (j := q + 1) dX12_apartNow_132 (rfl) (by show _ < 25; omega) ?_
            refine b_incN (j := q + 1) (lv' := [(0, _), (1, _), (2, _), (3, _), (4, _)]) dX12_apartNow_133 rfl rfl (by decide) rfl rfl ?_
            refine b_goto (tgt := 60) dX12_apartNow_136 (by decide) ?_
            refine b_take 4 ?_
            refine ih (q + 1) (by omega) (by omega) _ (fun y y1 y2 => by rw [up2_f _ _ _ _ y2]; exact hF y y1 y2) (fun j1 hj1 => by rw [up2_a _ _ _ _ (by decide)]; exact hr j1 hj1) (fun j1 hj1 => ?_)
            by_cases ej : j1 = q + 1
            · rw [ej, up2_s, hr q (by omega), hr (q + 1) (by omega), hn1 q (by omega)]
              show _ = apR (apM (g 104) (g 94) (n - on) j) (g 104 (n - on + j)) (g 94) (q + 1)
              rw [apR, if_neg (c := g 104 (n - on + j) = g 94 q) h92]
              rfl
            · rw [up2_k _ _ _ _ ej]; exact hn1 j1 (by omega)
          · refine b_iconst (v := 0) dX12_apartNow_95 (by decide +kernel) ?_
            refine b_goto (tgt := 100) dX12_apartNow_96 (by decide) ?_
            refine b_iadd dX12_apartNow_100 ?_
            refine b_istore (lv' := [(0, _), (1, _), (2, _), (3, _), (4, _)]) dX12_apartNow_101 (by decide) rfl rfl ?_
            refine b_aload_n dX12_apartNow_103 rfl rfl ?_
            refine b_getR (b := 111) lf_X12_117 rfl rfl dX12_apartNow_104 ?_
            refine b_iload_n dX12_apartNow_107 rfl rfl ?_
            refine b_iload dX12_apartNow_108 rfl ?_
            refine b_aload_n dX12_apartNow_110 rfl rfl ?_
            refine b_getR (b := 110) lf_X12_114 rfl rfl dX12_apartNow_111 ?_
            refine b_iload_n dX12_apartNow_114 rfl rfl ?_
            refine b_ildN (j := q + 1) dX12_apartNow_115 (rfl) (by show _ < 25; omega) ?_
            refine b_aload_n dX12_apartNow_116 rfl rfl ?_
            refine b_getR (b := 111) lf_X12_117 rfl rfl dX12_apartNow_117 ?_
            refine b_iload_n dX12_apartNow_120 rfl rfl ?_
            refine b_iconst (v := 1) dX12_apartNow_121 (by decide +kernel) ?_
            refine b_isub dX12_apartNow_122 ?_
            refine b_topE (nI_sub (q + 1) 1 (by omega)) ?_
            refine b_ildN (j := q) dX12_apartNow_123 (congrArg nI (by omega)) (by show _ < 25; omega) ?_
            refine b_min dX12_apartNow_124 lc_X12_202 (by omega) (Nat.le_of_ble_eq_true rfl) (by decide) ?_
            refine b_iconst (v := 1) dX12_apartNow_127 (by decide +kernel) ?_
            refine b_iadd dX12_apartNow_128 ?_
            refine b_min dX12_apartNow_129 lc_X12_202 (by omega) (Nat.le_of_ble_eq_true rfl) (by decide) ?_
            refine b_istN (j := q + 1) dX12_apartNow_132 (rfl) (by show _ < 25; omega) ?_
            refine b_incN (j := q + 1) (lv' := [(0, _), (1, _), (2, _), (3, _), (4, _)]) dX12_apartNow_133 rfl rfl (by decide) rfl rfl ?_
            refine b_goto (tgt := 60) dX12_apartNow_136 (by decide) ?_
            refine b_take 4 ?_
            refine ih (q + 1) (by omega) (by omega) _ (fun y y1 y2 => by rw [up2_f _ _ _ _ y2]; exact hF y y1 y2) (fun j1 hj1 => by rw [up2_a _ _ _ _ (by decide)]; exact hr j1 hj1) (fun j1 hj1 => ?_)
            by_cases ej : j1 = q + 1
            · rw [ej, up2_s, hr q (by omega), hr (q + 1) (by omega), hn1 q (by omega)]
              show _ = apR (apM (g 104) (g 94) (n - on) j) (g 104 (n - on + j)) (g 94) (q + 1)
              rw [apR, if_pos (c := g 104 (n - on + j) = g 94 q) h92, Int32.add_zero]
              rfl
            · rw [up2_k _ _ _ _ ej]; exact hn1 j1 (by omega)
      refine b_iload_n dX12_apartNow_39 rfl rfl ?_
      refine b_aload_n dX12_apartNow_40 rfl rfl ?_
      refine b_getI lf_X12_320 rfl dX12_apartNow_41 ?_
      refine b_topE (y := nI n) (k84) ?_
      refine b_icmp_ge (tgt := 175) dX12_apartNow_44 (by decide) (fun h44 => ?_) (fun h44 => ?_)
      · have e44 : n ≤ ((n - on + j)) := nn_le (a := n) (b := ((n - on + j))) (by omega) (by omega) h44
        refine b_aload_n dX12_apartNow_175 rfl rfl ?_
        refine b_getR (b := 110) lf_X12_114 rfl rfl dX12_apartNow_176 ?_
        refine b_aload_n dX12_apartNow_179 rfl rfl ?_
        refine b_getR (b := 87) lf_X12_40 rfl rfl dX12_apartNow_180 ?_
        refine b_iconst (v := 2) dX12_apartNow_183 (by decide +kernel) ?_
        refine b_ildN (j := 2) dX12_apartNow_184 (rfl) (by show _ < 10; omega) ?_
        refine b_topE (y := nI on) (k87) ?_
        refine b_ildN (j := on) dX12_apartNow_185 (rfl) (by show _ < 25; omega) ?_
        refine b_iret rfl (by decide) dX12_apartNow_186 ?_
        have e : j = n - (n - on) := by omega
        rw [hr on (Nat.le_refl _), e]
        exact hq h hF
      · have e44 : ((n - on + j)) < n := nn_nle (a := n) (b := ((n - on + j))) (by omega) (by omega) h44
        refine b_aload_n dX12_apartNow_47 rfl rfl ?_
        refine b_getR (b := 111) lf_X12_117 rfl rfl dX12_apartNow_48 ?_
        refine b_iconst (v := 0) dX12_apartNow_51 (by decide +kernel) ?_
        refine b_iload_n dX12_apartNow_52 rfl rfl ?_
        refine b_iload_n dX12_apartNow_53 rfl rfl ?_
        refine b_isub dX12_apartNow_54 ?_
        refine b_topE (y := nI j) (by rw [nI_sub _ _ (by omega)]; exact congrArg nI (by omega)) ?_
        refine b_iconst (v := 1) dX12_apartNow_55 (by decide +kernel) ?_
        refine b_iadd dX12_apartNow_56 ?_
        refine b_topE (nI_add j 1) ?_
        refine b_istN (j := 0) dX12_apartNow_57 (rfl) (by show _ < 25; omega) ?_
        refine b_iconst (v := 1) dX12_apartNow_58 (by decide +kernel) ?_
        refine b_istore_n (lv' := [(0, _), (1, _), (2, _), (3, _)]) dX12_apartNow_59 rfl (by decide) rfl rfl ?_
        refine IN e44 0 (Nat.zero_le _) _ (fun y y1 y2 => by rw [up2_f _ _ _ _ y2]; exact hF y y1 y2) (fun j1 hj1 => by rw [up2_a _ _ _ _ (by decide)]; exact hr j1 hj1) (fun j1 hj1 => ?_)
        rw [show j1 = 0 by omega, up2_s]
        exact (apM_0 _ _ _ (j + 1)).symm
    exact fun j hj => LQ j (by omega) hj
  have LZ : ∀ i, i ≤ 25 → ∀ h : G2, (∀ y, y ≠ 110 → y ≠ 111 → h y = g y) → (∀ j1, j1 < i → h 110 j1 = nI j1) → B E md_X12_apartNow (d + 1) Q X 18 [(0, .ref 84), (1, .int (nI (n - on))), (2, .int (nI i))] [] h 0 := by
    refine lp_up (fun i hi ih h hF hz => ?_)
    refine b_iload_n dX12_apartNow_18 rfl rfl ?_
    refine b_bipush (v := 24) dX12_apartNow_19 (by decide +kernel) ?_
    refine b_icmp_gt (tgt := 37) dX12_apartNow_21 (by decide) (fun h21 => ?_) (fun h21 => ?_)
    · have e21 : 24 < i := nn_lt (a := 24) (b := i) (by omega) (by omega) h21
      refine b_iload_n dX12_apartNow_37 rfl rfl ?_
      refine b_istore_n (lv' := [(0, _), (1, _), (2, _)]) dX12_apartNow_38 rfl (by decide) rfl rfl ?_
      exact LP 0 (by omega) h hF (fun j1 hj1 => hz j1 (by omega))
    · have e21 : i ≤ 24 := nn_nlt (a := 24) (b := i) (by omega) (by omega) h21
      refine b_aload_n dX12_apartNow_24 rfl rfl ?_
      refine b_getR (b := 110) lf_X12_114 rfl rfl dX12_apartNow_25 ?_
      refine b_iload_n dX12_apartNow_28 rfl rfl ?_
      refine b_iload_n dX12_apartNow_29 rfl rfl ?_
      refine b_istN (j := i) dX12_apartNow_30 (rfl) (by show _ < 25; omega) ?_
      refine b_incN (j := i) (lv' := [(0, _), (1, _), (2, _)]) dX12_apartNow_31 rfl rfl (by decide) rfl rfl ?_
      refine b_goto (tgt := 18) dX12_apartNow_34 (by decide) ?_
      refine ih (i + 1) (by omega) (by omega) _ (fun y y1 y2 => by rw [up2_f _ _ _ _ y1]; exact hF y y1 y2) (fun j1 hj1 => ?_)
      by_cases e : j1 = i
      · rw [e, up2_s]
      · rw [up2_k _ _ _ _ e]; exact hz j1 (by omega)
  refine b_iconst (v := 0) dX12_apartNow_0 (by decide +kernel) ?_
  refine b_aload_n dX12_apartNow_1 rfl rfl ?_
  refine b_getI lf_X12_320 rfl dX12_apartNow_2 ?_
  refine b_topE (y := nI n) (hn) ?_
  refine b_aload_n dX12_apartNow_5 rfl rfl ?_
  refine b_getR (b := 87) lf_X12_40 rfl rfl dX12_apartNow_6 ?_
  refine b_iconst (v := 2) dX12_apartNow_9 (by decide +kernel) ?_
  refine b_ildN (j := 2) dX12_apartNow_10 (rfl) (by show _ < 10; omega) ?_
  refine b_topE (y := nI on) (ho) ?_
  refine b_isub dX12_apartNow_11 ?_
  refine b_max dX12_apartNow_12 lc_X12_453 (by omega) (Nat.le_of_ble_eq_true rfl) (by decide) ?_
  refine b_topE (y := nI ((n - on))) (mx0 (by omega) (by omega)) ?_
  refine b_istore_n (lv' := [(0, _), (1, _)]) dX12_apartNow_15 rfl (by decide) rfl rfl ?_
  refine b_iconst (v := 0) dX12_apartNow_16 (by decide +kernel) ?_
  refine b_istore_n (lv' := [(0, _), (1, _), (2, _)]) dX12_apartNow_17 rfl (by decide) rfl rfl ?_
  exact LZ 0 (Nat.zero_le _) g (fun _ _ _ => rfl) (fun j hj => absurd hj (by omega))
def likV (T : TD) (S : LfS) : Int32 := lkM (l_g S 0) (t_g T 4) (l_n S) (t_on T)
def apaV (T : TD) (S : LfS) : Int32 := apM (l_g S 0) (t_g T 4) (l_n S - t_on T) (l_n S - (l_n S - t_on T)) (t_on T)
def likM (T : TD) (S : LfS) (w : Int32) : Nat × Int32 := if inB w.toInt 0 1 then (0, if w = 0 then likV T S else apaV T S) else (1, 0)
theorem likM_1 {T : TD} {S : LfS} {w : Int32} (h : inB w.toInt 0 1 = false) : likM T S w = (1, 0) := by unfold likM; rw [h]; rfl
theorem likM_0 {T : TD} {S : LfS} {w : Int32} (h : inB w.toInt 0 1 = true) : likM T S w = (0, if w = 0 then likV T S else apaV T S) := by unfold likM; rw [h]; rfl
theorem FC.of75 {g h : G2} (hF : ∀ y, y ≠ 75 → h y = g y) : FC g h := fun y hy => hF y (by unfold scC at hy; omega)
theorem FD.of110 {g h : G2} (hF : ∀ y, y ≠ 110 → y ≠ 111 → h y = g y) : FD g h := ⟨fun y hy => hF y (by omega) (by omega), fun j hj => by rw [hF 84 (by decide) (by decide)]⟩
theorem c_X11_like {E : En} {d : Nat} {Q : QT} {X : XT} {g : G2} {t : Nat} (ht : is_town t) (h0 : g 0 2 = nI t) {T : TD} {S : LfS} {sp : Int32} {w : Int32} (hR : RLf g 31 T sp S) (hT : RTn g t T) (hq : ∀ h, FC g h → (likM T S w).1 = 0 → Q (some (.int (likM T S w).2)) h) (hx : ∀ h, FC g h → (likM T S w).1 = 1 → X nsN h) : M E md_X11_like (d + 7) [.ref 0, .int w] g Q X := by
  refine M.of _ rfl rfl (Nat.le_of_ble_eq_true rfl) ?_
  refine b_iload_n dX11_like_0 rfl rfl ?_
  refine b_iconst (v := 1) dX11_like_1 (by decide +kernel) ?_
  refine b_callS (As := [_, _]) (st := []) dX11_like_2 lk_X11_198 lm_X11_needWhat ls_X11_needWhat rfl rfl (Nat.le_of_ble_eq_true rfl) (Nat.le_refl _) (by decide) ?_
  refine c_X11_needWhat (fun hw => ?_) (fun hw => hx g (FC.rf g) (by rw [likM_1 hw]))
  rw [likM_0 hw] at hq
  refine b_iload_n dX11_like_5 rfl rfl ?_
  refine b_if_ne (tgt := 27) dX11_like_6 (by decide) (fun h6 => ?_) (fun h6 => ?_)
  · refine b_aload_n dX11_like_27 rfl rfl ?_
    refine b_getR (b := 74) lf_X11_68 rfl rfl dX11_like_28 ?_
    refine b_aload_n dX11_like_31 rfl rfl ?_
    refine b_getD lf_X11_26 rfl h0 (town_31 ht) dX11_like_32 ?_
    refine b_aload_n dX11_like_35 rfl rfl ?_
    refine b_getR (b := 31) lf_X11_33 rfl rfl dX11_like_36 ?_
    refine b_callV (As := [_, _]) (st := []) dX11_like_39 lk_X11_302 lm_X6_apart lv_X6_apart rfl (by decide) rfl rfl rfl (Nat.le_of_ble_eq_true rfl) (Nat.le_refl _) (by decide) ?_
    refine c_X6_apart ht is_life31 hR.n hR.le hT.on hT.ole (fun h hF => ?_)
    refine b_iret rfl (by decide) dX11_like_42 ?_
    have hq := hq h (FC.of75 hF) rfl
    rw [if_neg h6] at hq
    unfold apaV at hq
    rw [← apM_cg hR.sg hT.ot _ (by omega) _ (Nat.le_refl _)] at hq
    exact hq
  · refine b_aload_n dX11_like_9 rfl rfl ?_
    refine b_getR (b := 74) lf_X11_68 rfl rfl dX11_like_10 ?_
    refine b_aload_n dX11_like_13 rfl rfl ?_
    refine b_getD lf_X11_26 rfl h0 (town_31 ht) dX11_like_14 ?_
    refine b_aload_n dX11_like_17 rfl rfl ?_
    refine b_getR (b := 31) lf_X11_33 rfl rfl dX11_like_18 ?_
    refine b_callV (As := [_, _]) (st := []) dX11_like_21 lk_X11_298 lm_X6_whole lv_X6_whole rfl (by decide) rfl rfl rfl (Nat.le_of_ble_eq_true rfl) (Nat.le_refl _) (by decide) ?_
    refine c_X6_whole ht is_life31 hR.n hR.le hT.on hT.ole (fun h hF _ => ?_)
    refine b_goto (tgt := 42) dX11_like_24 (by decide) ?_
    refine b_iret rfl (by decide) dX11_like_42 ?_
    have hq := hq h (FC.of75 hF) rfl
    rw [if_pos h6] at hq
    unfold likV at hq
    rw [← lkM_cg hR.sg hT.ot _ (Nat.le_refl _) _ (Nat.le_refl _)] at hq
    exact hq
theorem c_X12_like {E : En} {d : Nat} {Q : QT} {X : XT} {g : G2} {T : TD} {S : LfS} {w : Int32} (hR : RMl g T S) (hT : RMt g T) (hq : ∀ h, FD g h → RMl h T S → h 84 2 = nI (likM T S w).1 → Q (some (.int (likM T S w).2)) h) : M E md_X12_like (d + 2) [.ref 84, .int w] g Q X := by
  refine M.of _ rfl rfl (Nat.le_of_ble_eq_true rfl) ?_
  refine b_aload_n dX12_like_0 rfl rfl ?_
  refine b_iconst (v := 0) dX12_like_1 (by decide +kernel) ?_
  refine b_putI lf_X12_165 lp_12_2 rfl dX12_like_2 ?_
  have F1 : FD g (up2 g 84 2 0) := FD.code 0
  have c1 : up2 g 84 2 0 84 2 = 0 := up2_s _ _ _ _
  have hR := hR.code (x := 0)
  have hT := hT.code (x := 0)
  generalize up2 g 84 2 0 = g1 at F1 c1 hR hT ⊢
  refine b_iload_n dX12_like_5 rfl rfl ?_
  refine b_if_lt (tgt := 14) dX12_like_6 (by decide) (fun h6 => ?_) (fun h6 => ?_)
  · refine b_aload_n dX12_like_14 rfl rfl ?_
    refine b_iconst (v := 1) dX12_like_15 (by decide +kernel) ?_
    refine b_callV (As := [_]) (st := []) dX12_like_16 lk_X12_303 lm_X12_fail lv_X12_fail rfl (by decide) rfl rfl rfl (Nat.le_of_ble_eq_true rfl) (Nat.le_refl _) (by decide) ?_
    refine c_X12_fail ?_
    refine b_iret rfl (by decide) dX12_like_19 ?_
    rw [show likM T S w = (1, 0) from likM_1 (in_lt h6)] at hq
    exact hq _ (F1.tr (FD.code 1)) hR.code (up2_s _ _ _ _)
  · refine b_iload_n dX12_like_9 rfl rfl ?_
    refine b_iconst (v := 1) dX12_like_10 (by decide +kernel) ?_
    refine b_icmp_le (tgt := 20) dX12_like_11 (by decide) (fun h11 => ?_) (fun h11 => ?_)
    · have hw := in_ok (b := 1) rfl h6 h11
      refine b_iload_n dX12_like_20 rfl rfl ?_
      refine b_if_ne (tgt := 31) dX12_like_21 (by decide) (fun h21 => ?_) (fun h21 => ?_)
      · refine b_aload_n dX12_like_31 rfl rfl ?_
        refine b_callV (As := []) (st := []) dX12_like_32 lk_X12_462 lm_X12_apartNow lv_X12_apartNow rfl (by decide) rfl rfl rfl (Nat.le_of_ble_eq_true rfl) (Nat.le_refl _) (by decide) ?_
        refine c_X12_apartNow hR.n hR.le hT.on hT.ole (fun h hF => ?_)
        refine b_iret rfl (by decide) dX12_like_35 ?_
        have F2 := F1.tr (FD.of110 hF)
        have hq := hq h F2 (hR.cg (fun j _ _ => by rw [hF 84 (by decide) (by decide)]) (fun z z1 z2 z3 => hF z (by omega) (by omega))) (by rw [likM_0 hw, hF 84 (by decide) (by decide)]; exact c1)
        rw [likM_0 hw] at hq
        simp only [if_neg h21] at hq
        unfold apaV at hq
        rw [← apM_cg hR.sg hT.ot _ (by omega) _ (Nat.le_refl _)] at hq
        exact hq
      · refine b_aload_n dX12_like_24 rfl rfl ?_
        refine b_callV (As := []) (st := []) dX12_like_25 lk_X12_459 lm_X12_likeNow lv_X12_likeNow rfl (by decide) rfl rfl rfl (Nat.le_of_ble_eq_true rfl) (Nat.le_refl _) (by decide) ?_
        refine c_X12_likeNow hR.n hR.le hT.on hT.ole (fun h hF => ?_)
        refine b_goto (tgt := 35) dX12_like_28 (by decide) ?_
        refine b_iret rfl (by decide) dX12_like_35 ?_
        have F2 := F1.tr (FD.of110 hF)
        have hq := hq h F2 (hR.cg (fun j _ _ => by rw [hF 84 (by decide) (by decide)]) (fun z z1 z2 z3 => hF z (by omega) (by omega))) (by rw [likM_0 hw, hF 84 (by decide) (by decide)]; exact c1)
        rw [likM_0 hw] at hq
        simp only [if_pos h21] at hq
        unfold likV at hq
        rw [← lkM_cg hR.sg hT.ot _ (Nat.le_refl _) _ (Nat.le_refl _)] at hq
        exact hq
    · refine b_aload_n dX12_like_14 rfl rfl ?_
      refine b_iconst (v := 1) dX12_like_15 (by decide +kernel) ?_
      refine b_callV (As := [_]) (st := []) dX12_like_16 lk_X12_303 lm_X12_fail lv_X12_fail rfl (by decide) rfl rfl rfl (Nat.le_of_ble_eq_true rfl) (Nat.le_refl _) (by decide) ?_
      refine c_X12_fail ?_
      refine b_iret rfl (by decide) dX12_like_19 ?_
      rw [show likM T S w = (1, 0) from likM_1 (in_gt rfl h11)] at hq
      exact hq _ (F1.tr (FD.code 1)) hR.code (up2_s _ _ _ _)
