theorem RM_tw {g h : G2} {f : Nat → Nat} {n : Nat} {s : TxS} {F0 : FS} (hM : RMr g f n s) (hO : okLs f n s) (hU : RCu g 96 F0)
    (k1 : ∀ y, y ≠ 84 → ¬ (87 ≤ y ∧ y ≤ 95) → y ≠ 97 → ¬ (99 ≤ y ∧ y ≤ 102) → h y = g y) (k2 : ∀ y, 87 ≤ y → y ≤ 95 → ∀ j, j < hfN y → h y j = g y (hfN y + j)) (k4 : ∀ j, (j = 30 ∨ j = 32 ∨ j = 33 ∨ j = 34 ∨ j = 35 ∨ j = 37 ∨ j = 38 ∨ j = 58) → h 84 j = 0) (k5 : h 84 31 = g 87 8) (k6 : h 84 36 = g 87 6) (k7 : ∀ p, p < s.np → h 99 p = g 89 (8 + p) ∧ h 100 p = g 91 (8 + p)) (k8 : ∀ k, k < 6 → h 101 k = g 92 (6 + k) ∧ h 102 k = g 93 (6 + k)) (k9 : ∃ f0, ∀ k, h 97 k = ordR (fun p => cntN (fun j => decide (h 90 j < h 90 p)) s.np) f0 s.np k) : RMt h (twT s) ∧ RMf h (twT s) (begF (twT s) F0) := by
  obtain ⟨a1, a2, a3, a4, a5, a6, a7, a8, a9, a10, a11, a12, a13, a14⟩ := id hO
  obtain ⟨⟨r1, r2, r3, r4, r5, r6, r7, r8, r9⟩, w1, w2, w3, w4, w5, w6, w7⟩ := hM
  have a2 : s.np ≤ 8 := a2
  have a3 : s.nf ≤ 6 := a3
  have a4 : s.no ≤ 24 := a4
  have a13 : s.c.length ≤ 600 := a13
  have h90 : ∀ p, p < s.np → h 90 p = nI (s.H 1 p) := fun p hp => (k2 90 (by decide) (by decide) p (by show p < 8; omega)).trans (w5 p hp).2.2.1
  refine ⟨⟨?_, a2, ?_, a4, ?_, a13, fun p hp => ?_, fun p hp => h90 p hp, fun i hi => ?_, fun i hi => ?_, fun i hi => ?_⟩, ⟨?_, by show 0 ≤ 400; decide, fun i hi => absurd hi (Nat.not_lt_zero _), fun i hi => absurd hi (Nat.not_lt_zero _), fun i hi => absurd hi (Nat.not_lt_zero _), ?_, ?_, ?_, ?_, ?_, fun p hp => ?_, fun p hp => ?_, ?_, a3, fun i hi => ?_, fun i hi => ?_⟩, ?_, fun i hi => absurd hi (Nat.not_lt_zero _), ?_, ⟨fun i hi => absurd hi (Nat.not_lt_zero _), fun i hi => absurd hi (Nat.not_lt_zero _)⟩, fun i hi => ?_⟩
  · exact (k2 87 (by decide) (by decide) 0 (by decide)).trans w1
  · exact (k2 87 (by decide) (by decide) 2 (by decide)).trans w3
  · exact (k2 87 (by decide) (by decide) 4 (by decide)).trans r7
  · have hp : p < s.np := hp
    exact (k2 88 (by decide) (by decide) p (by show p < 8; omega)).trans (w5 p hp).1
  · have hi : i < s.np := hi
    obtain ⟨q, q1, q2⟩ := ord_ok (H := s.H 1) a6 hi
    obtain ⟨f0, k9⟩ := k9
    rw [k9 i]
    refine Eq.trans (ordR_cg (r2 := rkN (s.H 1) s.np) (fun p hp => ?_)) ((q2 f0).trans (q2 _).symm)
    refine cntN_cg (fun j hj => ?_)
    have b1 := (a5 j hj).2.2.2.1
    have b2 := (a5 p hp).2.2.2.1
    rw [h90 j hj, h90 p hp]
    exact nI_ltd (by omega) (by omega)
  · have hi : i < s.no := hi
    exact (k2 94 (by decide) (by decide) i (by show i < 24; omega)).trans (w7 i hi)
  · have hi : i < s.c.length := hi
    exact (k2 95 (by decide) (by decide) i (by show i < 600; omega)).trans (rpC_cd r9 i hi)
  · exact k4 32 (by decide)
  · exact k4 30 (by decide)
  · exact k5.trans w4
  · exact k4 33 (by decide)
  · exact k4 34 (by decide)
  · exact k4 35 (by decide)
  · exact (k7 p hp).1.trans (w5 p hp).2.1
  · exact (k7 p hp).2.trans (w5 p hp).2.2.2
  · exact k6.trans w2
  · have hi : i < s.nf := hi
    exact (k8 i (by omega)).1.trans (w6 i hi).1
  · have hi : i < s.nf := hi
    exact (k8 i (by omega)).2.trans (w6 i hi).2
  · exact k4 37 (by decide)
  · exact k4 38 (by decide)
  · rw [k1 96 (by decide) (by decide) (by decide) (by decide)]; exact hU i hi
/-- the model's tape -/
def RTq (g : G2) (m : Nat) (f : Nat → Nat) : Prop := g 84 15 = nI m ∧ ∀ i, i < m → f i < 256 ∧ g 98 i = nI (f i)
theorem c_X12_town {E : En} {d : Nat} {Q : QT} {X : XT} {g : G2} {f : Nat → Nat} {m : Nat} {x : Int32} {F0 : FS} (hT : RTq g m f) (hm : m ≤ 600) (hU : RCu g 96 F0) (hq0 : ¬ okN x m → Q (some (.int 0)) (up2 g 84 2 1))
    (hq1 : ∀ n, x = nI n → n ≤ m → (twL f n).b = 0 → okLs f n (twL f n).s → ∀ h, (∀ y, y < 84 → h y = g y) → h 84 2 = 0 → h 84 15 = 0 → h 84 24 = -1 → h 84 44 = g 84 44 → RMt h (twT (twL f n).s) → RMf h (twT (twL f n).s) (begF (twT (twL f n).s) F0) → h 84 58 = 0 → Q (some (.int 0)) h)
    (hq2 : ∀ n, x = nI n → n ≤ m → (twL f n).b ≠ 0 → ∀ h, (∀ y, y ≠ 84 → y ≠ 96 → ¬ (87 ≤ y ∧ y ≤ 95) → h y = g y) → (∀ y, 87 ≤ y → y ≤ 95 → ∀ j, j < hfN y → h y j = g y j) → (∀ j, ¬ (j = 2 ∨ (15 ≤ j ∧ j ≤ 24)) → h 84 j = g 84 j) → h 84 2 = 0 → h 84 15 = 0 → h 84 24 = nI (twL f n).p → h 96 = upd (g 96) 0 (g 96 0 + 1) → Q (some (.int (nI (twL f n).b))) h) : M E md_X12_town (d + 50) [.ref 84, .int x] g Q X := by
  refine M.of _ rfl rfl (Nat.le_of_ble_eq_true rfl) ?_
  refine b_aload_n dX12_town_0 rfl rfl ?_
  refine b_iconst (v := 0) dX12_town_1 (by decide +kernel) ?_
  refine b_putI lf_X12_165 lp_12_2 rfl dX12_town_2 ?_
  refine b_iload_n dX12_town_5 rfl rfl ?_
  refine b_if_lt (tgt := 17) dX12_town_6 (by decide) (fun h6 => ?_) (fun h6 => ?_)
  · have hx1 := okN_no (x := x) (m := m) hm (Or.inl h6)
    refine b_aload_n dX12_town_17 rfl rfl ?_
    refine b_iconst (v := 1) dX12_town_18 (by decide +kernel) ?_
    refine b_callV (As := [_]) (st := []) dX12_town_19 lk_X12_303 lm_X12_fail lv_X12_fail rfl (by decide) rfl rfl rfl (Nat.le_of_ble_eq_true rfl) (Nat.le_refl _) (by decide) ?_
    refine c_X12_fail ?_
    refine b_iret rfl (by decide) dX12_town_22 ?_
    rw [up2_2]
    exact hq0 hx1
  · refine b_iload_n dX12_town_9 rfl rfl ?_
    refine b_aload_n dX12_town_10 rfl rfl ?_
    refine b_getI lf_X12_172 rfl dX12_town_11 ?_
    refine b_topE (y := nI m) ((up2_k _ _ _ _ (by decide)).trans hT.1) ?_
    refine b_icmp_le (tgt := 23) dX12_town_14 (by decide) (fun h14 => ?_) (fun h14 => ?_)
    · obtain ⟨n, hnm, ex⟩ := okN_of hm h6 h14
      subst ex
      have hn6 : n ≤ 600 := by omega
      refine b_aload_n dX12_town_23 rfl rfl ?_
      refine b_iconst (v := 0) dX12_town_24 (by decide +kernel) ?_
      refine b_putI lf_X12_172 lp_12_15 rfl dX12_town_25 ?_
      refine b_aload_n dX12_town_28 rfl rfl ?_
      refine b_iload_n dX12_town_29 rfl rfl ?_
      refine b_putI lf_X12_175 lp_12_17 rfl dX12_town_30 ?_
      refine b_aload_n dX12_town_33 rfl rfl ?_
      refine b_iconst (v := 0) dX12_town_34 (by decide +kernel) ?_
      refine b_putI lf_X12_178 lp_12_16 rfl dX12_town_35 ?_
      refine b_aload_n dX12_town_38 rfl rfl ?_
      refine b_iconst (v := 0) dX12_town_39 (by decide +kernel) ?_
      refine b_putI lf_X12_214 lp_12_22 rfl dX12_town_40 ?_
      refine b_aload_n dX12_town_43 rfl rfl ?_
      refine b_iconst (v := (-1)) dX12_town_44 (by decide +kernel) ?_
      refine b_putI lf_X12_76 lp_12_24 rfl dX12_town_45 ?_
      have y1 : ∀ y, y ≠ 84 → up2 (up2 (up2 (up2 (up2 (up2 g 84 2 0) 84 15 0) 84 17 (nI n)) 84 16 0) 84 22 0) 84 24 (-1) y = g y := fun y q => by rw [up2_f _ _ _ _ q, up2_f _ _ _ _ q, up2_f _ _ _ _ q, up2_f _ _ _ _ q, up2_f _ _ _ _ q, up2_f _ _ _ _ q]
      have y2 : ∀ j, ¬ (j = 2 ∨ (15 ≤ j ∧ j ≤ 24)) → up2 (up2 (up2 (up2 (up2 (up2 g 84 2 0) 84 15 0) 84 17 (nI n)) 84 16 0) 84 22 0) 84 24 (-1) 84 j = g 84 j := fun j q => by rw [up2_k _ _ _ _ (by omega), up2_k _ _ _ _ (by omega), up2_k _ _ _ _ (by omega), up2_k _ _ _ _ (by omega), up2_k _ _ _ _ (by omega), up2_k _ _ _ _ (by omega)]
      have v2 : up2 (up2 (up2 (up2 (up2 (up2 g 84 2 0) 84 15 0) 84 17 (nI n)) 84 16 0) 84 22 0) 84 24 (-1) 84 2 = 0 := by simp [up2]
      have v15 : up2 (up2 (up2 (up2 (up2 (up2 g 84 2 0) 84 15 0) 84 17 (nI n)) 84 16 0) 84 22 0) 84 24 (-1) 84 15 = 0 := by simp [up2]
      have v17 : up2 (up2 (up2 (up2 (up2 (up2 g 84 2 0) 84 15 0) 84 17 (nI n)) 84 16 0) 84 22 0) 84 24 (-1) 84 17 = nI n := by simp [up2]
      have v16 : up2 (up2 (up2 (up2 (up2 (up2 g 84 2 0) 84 15 0) 84 17 (nI n)) 84 16 0) 84 22 0) 84 24 (-1) 84 16 = 0 := by simp [up2]
      have v22 : up2 (up2 (up2 (up2 (up2 (up2 g 84 2 0) 84 15 0) 84 17 (nI n)) 84 16 0) 84 22 0) 84 24 (-1) 84 22 = 0 := by simp [up2]
      have v24 : up2 (up2 (up2 (up2 (up2 (up2 g 84 2 0) 84 15 0) 84 17 (nI n)) 84 16 0) 84 22 0) 84 24 (-1) 84 24 = -1 := by simp [up2]
      generalize up2 (up2 (up2 (up2 (up2 (up2 g 84 2 0) 84 15 0) 84 17 (nI n)) 84 16 0) 84 22 0) 84 24 (-1) = g1 at y1 y2 v2 v15 v17 v16 v22 v24 ⊢
      refine b_iconst (v := 0) dX12_town_48 (by decide +kernel) ?_
      refine b_istore_n (lv' := [(0, _), (1, _), (2, _)]) dX12_town_49 rfl (by decide) rfl rfl ?_
      have K70 : ∀ h : G2, (∀ y, y ≠ 87 → h y = g1 y) → (∀ j, j < 5 → h 87 j = g1 87 j) → (∀ j, j < 5 → h 87 (5 + j) = 0) → B E md_X12_town (d + 50) Q X 70 [(0, .ref 84), (1, .int (nI n)), (2, .int (nI 5))] [] h 0 := by
        intro h c1 c2 c3
        refine b_aload_n dX12_town_70 rfl rfl ?_
        refine b_callV (As := []) (st := []) dX12_town_71 lk_X12_239 lm_X12_stepOn lv_X12_stepOn rfl (by decide) rfl rfl rfl (Nat.le_of_ble_eq_true rfl) (Nat.le_refl _) (by decide) ?_
        refine c_X12_stepOn (f := f) (n := n) (p := 0) ⟨by rw [c1 84 (by decide)]; exact v17, hn6, fun i hi => by rw [c1 98 (by decide), y1 98 (by decide)]; exact hT.2 i (by omega)⟩ (by rw [c1 84 (by decide)]; exact v16) (Nat.zero_le _) (fun h2 K2 T2 => ?_)
        have F1 : ∀ y, y ≠ 84 → y ≠ 87 → h2 y = g y := fun y a b => by rw [K2.1 y a, c1 y b, y1 y a]
        have F2 : ∀ j, ¬ (j = 2 ∨ (15 ≤ j ∧ j ≤ 24)) → h2 84 j = g 84 j := fun j q => by rw [K2.2 j (by omega), c1 84 (by decide), y2 j q]
        have F3 : ∀ j, j < 5 → h2 87 j = g 87 j := fun j hj => by rw [K2.1 87 (by decide), c2 j hj, y1 87 (by decide)]
        have v2 : h2 84 2 = 0 := by rw [K2.2 2 (by decide), c1 84 (by decide)]; exact v2
        have v15 : h2 84 15 = 0 := by rw [K2.2 15 (by decide), c1 84 (by decide)]; exact v15
        have v24 : h2 84 24 = -1 := by rw [K2.2 24 (by decide), c1 84 (by decide)]; exact v24
        have v22 : h2 84 22 = 0 := by rw [K2.2 22 (by decide), c1 84 (by decide)]; exact v22
        have v17 : h2 84 17 = nI n := by rw [K2.2 17 (by decide), c1 84 (by decide)]; exact v17
        have c5 : ∀ j, j < 5 → h2 87 (5 + j) = 0 := fun j hj => by rw [K2.1 87 (by decide)]; exact c3 j hj
        have hM0 : RMr h2 f n (s0L f n) := ⟨⟨⟨v17, hn6, fun i hi => by rw [F1 98 (by decide) (by decide)]; exact hT.2 i (by omega)⟩, T2, ⟨0, Nat.zero_le _, rfl⟩, v22, Nat.zero_le _, fun q => absurd rfl q, c5 4 (by decide), Nat.zero_le _, trivial⟩, c5 0 (by decide), c5 1 (by decide), c5 2 (by decide), c5 3 (by decide), fun p hp => absurd hp (Nat.not_lt_zero _), fun p hp => absurd hp (Nat.not_lt_zero _), fun p hp => absurd hp (Nat.not_lt_zero _)⟩
        refine b_iconst (v := 0) dX12_town_74 (by decide +kernel) ?_
        refine b_istore_n (lv' := [(0, _), (1, _), (2, _)]) dX12_town_75 rfl (by decide) rfl rfl ?_
        have K99 : ∀ (s : TxS) (h : G2) (z : Int32), RMr h f n s → okLs f n s → FMl h2 h → (0, 0, s) = twL f n → B E md_X12_town (d + 50) Q X 99 [(0, .ref 84), (1, .int (nI n)), (2, .int z)] [] h 0 := by
          intro s h z hM hO L e
          have hU2 : RCu h 96 F0 := fun i hi => by rw [L.1 96 (by decide) (by decide), F1 96 (by decide) (by decide)]; exact hU i hi
          refine b_aload_n dX12_town_99 rfl rfl ?_
          refine b_getI lf_X12_214 rfl dX12_town_100 ?_
          refine b_topE (hM.1.2.2.2.1) ?_
          refine b_if_eq (tgt := 129) dX12_town_103 (by decide) (fun h103 => ?_) (fun h103 => ?_)
          · refine b_aload_n dX12_town_129 rfl rfl ?_
            refine b_callV (As := []) (st := []) dX12_town_130 lk_X12_309 lm_X12_takeOver lv_X12_takeOver rfl (by decide) rfl rfl rfl (Nat.le_of_ble_eq_true rfl) (Nat.le_refl _) (by decide) ?_
            refine c_X12_takeOver (np := s.np) hM.2.1 hO.2.1 (fun h4 k1 k2 k3 k4 k5 k6 k7 k8 k9 => ?_)
            refine b_iconst (v := 0) dX12_town_133 (by decide +kernel) ?_
            refine b_iret rfl (by decide) dX12_town_134 ?_
            obtain ⟨z1, z2⟩ := RM_tw hM hO hU2 k1 k2 k4 k5 k6 k7 k8 k9
            have hq1 := hq1 n rfl hnm
            rw [← e] at hq1
            refine hq1 rfl hO h4 (fun y hy => ?_) ?_ ?_ ?_ ?_ z1 z2 (k4 58 (by decide))
            · rw [k1 y (by omega) (by omega) (by omega) (by omega), L.1 y (by omega) (by omega), F1 y (by omega) (by omega)]
            · rw [k3 2 (by decide), L.2.1 2 (by decide)]; exact v2
            · rw [k3 15 (by decide), L.2.1 15 (by decide)]; exact v15
            · rw [k3 24 (by decide), L.2.1 24 (by decide)]; exact v24
            · rw [k3 44 (by decide), L.2.1 44 (by decide)]; exact F2 44 (by decide)
          · exact absurd rfl h103
        have K99b : ∀ (h : G2) (z : Int32) (m : MS), m.bad = (twL f n).b → m.bp = (twL f n).p → m.bad ≠ 0 → FMl h2 h → RMs h f n m → B E md_X12_town (d + 50) Q X 99 [(0, .ref 84), (1, .int (nI n)), (2, .int z)] [] h 0 := by
          intro h z m m1 m2 hb L R
          have hb6 := R.2.2.2.2.1
          have hq2 := hq2 n rfl hnm
          rw [← m1, ← m2] at hq2
          refine b_aload_n dX12_town_99 rfl rfl ?_
          refine b_getI lf_X12_214 rfl dX12_town_100 ?_
          refine b_topE (R.2.2.2.1) ?_
          refine b_if_eq (tgt := 129) dX12_town_103 (by decide) (fun h103 => ?_) (fun h103 => ?_)
          · have e103 : m.bad = 0 := nI_inj (b := 0) (by omega) (by decide) h103
            exact absurd e103 hb
          · have e103 : m.bad ≠ 0 := fun q => h103 (by rw [q]; rfl)
            refine b_aload_n dX12_town_106 rfl rfl ?_
            refine b_aload_n dX12_town_107 rfl rfl ?_
            refine b_getI lf_X12_217 rfl dX12_town_108 ?_
            refine b_topE ((R.2.2.2.2.2.1 hb)) ?_
            refine b_putI lf_X12_76 lp_12_24 rfl dX12_town_111 ?_
            refine b_aload_n dX12_town_114 rfl rfl ?_
            refine b_getR (b := 96) lf_X12_67 rfl rfl dX12_town_115 ?_
            refine b_iconst (v := 0) dX12_town_118 (by decide +kernel) ?_
            refine b_dup2 dX12_town_119 rfl rfl ?_
            refine b_ildN (j := 0) dX12_town_120 (rfl) (by show _ < 3; omega) ?_
            refine b_iconst (v := 1) dX12_town_121 (by decide +kernel) ?_
            refine b_iadd dX12_town_122 ?_
            refine b_istN (j := 0) dX12_town_123 (rfl) (by show _ < 3; omega) ?_
            refine b_aload_n dX12_town_124 rfl rfl ?_
            refine b_getI lf_X12_214 rfl dX12_town_125 ?_
            refine b_topE (y := nI m.bad) (by rw [up2_a _ _ _ _ (by decide), up2_k _ _ _ _ (by decide)]; exact R.2.2.2.1) ?_
            refine b_iret rfl (by decide) dX12_town_128 ?_
            refine hq2 hb _ (fun y a b c => ?_) (fun y a b j hj => ?_) (fun j hj => ?_) ?_ ?_ ?_ ?_
            · rw [up2_f _ _ _ _ b, up2_f _ _ _ _ a, L.1 y a c, F1 y a (by omega)]
            · rw [up2_f _ _ _ _ (by omega), up2_f _ _ _ _ (by omega), L.2.2 y a b j hj]
              by_cases q : y = 87
              · subst q; exact F3 j hj
              · rw [F1 y (by omega) q]
            · rw [up2_a _ _ _ _ (by decide), up2_k _ _ _ _ (by omega), L.2.1 j (by omega)]; exact F2 j hj
            · rw [up2_a _ _ _ _ (by decide), up2_k _ _ _ _ (by decide), L.2.1 2 (by decide)]; exact v2
            · rw [up2_a _ _ _ _ (by decide), up2_k _ _ _ _ (by decide), L.2.1 15 (by decide)]; exact v15
            · rw [up2_a _ _ _ _ (by decide)]; exact up2_s _ _ _ _
            · rw [up2_u, up2_a _ _ _ _ (by decide), up2_f _ _ _ _ (by decide), L.1 96 (by decide) (by decide), F1 96 (by decide) (by decide)]
        have K76b : ∀ (h : G2) (z : Int32) (m : MS), m.bad = (twL f n).b → m.bp = (twL f n).p → m.bad ≠ 0 → FMl h2 h → RMs h f n m → B E md_X12_town (d + 50) Q X 76 [(0, .ref 84), (1, .int (nI n)), (2, .int z)] [] h 0 := by
          intro h z m m1 m2 hb L R
          have hb6 := R.2.2.2.2.1
          refine b_aload_n dX12_town_76 rfl rfl ?_
          refine b_getI lf_X12_214 rfl dX12_town_77 ?_
          refine b_topE (R.2.2.2.1) ?_
          refine b_if_ne (tgt := 99) dX12_town_80 (by decide) (fun h80 => ?_) (fun h80 => ?_)
          · have e80 : m.bad ≠ 0 := fun q => h80 (by rw [q]; rfl)
            exact K99b h z m m1 m2 hb L R
          · have e80 : m.bad = 0 := nI_inj (b := 0) (by omega) (by decide) h80
            exact absurd e80 hb
        have key : ∀ (F : Nat) (s : TxS) (h : G2), RMr h f n s → okLs f n s → FMl h2 h → lns f n F s = twL f n → 600 ≤ F + s.t.pl → B E md_X12_town (d + 50) Q X 76 [(0, .ref 84), (1, .int (nI n)), (2, .int (nI (dnN s)))] [] h 0 := by
          intro F
          induction F using Nat.strongRecOn with
          | ind F ih =>
            intro s h hM hO L e hP
            have htm := tkM_le s.t.k
            refine b_aload_n dX12_town_76 rfl rfl ?_
            refine b_getI lf_X12_214 rfl dX12_town_77 ?_
            refine b_topE (hM.1.2.2.2.1) ?_
            refine b_if_ne (tgt := 99) dX12_town_80 (by decide) (fun h80 => ?_) (fun h80 => ?_)
            · exact absurd rfl h80
            · refine b_aload_n dX12_town_83 rfl rfl ?_
              refine b_getI lf_X12_188 rfl dX12_town_84 ?_
              refine b_topE (hM.1.2.1.2.2.2.1) ?_
              refine b_if_eq (tgt := 99) dX12_town_87 (by decide) (fun h87 => ?_) (fun h87 => ?_)
              · have e87 : ((tkM s.t.k)) = 0 := nI_inj (b := 0) (by omega) (by decide) h87
                have k0 : s.t.k = 0 := (tkM_0 hO.1).mp e87
                exact K99 s h _ hM hO L (by rw [← e]; cases F with | zero => rfl | succ M => simp only [lns]; rw [if_pos k0])
              · have e87 : ((tkM s.t.k)) ≠ 0 := fun q => h87 (by rw [q]; rfl)
                have k0 : s.t.k ≠ 0 := fun q => e87 ((tkM_0 hO.1).mpr q)
                refine b_aload_n dX12_town_90 rfl rfl ?_
                refine b_iload_n dX12_town_91 rfl rfl ?_
                refine b_callV (As := [_]) (st := []) dX12_town_92 lk_X12_306 lm_X12_readLine lv_X12_readLine rfl (by decide) rfl rfl rfl (Nat.le_of_ble_eq_true rfl) (Nat.le_refl _) (by decide) ?_
                have hpl : s.t.pl < n := by have := hO.1.cs; omega
                obtain ⟨M, hM1⟩ : ∃ M, F = M + 1 := ⟨F - 1, by omega⟩
                subst hM1
                simp only [lns] at e
                rw [if_neg k0] at e
                have b5 := ln_le hn6 hO
                refine c_X12_readLine hM hO hn6 (fun h3 z3 L3 C3 => ?_) (fun h3 zz z3 L3 C3 => ?_)
                · rw [if_pos z3] at e
                  obtain ⟨o3, p3⟩ := ln_ok hn6 hO z3
                  refine b_istore_n (lv' := [(0, _), (1, _), (2, _)]) dX12_town_95 rfl (by decide) rfl rfl ?_
                  refine b_goto (tgt := 76) dX12_town_96 (by decide) ?_
                  exact ih M (by omega) (ln f n s).s h3 C3 o3 (L.tr L3) e (by omega)
                · rw [if_neg z3] at e
                  refine b_istore_n (lv' := [(0, _), (1, _), (2, _)]) dX12_town_95 rfl (by decide) rfl rfl ?_
                  refine b_goto (tgt := 76) dX12_town_96 (by decide) ?_
                  obtain ⟨m, m1, m2, R⟩ := C3
                  rw [e] at m1 m2 z3
                  exact K76b h3 _ m m1 m2 (by rw [m1]; exact z3) (L.tr L3) R
        exact key 600 (s0L f n) h2 hM0 (s0L_ok f n) (FMl.rf h2) rfl (by omega)
      have L : ∀ i, i ≤ 5 → ∀ h : G2, (∀ y, y ≠ 87 → h y = g1 y) → (∀ j, j < 5 → h 87 j = g1 87 j) → (∀ j, j < i → h 87 (5 + j) = 0) → B E md_X12_town (d + 50) Q X 50 [(0, .ref 84), (1, .int (nI n)), (2, .int (nI i))] [] h 0 := by
        refine lp_up (fun i hi ih h c1 c2 c3 => ?_)
        refine b_iload_n dX12_town_50 rfl rfl ?_
        refine b_iconst (v := 5) dX12_town_51 (by decide +kernel) ?_
        refine b_icmp_ge (tgt := 70) dX12_town_52 (by decide) (fun h52 => ?_) (fun h52 => ?_)
        · have e52 : 5 ≤ i := nn_le (a := 5) (b := i) (by omega) (by omega) h52
          have z : i = 5 := by omega
          subst z
          exact K70 h c1 c2 c3
        · have e52 : i < 5 := nn_nle (a := 5) (b := i) (by omega) (by omega) h52
          refine b_aload_n dX12_town_55 rfl rfl ?_
          refine b_getR (b := 87) lf_X12_40 rfl rfl dX12_town_56 ?_
          refine b_iconst (v := 5) dX12_town_59 (by decide +kernel) ?_
          refine b_iload_n dX12_town_60 rfl rfl ?_
          refine b_iadd dX12_town_61 ?_
          refine b_topE (nI_add 5 i) ?_
          refine b_iconst (v := 0) dX12_town_62 (by decide +kernel) ?_
          refine b_istN (j := (5 + i)) dX12_town_63 (rfl) (by show _ < 10; omega) ?_
          refine b_incN (j := i) (lv' := [(0, _), (1, _), (2, _)]) dX12_town_64 rfl rfl (by decide) rfl rfl ?_
          refine b_goto (tgt := 50) dX12_town_67 (by decide) ?_
          refine ih (i + 1) (by omega) (by omega) _ (fun y q => (up2_f _ _ _ _ q).trans (c1 y q)) (fun j hj => (up2_k _ _ _ _ (by omega)).trans (c2 j hj)) (fun j hj => ?_)
          by_cases q : j = i
          · rw [q]; exact up2_s _ _ _ _
          · rw [up2_k _ _ _ _ (by omega)]; exact c3 j (by omega)
      exact L 0 (by decide) g1 (fun _ _ => rfl) (fun _ _ => rfl) (fun j hj => absurd hj (Nat.not_lt_zero _))
    · have hx1 := okN_no (x := x) (m := m) hm (Or.inr h14)
      refine b_aload_n dX12_town_17 rfl rfl ?_
      refine b_iconst (v := 1) dX12_town_18 (by decide +kernel) ?_
      refine b_callV (As := [_]) (st := []) dX12_town_19 lk_X12_303 lm_X12_fail lv_X12_fail rfl (by decide) rfl rfl rfl (Nat.le_of_ble_eq_true rfl) (Nat.le_refl _) (by decide) ?_
      refine c_X12_fail ?_
      refine b_iret rfl (by decide) dX12_town_22 ?_
      rw [up2_2]
      exact hq0 hx1
theorem fd5_0 {f : Nat → Nat} {m i : Nat} {a b c e x : Int32} (h : i < 4) : byF a (i % 4) = fd5 f m a b c e x (m + i) := by
  unfold fd5 fdF
  rw [if_pos (by omega), if_pos (by omega), if_pos (by omega), if_pos (by omega), if_neg (by omega), show m + i - m = i % 4 by omega]
theorem fd5_1 {f : Nat → Nat} {m i : Nat} {a b c e x : Int32} (h : 4 ≤ i) (h2 : i < 8) : byF b (i % 4) = fd5 f m a b c e x (m + i) := by
  unfold fd5 fdF
  rw [if_pos (by omega), if_pos (by omega), if_pos (by omega), if_neg (by omega), show m + i - (m + 4) = i % 4 by omega]
theorem fd5_2 {f : Nat → Nat} {m i : Nat} {a b c e x : Int32} (h : 8 ≤ i) (h2 : i < 12) : byF c (i % 4) = fd5 f m a b c e x (m + i) := by
  unfold fd5 fdF
  rw [if_pos (by omega), if_pos (by omega), if_neg (by omega), show m + i - (m + 8) = i % 4 by omega]
theorem fd5_3 {f : Nat → Nat} {m i : Nat} {a b c e x : Int32} (h : 12 ≤ i) (h2 : i < 16) : byF e (i % 4) = fd5 f m a b c e x (m + i) := by
  unfold fd5 fdF
  rw [if_pos (by omega), if_neg (by omega), show m + i - (m + 12) = i % 4 by omega]
theorem fd5_4 {f : Nat → Nat} {m i : Nat} {a b c e x : Int32} (h : 16 ≤ i) (h2 : i < 20) : byF x (i % 4) = fd5 f m a b c e x (m + i) := by
  unfold fd5 fdF
  rw [if_neg (by omega), show m + i - (m + 16) = i % 4 by omega]
theorem fd5_o {f : Nat → Nat} {m i : Nat} {a b c e x : Int32} (h : i < m) : fd5 f m a b c e x i = f i := by
  unfold fd5 fdF
  rw [if_pos (by omega), if_pos (by omega), if_pos (by omega), if_pos (by omega), if_pos h]
theorem fd5_256 {f : Nat → Nat} {m i : Nat} {a b c e x : Int32} (h : m ≤ i) (h2 : i < m + 20) : fd5 f m a b c e x i < 256 := by
  have k : ∀ w k, byF w k < 256 := fun w k => (byF_s w k).1
  unfold fd5 fdF
  split
  · split
    · split
      · split
        · rw [if_neg (by omega)]; exact k _ _
        · exact k _ _
      · exact k _ _
    · exact k _ _
  · exact k _ _
theorem c_X12_feed {E : En} {d : Nat} {Q : QT} {X : XT} {g : G2} {f : Nat → Nat} {m : Nat} {a b c e x : Int32} (hT : RTq g m f) (hm : m ≤ 600) (hq0 : 600 < m + 20 → Q (some (.int (-1))) (up2 g 84 2 0)) (hq1 : m + 20 ≤ 600 → ∀ h, (∀ y, y ≠ 84 → y ≠ 98 → h y = g y) → (∀ j, j ≠ 15 → j ≠ 2 → h 84 j = g 84 j) → h 84 2 = 0 → RTq h (m + 20) (fd5 f m a b c e x) → Q (some (.int (nI (m + 20)))) h) : M E md_X12_feed d [.ref 84, .int a, .int b, .int c, .int e, .int x] g Q X := by
  refine M.of _ rfl rfl (Nat.le_of_ble_eq_true rfl) ?_
  refine b_aload_n dX12_feed_0 rfl rfl ?_
  refine b_iconst (v := 0) dX12_feed_1 (by decide +kernel) ?_
  refine b_putI lf_X12_165 lp_12_2 rfl dX12_feed_2 ?_
  refine b_aload_n dX12_feed_5 rfl rfl ?_
  refine b_getI lf_X12_172 rfl dX12_feed_6 ?_
  refine b_topE (y := nI m) (by rw [up2_k _ _ _ _ (by decide)]; exact hT.1) ?_
  refine b_bipush (v := 20) dX12_feed_9 (by decide +kernel) ?_
  refine b_iadd dX12_feed_11 ?_
  refine b_topE (nI_add m 20) ?_
  refine b_sipush (v := 600) dX12_feed_12 (by decide +kernel) ?_
  refine b_icmp_le (tgt := 20) dX12_feed_15 (by decide) (fun h15 => ?_) (fun h15 => ?_)
  · have e15 : ((m + 20)) ≤ 600 := nn_le (a := ((m + 20))) (b := 600) (by omega) (by omega) h15
    have hm2 : m + 20 ≤ 600 := by omega
    have L : ∀ i, i ≤ 20 → ∀ h : G2, (∀ y, y ≠ 84 → y ≠ 98 → h y = (up2 g 84 2 0) y) → (∀ j, j ≠ 15 → h 84 j = (up2 g 84 2 0) 84 j) → h 84 15 = nI (m + i) → (∀ j, j < m → h 98 j = (up2 g 84 2 0) 98 j) → (∀ j, j < i → h 98 (m + j) = nI (fd5 f m a b c e x (m + j))) → B E md_X12_feed d Q X 23 [(0, .ref 84), (1, .int a), (2, .int b), (3, .int c), (4, .int e), (5, .int x), (6, .int (nI i))] [] h 0 := by
      refine lp_up (fun i hi ih h c1 c2 c3 c4 c5 => ?_)
      have K76 : ∀ w : Int32, byF w (i % 4) = fd5 f m a b c e x (m + i) → i < 20 → B E md_X12_feed d Q X 76 [(0, .ref 84), (1, .int a), (2, .int b), (3, .int c), (4, .int e), (5, .int x), (6, .int (nI i))] [.int w] h 0 := by
        intro w hw hi20
        refine b_istore (lv' := [(0, _), (1, _), (2, _), (3, _), (4, _), (5, _), (6, _), (7, _)]) dX12_feed_76 (by decide) rfl rfl ?_
        refine b_aload_n dX12_feed_78 rfl rfl ?_
        refine b_getR (b := 98) lf_X12_73 rfl rfl dX12_feed_79 ?_
        refine b_aload_n dX12_feed_82 rfl rfl ?_
        refine b_getI lf_X12_172 rfl dX12_feed_83 ?_
        refine b_topE (c3) ?_
        refine b_iload dX12_feed_86 rfl ?_
        refine b_bipush (v := 24) dX12_feed_88 (by decide +kernel) ?_
        refine b_bipush (v := 8) dX12_feed_90 (by decide +kernel) ?_
        refine b_iload dX12_feed_92 rfl ?_
        refine b_iconst (v := 4) dX12_feed_94 (by decide +kernel) ?_
        refine b_irem dX12_feed_95 (by decide +kernel) ?_
        refine b_topE (pk_rem (d := 4) (by omega) (by decide) (by decide)) ?_
        refine b_imul dX12_feed_96 ?_
        refine b_topE (nI_mul 8 ((i % 4))) ?_
        refine b_isub dX12_feed_97 ?_
        refine b_topE (nI_sub 24 ((8 * (i % 4))) (by omega)) ?_
        refine b_ishr dX12_feed_98 ?_
        refine b_sipush (v := 255) dX12_feed_99 (by decide +kernel) ?_
        refine b_iand dX12_feed_102 ?_
        refine b_istN (j := m + i) dX12_feed_103 (rfl) (by show _ < 600; omega) ?_
        refine b_aload_n dX12_feed_104 rfl rfl ?_
        refine b_dup dX12_feed_105 rfl ?_
        refine b_getI lf_X12_172 rfl dX12_feed_106 ?_
        refine b_topE (y := nI (m + i)) (by rw [up2_a _ _ _ _ (by decide)]; exact c3) ?_
        refine b_iconst (v := 1) dX12_feed_109 (by decide +kernel) ?_
        refine b_iadd dX12_feed_110 ?_
        refine b_topE (nI_add (m + i) 1) ?_
        refine b_putI lf_X12_172 lp_12_15 rfl dX12_feed_111 ?_
        refine b_incN (j := i) (lv' := [(0, _), (1, _), (2, _), (3, _), (4, _), (5, _), (6, _), (7, _)]) dX12_feed_114 rfl rfl (by decide) rfl rfl ?_
        refine b_goto (tgt := 23) dX12_feed_117 (by decide) ?_
        refine b_take 7 ?_
        refine ih (i + 1) (by omega) (by omega) _ (fun y p q => by rw [up2_f _ _ _ _ p, up2_f _ _ _ _ q]; exact c1 y p q) (fun j q => by rw [up2_k _ _ _ _ q, up2_a _ _ _ _ (by decide)]; exact c2 j q) (up2_s _ _ _ _) (fun j hj => by rw [up2_a _ _ _ _ (by decide), up2_k _ _ _ _ (by omega)]; exact c4 j hj) (fun j hj => ?_)
        rw [up2_a _ _ _ _ (by decide)]
        by_cases q : j = i
        · rw [q, up2_s, ← hw]; exact (byF_s w (i % 4)).2
        · rw [up2_k _ _ _ _ (by omega)]; exact c5 j (by omega)
      refine b_iload dX12_feed_23 rfl ?_
      refine b_bipush (v := 20) dX12_feed_25 (by decide +kernel) ?_
      refine b_icmp_ge (tgt := 120) dX12_feed_27 (by decide) (fun h27 => ?_) (fun h27 => ?_)
      · have e27 : 20 ≤ i := nn_le (a := 20) (b := i) (by omega) (by omega) h27
        have z : i = 20 := by omega
        subst z
        refine b_aload_n dX12_feed_120 rfl rfl ?_
        refine b_getI lf_X12_172 rfl dX12_feed_121 ?_
        refine b_topE (c3) ?_
        refine b_iret rfl (by decide) dX12_feed_124 ?_
        refine hq1 hm2 _ (fun y p q => (c1 y p q).trans (up2_f _ _ _ _ p)) (fun j p q => (c2 j p).trans (up2_k _ _ _ _ q)) ((c2 2 (by decide)).trans (up2_s _ _ _ _)) ⟨c3, fun i hi => ?_⟩
        by_cases q : i < m
        · rw [fd5_o q, c4 i q, up2_f _ _ _ _ (by decide)]; exact hT.2 i q
        · have := c5 (i - m) (by omega)
          rw [show m + (i - m) = i by omega] at this
          exact ⟨fd5_256 (by omega) (by omega), this⟩
      · have e27 : i < 20 := nn_nle (a := 20) (b := i) (by omega) (by omega) h27
        refine b_iload dX12_feed_30 rfl ?_
        refine b_iconst (v := 4) dX12_feed_32 (by decide +kernel) ?_
        refine b_icmp_ge (tgt := 40) dX12_feed_33 (by decide) (fun h33 => ?_) (fun h33 => ?_)
        · have e33 : 4 ≤ i := nn_le (a := 4) (b := i) (by omega) (by omega) h33
          refine b_iload dX12_feed_40 rfl ?_
          refine b_bipush (v := 8) dX12_feed_42 (by decide +kernel) ?_
          refine b_icmp_ge (tgt := 51) dX12_feed_44 (by decide) (fun h44 => ?_) (fun h44 => ?_)
          · have e44 : 8 ≤ i := nn_le (a := 8) (b := i) (by omega) (by omega) h44
            refine b_iload dX12_feed_51 rfl ?_
            refine b_bipush (v := 12) dX12_feed_53 (by decide +kernel) ?_
            refine b_icmp_ge (tgt := 62) dX12_feed_55 (by decide) (fun h55 => ?_) (fun h55 => ?_)
            · have e55 : 12 ≤ i := nn_le (a := 12) (b := i) (by omega) (by omega) h55
              refine b_iload dX12_feed_62 rfl ?_
              refine b_bipush (v := 16) dX12_feed_64 (by decide +kernel) ?_
              refine b_icmp_ge (tgt := 74) dX12_feed_66 (by decide) (fun h66 => ?_) (fun h66 => ?_)
              · have e66 : 16 ≤ i := nn_le (a := 16) (b := i) (by omega) (by omega) h66
                refine b_iload dX12_feed_74 rfl ?_
                exact K76 _ (fd5_4 (by omega) (by omega)) (by omega)
              · have e66 : i < 16 := nn_nle (a := 16) (b := i) (by omega) (by omega) h66
                refine b_iload dX12_feed_69 rfl ?_
                refine b_goto (tgt := 76) dX12_feed_71 (by decide) ?_
                exact K76 _ (fd5_3 (by omega) (by omega)) (by omega)
            · have e55 : i < 12 := nn_nle (a := 12) (b := i) (by omega) (by omega) h55
              refine b_iload_n dX12_feed_58 rfl rfl ?_
              refine b_goto (tgt := 76) dX12_feed_59 (by decide) ?_
              exact K76 _ (fd5_2 (by omega) (by omega)) (by omega)
          · have e44 : i < 8 := nn_nle (a := 8) (b := i) (by omega) (by omega) h44
            refine b_iload_n dX12_feed_47 rfl rfl ?_
            refine b_goto (tgt := 76) dX12_feed_48 (by decide) ?_
            exact K76 _ (fd5_1 (by omega) (by omega)) (by omega)
        · have e33 : i < 4 := nn_nle (a := 4) (b := i) (by omega) (by omega) h33
          refine b_iload_n dX12_feed_36 rfl rfl ?_
          refine b_goto (tgt := 76) dX12_feed_37 (by decide) ?_
          exact K76 _ (fd5_0 (by omega)) (by omega)
    refine b_iconst (v := 0) dX12_feed_20 (by decide +kernel) ?_
    refine b_istore (lv' := [(0, _), (1, _), (2, _), (3, _), (4, _), (5, _), (6, _)]) dX12_feed_21 (by decide) rfl rfl ?_
    exact L 0 (by decide) _ (fun _ _ _ => rfl) (fun _ _ => rfl) ((up2_k _ _ _ _ (by decide)).trans hT.1) (fun _ _ => rfl) (fun j hj => absurd hj (Nat.not_lt_zero _))
  · have e15 : 600 < ((m + 20)) := nn_nle (a := ((m + 20))) (b := 600) (by omega) (by omega) h15
    refine b_iconst (v := (-1)) dX12_feed_18 (by decide +kernel) ?_
    refine b_iret rfl (by decide) dX12_feed_19 ?_
    exact hq0 (by omega)
