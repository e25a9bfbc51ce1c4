/-- what begin has laid: of the people below i -/
def BgI (g : G2) (a t np i : Nat) (h : G2) : Prop := (∀ y, y ≠ a → y ≠ a + 4 → y ≠ a + 5 → y ≠ a + 6 → h y = g y) ∧ (∀ j, j ≠ 9 → h a j = g a j) ∧ (∀ p, p < i → h (a + 4) p = g (t + 2) p ∧ h (a + 5) p = g (t + 4) p ∧ h (a + 6) p = 0) ∧ ∀ p, p < 8 → bt (h a 9) p = (decide (p < i) && (decide (p < np) && (g (t + 1) p == 3)))
theorem BgI.st {g h : G2} {a t np i : Nat} {w : Int32} (ha : is_life a) (ht : is_town t) (hB : BgI g a t np i h) (hw : ∀ p, p < 8 → bt w p = (decide (p < i + 1) && (decide (p < np) && (g (t + 1) p == 3)))) : BgI g a t np (i + 1) (up2 (up2 (up2 (up2 h (a + 4) i (g (t + 2) i)) (a + 5) i (g (t + 4) i)) (a + 6) i 0) a 9 w) := by
  unfold is_life at ha
  obtain ⟨b1, b2, b3, b4⟩ := hB
  refine ⟨fun y p q r s => by rw [up2_f _ _ _ _ p, up2_f _ _ _ _ s, up2_f _ _ _ _ r, up2_f _ _ _ _ q]; exact b1 y p q r s, fun j q => by rw [up2_k _ _ _ _ q, up2_a _ _ _ _ (by omega), up2_a _ _ _ _ (by omega), up2_a _ _ _ _ (by omega)]; exact b2 j q, fun p hp => ?_, fun p hp => by rw [up2_s]; exact hw p hp⟩
  rw [up2_a _ _ _ _ (show a + 4 ≠ a by omega), up2_a _ _ _ _ (show a + 5 ≠ a by omega), up2_a _ _ _ _ (show a + 6 ≠ a by omega), up2_a _ _ _ _ (show a + 4 ≠ a + 6 by omega), up2_a _ _ _ _ (show a + 4 ≠ a + 5 by omega), up2_a _ _ _ _ (show a + 5 ≠ a + 6 by omega)]
  by_cases z : p = i
  · rw [z, up2_s, up2_s, up2_s]; exact ⟨rfl, rfl, rfl⟩
  · rw [up2_k _ _ _ _ z, up2_k _ _ _ _ z, up2_k _ _ _ _ z, up2_a _ _ _ _ (show a + 5 ≠ a + 4 by omega), up2_a _ _ _ _ (show a + 6 ≠ a + 5 by omega), up2_a _ _ _ _ (show a + 6 ≠ a + 4 by omega)]
    exact b3 p (by omega)
theorem bt_shl1 {i p : Nat} (hi : i < 32) (hp : p < 32) : bt (1 <<< (nI i &&& 31)) p = decide (p = i) := by
  rw [b_shl i hi 1 hp, b_1]
  by_cases h : p = i
  · subst h
    rw [decide_eq_true (Nat.le_refl _), decide_eq_true (Nat.sub_self _), decide_eq_true rfl]; rfl
  · rw [decide_eq_false h]
    by_cases q : i ≤ p
    · rw [decide_eq_false (show ¬ p - i = 0 by omega), Bool.and_false]
    · rw [decide_eq_false q, Bool.false_and]
theorem c_X5_begin {E : En} {d : Nat} {Q : QT} {X : XT} {g : G2} {a t np nf : Nat} (ha : is_life a) (ht : is_town t) (hn : g t 0 = nI np) (h8 : np ≤ 8) (hf : g (t + 6) 2 = nI nf) (h6 : nf ≤ 6) (hq : ∀ h, (∀ y, ¬ (a ≤ y ∧ y ≤ a + 9) → h y = g y) → (∀ j, (j = 6 ∨ j = 7 ∨ j = 8 ∨ j = 4) → h a j = 0) → h a 3 = 0 → h a 5 = g t 6 → h a 10 = -1 → (∀ p, p < 8 → h (a + 4) p = g (t + 2) p ∧ h (a + 5) p = g (t + 4) p ∧ h (a + 6) p = 0) → (∀ p, p < 8 → bt (h a 9) p = (decide (p < np) && (g (t + 1) p == 3))) → h (a + 7) 2 = nI nf → (∀ i, i < nf → h (a + 8) i = g (t + 7) i ∧ h (a + 9) i = g (t + 8) i) → Q none h) : M E md_X5_begin (d + 2) [.ref a, .ref t] g Q X := by
  refine M.of _ rfl rfl (Nat.le_of_ble_eq_true rfl) ?_
  have hl : a = 31 ∨ a = 41 ∨ a = 51 := ha
  have hu5 : t = 5 ∨ t = 18 := ht
  refine b_aload_n dX5_begin_0 rfl rfl ?_
  refine b_iconst (v := 0) dX5_begin_1 (by decide +kernel) ?_
  refine b_putI lf_X5_21 lp_5_3 (life_c ha) dX5_begin_2 ?_
  refine b_aload_n dX5_begin_5 rfl rfl ?_
  refine b_iconst (v := 0) dX5_begin_6 (by decide +kernel) ?_
  refine b_putI lf_X5_25 lp_5_4 (life_c ha) dX5_begin_7 ?_
  refine b_aload_n dX5_begin_10 rfl rfl ?_
  refine b_aload_n dX5_begin_11 rfl rfl ?_
  refine b_getI lf_X5_62 (town_c ht) dX5_begin_12 ?_
  refine b_topE (y := (g t 6)) (by rw [up2_a _ _ _ _ (by omega), up2_a _ _ _ _ (by omega)]) ?_
  refine b_putI lf_X5_28 lp_5_5 (life_c ha) dX5_begin_15 ?_
  refine b_aload_n dX5_begin_18 rfl rfl ?_
  refine b_iconst (v := 0) dX5_begin_19 (by decide +kernel) ?_
  refine b_putI lf_X5_31 lp_5_6 (life_c ha) dX5_begin_20 ?_
  refine b_aload_n dX5_begin_23 rfl rfl ?_
  refine b_iconst (v := 0) dX5_begin_24 (by decide +kernel) ?_
  refine b_putI lf_X5_34 lp_5_7 (life_c ha) dX5_begin_25 ?_
  refine b_aload_n dX5_begin_28 rfl rfl ?_
  refine b_iconst (v := 0) dX5_begin_29 (by decide +kernel) ?_
  refine b_putI lf_X5_37 lp_5_8 (life_c ha) dX5_begin_30 ?_
  refine b_aload_n dX5_begin_33 rfl rfl ?_
  refine b_iconst (v := 0) dX5_begin_34 (by decide +kernel) ?_
  refine b_putI lf_X5_40 lp_5_9 (life_c ha) dX5_begin_35 ?_
  refine b_aload_n dX5_begin_38 rfl rfl ?_
  refine b_iconst (v := (-1)) dX5_begin_39 (by decide +kernel) ?_
  refine b_putI lf_X5_43 lp_5_10 (life_c ha) dX5_begin_40 ?_
  have y1 : ∀ y, y ≠ a → up2 (up2 (up2 (up2 (up2 (up2 (up2 (up2 g a 3 0) a 4 0) a 5 (g t 6)) a 6 0) a 7 0) a 8 0) a 9 0) a 10 (-1) y = g y := fun y q => by rw [up2_f _ _ _ _ q, up2_f _ _ _ _ q, up2_f _ _ _ _ q, up2_f _ _ _ _ q, up2_f _ _ _ _ q, up2_f _ _ _ _ q, up2_f _ _ _ _ q, up2_f _ _ _ _ q]
  have y2 : ∀ j, (j = 6 ∨ j = 7 ∨ j = 8 ∨ j = 4) → up2 (up2 (up2 (up2 (up2 (up2 (up2 (up2 g a 3 0) a 4 0) a 5 (g t 6)) a 6 0) a 7 0) a 8 0) a 9 0) a 10 (-1) a j = 0 := fun j q => by rcases q with rfl | rfl | rfl | rfl <;> simp [up2]
  have y3 : up2 (up2 (up2 (up2 (up2 (up2 (up2 (up2 g a 3 0) a 4 0) a 5 (g t 6)) a 6 0) a 7 0) a 8 0) a 9 0) a 10 (-1) a 3 = 0 := by simp [up2]
  have y4 : up2 (up2 (up2 (up2 (up2 (up2 (up2 (up2 g a 3 0) a 4 0) a 5 (g t 6)) a 6 0) a 7 0) a 8 0) a 9 0) a 10 (-1) a 5 = g t 6 := by simp [up2]
  have y5 : up2 (up2 (up2 (up2 (up2 (up2 (up2 (up2 g a 3 0) a 4 0) a 5 (g t 6)) a 6 0) a 7 0) a 8 0) a 9 0) a 10 (-1) a 10 = -1 := by simp [up2]
  have y6 : up2 (up2 (up2 (up2 (up2 (up2 (up2 (up2 g a 3 0) a 4 0) a 5 (g t 6)) a 6 0) a 7 0) a 8 0) a 9 0) a 10 (-1) a 9 = 0 := by simp [up2]
  have hf : up2 (up2 (up2 (up2 (up2 (up2 (up2 (up2 g a 3 0) a 4 0) a 5 (g t 6)) a 6 0) a 7 0) a 8 0) a 9 0) a 10 (-1) (t + 6) 2 = nI nf := by rw [y1 (t + 6) (by omega)]; exact hf
  have hn : up2 (up2 (up2 (up2 (up2 (up2 (up2 (up2 g a 3 0) a 4 0) a 5 (g t 6)) a 6 0) a 7 0) a 8 0) a 9 0) a 10 (-1) t 0 = nI np := by rw [y1 t (by omega)]; exact hn
  generalize up2 (up2 (up2 (up2 (up2 (up2 (up2 (up2 g a 3 0) a 4 0) a 5 (g t 6)) a 6 0) a 7 0) a 8 0) a 9 0) a 10 (-1) = g1 at y1 y2 y3 y4 y5 y6 hf hn ⊢
  refine b_iconst (v := 0) dX5_begin_43 (by decide +kernel) ?_
  refine b_istore_n (lv' := [(0, _), (1, _), (2, _)]) dX5_begin_44 rfl (by decide) rfl rfl ?_
  have K118 : ∀ h, BgI g1 a t np 8 h → B E md_X5_begin (d + 2) Q X 118 [(0, .ref a), (1, .ref t), (2, .int (nI 8))] [] h 0 := by
    intro h hB
    refine b_aload_n dX5_begin_118 rfl rfl ?_
    refine b_getR (b := (a + 7)) lf_X5_58 (life_c ha) (life_r14 ha) dX5_begin_119 ?_
    refine b_aload_n dX5_begin_122 rfl rfl ?_
    refine b_getR (b := (t + 6)) lf_X5_73 (town_c ht) (town_r7 ht) dX5_begin_123 ?_
    refine b_callV (As := [_]) (st := []) dX5_begin_126 lk_X5_74 lm_X1_copy lv_X1_copy (feuds_c (life_feuds ha)) (by decide) rfl rfl rfl (Nat.le_of_ble_eq_true rfl) (Nat.le_refl _) (by decide) ?_
    refine c_X1_copy (n := nf) (life_feuds ha) (town_feuds ht) (by omega) (by rw [hB.1 (t + 6) (by omega) (by omega) (by omega) (by omega)]; exact hf) h6 (fun h2 F2 c0 c1 c2 c3 => ?_)
    refine b_vret rfl (by decide) dX5_begin_129 ?_
    have e2 : ∀ y, y ≠ a + 7 → y ≠ a + 8 → y ≠ a + 9 → h2 y = h y := fun y p q r => F2 y (by simp; omega)
    refine hq h2 (fun y q => by rw [e2 y (by omega) (by omega) (by omega), hB.1 y (by omega) (by omega) (by omega) (by omega)]; exact y1 y (by omega)) (fun j q => ?_) ?_ ?_ ?_ (fun p hp => ?_) (fun p hp => ?_) c1 (fun i hi => ?_)
    · rw [e2 a (by omega) (by omega) (by omega), hB.2.1 _ (by omega)]; exact y2 j q
    · rw [e2 a (by omega) (by omega) (by omega), hB.2.1 _ (by decide)]; exact y3
    · rw [e2 a (by omega) (by omega) (by omega), hB.2.1 _ (by decide)]; exact y4
    · rw [e2 a (by omega) (by omega) (by omega), hB.2.1 _ (by decide)]; exact y5
    · have := hB.2.2.1 p hp
      rw [e2 (a + 4) (by omega) (by omega) (by omega), e2 (a + 5) (by omega) (by omega) (by omega), e2 (a + 6) (by omega) (by omega) (by omega), ← y1 (t + 2) (by omega), ← y1 (t + 4) (by omega)]
      exact this
    · rw [e2 a (by omega) (by omega) (by omega), hB.2.2.2 p hp, decide_eq_true hp, Bool.true_and, y1 (t + 1) (by omega)]
    · have d1 : h2 (a + 8) i = h (t + 7) i := c2 i hi
      have d2 : h2 (a + 9) i = h (t + 8) i := c3 i hi
      rw [d1, d2, hB.1 (t + 7) (by omega) (by omega) (by omega) (by omega), hB.1 (t + 8) (by omega) (by omega) (by omega) (by omega), y1 (t + 7) (by omega), y1 (t + 8) (by omega)]
      exact ⟨rfl, rfl⟩
  have L : ∀ i, i ≤ 8 → ∀ h : G2, BgI g1 a t np i h → B E md_X5_begin (d + 2) Q X 45 [(0, .ref a), (1, .ref t), (2, .int (nI i))] [] h 0 := by
    refine lp_up (fun i hi ih h hB => ?_)
    obtain ⟨b1, b2, b3, b4⟩ := id hB
    have K112 : ∀ w : Int32, (∀ p, p < 8 → bt w p = (decide (p < i + 1) && (decide (p < np) && (g1 (t + 1) p == 3)))) → i < 8 → B E md_X5_begin (d + 2) Q X 112 [(0, .ref a), (1, .ref t), (2, .int (nI i))] [] (up2 (up2 (up2 (up2 h (a + 4) i (g1 (t + 2) i)) (a + 5) i (g1 (t + 4) i)) (a + 6) i 0) a 9 w) 0 := by
      intro w hw hi8
      refine b_incN (j := i) (lv' := [(0, _), (1, _), (2, _)]) dX5_begin_112 rfl rfl (by decide) rfl rfl ?_
      refine b_goto (tgt := 45) dX5_begin_115 (by decide) ?_
      exact ih (i + 1) (by omega) (by omega) _ (BgI.st ha ht hB hw)
    refine b_iload_n dX5_begin_45 rfl rfl ?_
    refine b_bipush (v := 8) dX5_begin_46 (by decide +kernel) ?_
    refine b_icmp_ge (tgt := 118) dX5_begin_48 (by decide) (fun h48 => ?_) (fun h48 => ?_)
    · have e48 : 8 ≤ i := nn_le (a := 8) (b := i) (by omega) (by omega) h48
      have z : i = 8 := by omega
      subst z
      exact K118 h ⟨b1, b2, b3, b4⟩
    · have e48 : i < 8 := nn_nle (a := 8) (b := i) (by omega) (by omega) h48
      refine b_aload_n dX5_begin_51 rfl rfl ?_
      refine b_getR (b := (a + 4)) lf_X5_46 (life_c ha) (life_r11 ha) dX5_begin_52 ?_
      refine b_iload_n dX5_begin_55 rfl rfl ?_
      refine b_aload_n dX5_begin_56 rfl rfl ?_
      refine b_getR (b := (t + 2)) lf_X5_65 (town_c ht) (town_r2 ht) dX5_begin_57 ?_
      refine b_iload_n dX5_begin_60 rfl rfl ?_
      refine b_ildN (j := i) dX5_begin_61 (rfl) (by rw [(town_n2 ht)]; omega) ?_
      refine b_topE (y := (g1 (t + 2) i)) (congrFun (b1 (t + 2) (by omega) (by omega) (by omega) (by omega)) i) ?_
      refine b_istN (j := i) dX5_begin_62 (rfl) (by rw [(life_n4 ha)]; omega) ?_
      refine b_aload_n dX5_begin_63 rfl rfl ?_
      refine b_getR (b := (a + 5)) lf_X5_49 (life_c ha) (life_r12 ha) dX5_begin_64 ?_
      refine b_iload_n dX5_begin_67 rfl rfl ?_
      refine b_aload_n dX5_begin_68 rfl rfl ?_
      refine b_getR (b := (t + 4)) lf_X5_66 (town_c ht) (town_r4 ht) dX5_begin_69 ?_
      refine b_iload_n dX5_begin_72 rfl rfl ?_
      refine b_ildN (j := i) dX5_begin_73 (rfl) (by rw [(town_n4 ht)]; omega) ?_
      refine b_topE (y := (g1 (t + 4) i)) ((up2_a _ _ _ _ (by omega) _).trans (congrFun (b1 (t + 4) (by omega) (by omega) (by omega) (by omega)) i)) ?_
      refine b_istN (j := i) dX5_begin_74 (rfl) (by rw [(life_n5 ha)]; omega) ?_
      refine b_aload_n dX5_begin_75 rfl rfl ?_
      refine b_getR (b := (a + 6)) lf_X5_52 (life_c ha) (life_r13 ha) dX5_begin_76 ?_
      refine b_iload_n dX5_begin_79 rfl rfl ?_
      refine b_iconst (v := 0) dX5_begin_80 (by decide +kernel) ?_
      refine b_istN (j := i) dX5_begin_81 (rfl) (by rw [(life_n6 ha)]; omega) ?_
      refine b_iload_n dX5_begin_82 rfl rfl ?_
      refine b_aload_n dX5_begin_83 rfl rfl ?_
      refine b_getI lf_X5_67 (town_c ht) dX5_begin_84 ?_
      refine b_topE (y := nI np) (by rw [up2_a _ _ _ _ (by omega), up2_a _ _ _ _ (by omega), up2_a _ _ _ _ (by omega), b1 t (by omega) (by omega) (by omega) (by omega)]; exact hn) ?_
      refine b_icmp_ge (tgt := 112) dX5_begin_87 (by decide) (fun h87 => ?_) (fun h87 => ?_)
      · have e87 : np ≤ i := nn_le (a := np) (b := i) (by omega) (by omega) h87
        have hw : ∀ p, p < 8 → bt (h a 9) p = (decide (p < i + 1) && (decide (p < np) && (g1 (t + 1) p == 3))) := by
          intro p hp
          rw [b4 p hp]
          by_cases z : p = i
          · subst z
            rw [decide_eq_false (show ¬ p < np by omega)]; simp
          · rw [show decide (p < i + 1) = decide (p < i) from decide_eq_decide.mpr (by omega)]
        have y := K112 _ hw (by omega)
        rw [up2_i (by rw [up2_a _ _ _ _ (by omega), up2_a _ _ _ _ (by omega), up2_a _ _ _ _ (by omega)])] at y
        exact y
      · have e87 : i < np := nn_nle (a := np) (b := i) (by omega) (by omega) h87
        refine b_aload_n dX5_begin_90 rfl rfl ?_
        refine b_getR (b := (t + 1)) lf_X5_70 (town_c ht) (town_r1 ht) dX5_begin_91 ?_
        refine b_iload_n dX5_begin_94 rfl rfl ?_
        refine b_ildN (j := i) dX5_begin_95 (rfl) (by rw [(town_n1 ht)]; omega) ?_
        refine b_topE (y := (g1 (t + 1) i)) (by rw [up2_a _ _ _ _ (by omega), up2_a _ _ _ _ (by omega), up2_a _ _ _ _ (by omega), b1 (t + 1) (by omega) (by omega) (by omega) (by omega)]) ?_
        refine b_iconst (v := 3) dX5_begin_96 (by decide +kernel) ?_
        refine b_icmp_ne (tgt := 112) dX5_begin_97 (by decide) (fun h97 => ?_) (fun h97 => ?_)
        · have hw : ∀ p, p < 8 → bt (h a 9) p = (decide (p < i + 1) && (decide (p < np) && (g1 (t + 1) p == 3))) := by
            intro p hp
            rw [b4 p hp]
            by_cases z : p = i
            · subst z
              rw [beq_eq_false_iff_ne.mpr h97, Bool.and_false]; simp
            · rw [show decide (p < i + 1) = decide (p < i) from decide_eq_decide.mpr (by omega)]
          have y := K112 _ hw (by omega)
          rw [up2_i (by rw [up2_a _ _ _ _ (by omega), up2_a _ _ _ _ (by omega), up2_a _ _ _ _ (by omega)])] at y
          exact y
        · refine b_aload_n dX5_begin_100 rfl rfl ?_
          refine b_dup dX5_begin_101 rfl ?_
          refine b_getI lf_X5_40 (life_c ha) dX5_begin_102 ?_
          refine b_topE (y := (h a 9)) (by rw [up2_a _ _ _ _ (by omega), up2_a _ _ _ _ (by omega), up2_a _ _ _ _ (by omega)]) ?_
          refine b_iconst (v := 1) dX5_begin_105 (by decide +kernel) ?_
          refine b_iload_n dX5_begin_106 rfl rfl ?_
          refine b_ishl dX5_begin_107 ?_
          refine b_ior dX5_begin_108 ?_
          refine b_putI lf_X5_40 lp_5_9 (life_c ha) dX5_begin_109 ?_
          have hw : ∀ p, p < 8 → bt (h a 9 ||| (1 <<< (nI i &&& 31))) p = (decide (p < i + 1) && (decide (p < np) && (g1 (t + 1) p == 3))) := by
            intro p hp
            rw [b_or, bt_shl1 (by omega) (by omega), b4 p hp]
            by_cases z : p = i
            · subst z
              rw [decide_eq_true rfl, decide_eq_true (Nat.lt_succ_self p), decide_eq_true e87, h97]; simp
            · rw [decide_eq_false z, Bool.or_false, show decide (p < i + 1) = decide (p < i) from decide_eq_decide.mpr (by omega)]
          have y := K112 _ hw (by omega)
          exact y
  exact L 0 (by decide) g1 ⟨fun _ _ _ _ _ => rfl, fun _ _ => rfl, fun p hp => absurd hp (Nat.not_lt_zero _), fun p _ => by rw [y6, b_0]; rfl⟩
/-! the town that a text tells -/
def cdN (c : List Int32) (i : Nat) : Int32 := c.getD (c.length - 1 - i) 0
theorem cdN_o {x : Int32} {r : List Int32} {i : Nat} (h : i < r.length) : cdN (x :: r) i = cdN r i := by
  unfold cdN
  rw [List.length_cons, show r.length + 1 - 1 - i = r.length - 1 - i + 1 by omega, List.getD_cons_succ]
theorem cdN_s {x : Int32} {r : List Int32} : cdN (x :: r) r.length = x := by
  unfold cdN
  rw [List.length_cons, show r.length + 1 - 1 - r.length = 0 by omega, List.getD_cons_zero]
theorem rpc_cd {f : Nat → Int32} : ∀ {c : List Int32}, rpc f c → ∀ i, i < c.length → f i = cdN c i
  | [], _, i, hi => absurd hi (Nat.not_lt_zero _)
  | x :: r, h, i, hi => by
    by_cases q : i = r.length
    · rw [q, cdN_s]; exact h.1
    · have hi : i < r.length + 1 := hi
      rw [cdN_o (by omega)]; exact rpc_cd h.2 i (by omega)
theorem rpC_cd {f : Nat → Int32} : ∀ {c : List Int32}, rpC f c → ∀ i, i < c.length → f (600 + i) = trC (cdN c i)
  | [], _, i, hi => absurd hi (Nat.not_lt_zero _)
  | x :: r, h, i, hi => by
    by_cases q : i = r.length
    · rw [q, cdN_s]; exact h.1
    · have hi : i < r.length + 1 := hi
      rw [cdN_o (by omega)]; exact rpC_cd h.2 i (by omega)
theorem cdN_mem : ∀ {c : List Int32} {i : Nat}, i < c.length → cdN c i ∈ c
  | [], i, hi => absurd hi (Nat.not_lt_zero _)
  | x :: r, i, hi => by
    by_cases q : i = r.length
    · rw [q, cdN_s]; exact List.mem_cons_self
    · have hi : i < r.length + 1 := hi
      rw [cdN_o (by omega)]; exact List.mem_cons_of_mem _ (cdN_mem (by omega))
def twG (s : TxS) : G2 := fun r i => if r = 2 then ordR (rkN (s.H 1) s.np) (fun _ => 0) s.np i else if r = 3 then trC (cdN s.c i) else nI (s.H r i)
def twT (s : TxS) : TD := (s.np, s.c.length, s.no, s.nf, twG s)
theorem twG_o {s : TxS} {r i : Nat} (h2 : r ≠ 2) (h3 : r ≠ 3) : twG s r i = nI (s.H r i) := by unfold twG; rw [if_neg h2, if_neg h3]
theorem twG_3 {s : TxS} {i : Nat} : twG s 3 i = trC (cdN s.c i) := rfl
/-- a life that begins -/
def s0M (T : TD) : LfS := (0, t_fn T, fun r i => if r = 3 then (if i = 1 then t_g T 9 0 else 0) else if r = 4 then t_g T 5 i else if r = 5 then t_g T 6 i else if r = 6 then t_g T 7 i else if r = 7 then t_g T 8 i else 0)
def begF (T : TD) (F : FS) : FS := (s0M T, 0, f_A F, 0, f_g F)
/-! birthdays -/
theorem pig : ∀ (n : Nat) (r : Nat → Nat), (∀ p, p < n → r p < n) → (∀ p q, p < n → q < n → r p = r q → p = q) → ∀ i, i < n → ∃ p, p < n ∧ r p = i
  | 0, r, _, _, i, hi => absurd hi (Nat.not_lt_zero _)
  | n + 1, r, h1, h2, i, hi => by
    by_cases z : i = r n
    · exact ⟨n, Nat.lt_succ_self n, z.symm⟩
    · have hk := h1 n (Nat.lt_succ_self n)
      obtain ⟨p, p1, p2⟩ := pig n (fun p => if r n < r p then r p - 1 else r p) (fun p hp => by
        have a := h1 p (by omega)
        have b : r p ≠ r n := fun e => absurd (h2 p n (by omega) (by omega) e) (by omega)
        show (if r n < r p then r p - 1 else r p) < n
        split <;> omega) (fun p q hp hq e => by
        have b1 : r p ≠ r n := fun e => absurd (h2 p n (by omega) (by omega) e) (by omega)
        have b2 : r q ≠ r n := fun e => absurd (h2 q n (by omega) (by omega) e) (by omega)
        have e : (if r n < r p then r p - 1 else r p) = (if r n < r q then r q - 1 else r q) := e
        refine h2 p q (by omega) (by omega) ?_
        split at e <;> split at e <;> omega) (if r n < i then i - 1 else i) (by split <;> omega)
      refine ⟨p, by omega, ?_⟩
      have b1 : r p ≠ r n := fun e => absurd (h2 p n (by omega) (by omega) e) (by omega)
      have p2 : (if r n < r p then r p - 1 else r p) = (if r n < i then i - 1 else i) := p2
      split at p2 <;> split at p2 <;> omega
theorem cntN_ss {P R : Nat → Bool} : ∀ {n j : Nat}, (∀ i, i < n → P i = true → R i = true) → j < n → P j = false → R j = true → cntN P n < cntN R n
  | 0, j, _, hj, _, _ => absurd hj (Nat.not_lt_zero _)
  | n + 1, j, h, hj, hp, hr => by
    have hle : ∀ m, m ≤ n → cntN P m ≤ cntN R m := by
      intro m
      induction m with
      | zero => intro _; exact Nat.le_refl _
      | succ m ih =>
        intro hm
        have := ih (by omega)
        have := h m (by omega)
        rw [cntN, cntN]
        split <;> split <;> first | omega | (rename_i a b; exact absurd (this a) b)
    rw [cntN, cntN]
    by_cases q : j = n
    · subst q
      have := hle j (Nat.le_refl _)
      rw [hp, hr]
      simp only [Bool.false_eq_true, if_false, if_true]
      omega
    · have := cntN_ss (n := n) (fun i hi => h i (by omega)) (by omega : j < n) hp hr
      have z := h n (by omega)
      split <;> split <;> first | omega | (rename_i a b; exact absurd (z a) b)
theorem rkN_lt {H : Nat → Nat} {np p : Nat} (hp : p < np) : rkN H np p < np := cntN_lt hp (decide_eq_false (Nat.lt_irrefl _))
theorem rkN_in {H : Nat → Nat} {np p q : Nat} (hd : ∀ p q, p < np → q < np → H p = H q → p = q) (hp : p < np) (hq : q < np) (e : rkN H np p = rkN H np q) : p = q := by
  refine hd p q hp hq ?_
  have key : ∀ p q, p < np → q < np → H p < H q → rkN H np p < rkN H np q := fun p q hp hq h => cntN_ss (j := p) (fun i _ a => decide_eq_true (Nat.lt_trans (of_decide_eq_true a) h)) hp (decide_eq_false (Nat.lt_irrefl _)) (decide_eq_true h)
  rcases Nat.lt_trichotomy (H p) (H q) with h | h | h
  · have := key p q hp hq h; omega
  · exact h
  · have := key q p hq hp h; omega
theorem ordR_at {r : Nat → Nat} {f : Nat → Int32} : ∀ {m p : Nat}, (∀ p q, p < m → q < m → r p = r q → p = q) → p < m → ordR r f m (r p) = nI p
  | 0, p, _, hp => absurd hp (Nat.not_lt_zero _)
  | m + 1, p, h, hp => by
    simp only [ordR]
    by_cases q : r p = r m
    · rw [if_pos q, h p m hp (Nat.lt_succ_self m) q]
    · rw [if_neg q]
      refine ordR_at (fun a b ha hb => h a b (by omega) (by omega)) ?_
      by_cases z : p = m
      · exact absurd (by rw [z]) q
      · omega
theorem ord_ok {H : Nat → Nat} {np : Nat} (hd : ∀ p q, p < np → q < np → H p = H q → p = q) {i : Nat} (hi : i < np) : ∃ p, p < np ∧ ∀ f, ordR (rkN H np) f np i = nI p := by
  obtain ⟨p, p1, p2⟩ := pig np (rkN H np) (fun p hp => rkN_lt hp) (fun p q hp hq e => rkN_in hd hp hq e) i hi
  exact ⟨p, p1, fun f => by rw [← p2]; exact ordR_at (fun p q hp hq e => rkN_in hd hp hq e) p1⟩
/-! the rule can be reckoned -/
theorem trC_push {x : Int32} (ho : okC x) (h : 0 ≤ x ∨ x ≤ -110) : -20 < trC x ∧ (¬ 0 ≤ trC x → ∃ j, j < 7 ∧ -1 - trC x = nI j) := by
  rcases ho with e | e | e | e | e | e | e | e | e | e | e | e | e | e | e | e | e
  · have z : trC x = x := if_pos e
    rw [z]
    refine ⟨?_, fun q => absurd e q⟩
    rw [Int32.lt_iff_toInt_lt]
    rw [Int32.le_iff_toInt_le] at e
    have e : (0 : Int32).toInt ≤ x.toInt := e
    rw [show (0 : Int32).toInt = 0 from by decide] at e
    rw [show (-20 : Int32).toInt = -20 from by decide +kernel]
    omega
  · subst e; exact ⟨by decide +kernel, fun _ => ⟨3, by decide, by decide +kernel⟩⟩
  · subst e; exact ⟨by decide +kernel, fun _ => ⟨0, by decide, by decide +kernel⟩⟩
  · subst e; exact ⟨by decide +kernel, fun _ => ⟨1, by decide, by decide +kernel⟩⟩
  · subst e; exact ⟨by decide +kernel, fun _ => ⟨2, by decide, by decide +kernel⟩⟩
  · subst e; exact ⟨by decide +kernel, fun _ => ⟨4, by decide, by decide +kernel⟩⟩
  · subst e; exact ⟨by decide +kernel, fun _ => ⟨5, by decide, by decide +kernel⟩⟩
  · subst e; exact ⟨by decide +kernel, fun _ => ⟨6, by decide, by decide +kernel⟩⟩
  all_goals (subst e; exact absurd h (by decide +kernel))
theorem trC_op {x : Int32} (ho : okC x) (h : ¬ (0 ≤ x ∨ x ≤ -110)) : ¬ -20 < trC x ∧ (trC x = -28 ↔ x = -109) := by
  rcases ho with e | e | e | e | e | e | e | e | e | e | e | e | e | e | e | e | e
  · exact absurd (Or.inl e) h
  all_goals (subst e; first | exact absurd (by decide +kernel) h | exact ⟨by decide +kernel, by decide +kernel⟩)
theorem hgt_ev {ask : Nat → Int32} {c : Nat → Int32} : ∀ {l : List Int32} {h : Nat}, (∀ x ∈ l, okC x) → hgt l = some h → (∀ i, i < l.length → c i = trC (cdN l i)) → (evM ask c l.length).length = h ∧ ∀ k, k < l.length → (-20 < c k → (evM ask c k).length < 64 ∧ (¬ 0 ≤ c k → ∃ j, j < 7 ∧ -1 - c k = nI j)) ∧ (c k = -28 → 1 ≤ (evM ask c k).length) ∧ (¬ -20 < c k → ¬ c k = -28 → 2 ≤ (evM ask c k).length)
  | [], h, _, hh, _ => by cases hh; exact ⟨rfl, fun k hk => absurd hk (Nat.not_lt_zero _)⟩
  | x :: r, h, ho, hh, hc => by
    simp only [hgt] at hh
    cases hr : hgt r with
    | none => rw [hr] at hh; cases hh
    | some m =>
      rw [hr] at hh
      simp only at hh
      obtain ⟨i1, i2⟩ := hgt_ev (ask := ask) (c := c) (l := r) (h := m) (fun y hy => ho y (List.mem_cons_of_mem _ hy)) hr (fun i hi => by rw [hc i (by simp only [List.length_cons]; omega), cdN_o hi])
      have hx := ho x List.mem_cons_self
      have cx : c r.length = trC x := by rw [hc r.length (by simp only [List.length_cons]; omega), cdN_s]
      have ev : evM ask c (x :: r).length = stM ask (trC x) (evM ask c r.length) := by show stM ask (c r.length) (evM ask c r.length) = _; rw [cx]
      rw [ev]
      have step : ∀ k, k < (x :: r).length → k ≠ r.length → k < r.length := fun k hk hne => by simp only [List.length_cons] at hk; omega
      have i0 := i1
      generalize evM ask c r.length = E at i1 ev
      by_cases c1 : 0 ≤ x ∨ x ≤ -110
      · rw [if_pos c1] at hh
        obtain ⟨t1, t2⟩ := trC_push hx c1
        by_cases c2 : m < 64
        · rw [if_pos c2] at hh
          cases hh
          refine ⟨?_, fun k hk => ?_⟩
          · unfold stM; rw [if_pos t1, List.length_cons, i1]
          · by_cases z : k = r.length
            · subst z; rw [cx, i0]; exact ⟨fun _ => ⟨c2, t2⟩, fun q => absurd t1 (by rw [q]; decide +kernel), fun q => absurd t1 q⟩
            · exact i2 k (step k hk z)
        · rw [if_neg c2] at hh; cases hh
      · rw [if_neg c1] at hh
        obtain ⟨t1, t2⟩ := trC_op hx c1
        by_cases c3 : x = -109
        · rw [if_pos c3] at hh
          by_cases c4 : 1 ≤ m
          · rw [if_pos c4] at hh
            cases hh
            refine ⟨?_, fun k hk => ?_⟩
            · unfold stM; rw [if_neg t1, if_pos (t2.mpr c3)]
              cases E with
              | nil => rw [← i1] at c4; exact absurd c4 (by decide)
              | cons y E => exact i1
            · by_cases z : k = r.length
              · subst z; rw [cx, i0]; exact ⟨fun q => absurd q t1, fun _ => c4, fun _ q => absurd (t2.mpr c3) q⟩
              · exact i2 k (step k hk z)
          · rw [if_neg c4] at hh; cases hh
        · rw [if_neg c3] at hh
          by_cases c4 : 2 ≤ m
          · rw [if_pos c4] at hh
            cases hh
            refine ⟨?_, fun k hk => ?_⟩
            · unfold stM; rw [if_neg t1, if_neg (fun q => c3 (t2.mp q))]
              match E, i1 with
              | [], i1 => rw [← i1] at c4; exact absurd c4 (by decide)
              | [y], i1 => rw [← i1] at c4; exact absurd c4 (by simp)
              | y :: z :: E, i1 =>
                simp only [List.length_cons] at i1 ⊢
                omega
            · by_cases z : k = r.length
              · subst z; rw [cx, i0]; exact ⟨fun q => absurd q t1, fun q => absurd (t2.mp q) c3, fun _ _ => c4⟩
              · exact i2 k (step k hk z)
          · rw [if_neg c4] at hh; cases hh
theorem okT_tw {f : Nat → Nat} {n : Nat} {s : TxS} (hO : okLs f n s) : okT (twT s) := by
  obtain ⟨a1, a2, a3, a4, a5, a6, a7, a8, a9, a10, a11, a12, a13, a14⟩ := hO
  refine ⟨a2, fun ask => ?_, fun i hi => ?_⟩
  · cases hd : s.ds with
    | false =>
      have z := a10 hd
      show wfE ask (twG s 3) s.c.length
      rw [z]
      exact ⟨fun k hk => absurd hk (Nat.not_lt_zero _), fun q => absurd q (Nat.lt_irrefl _)⟩
    | true =>
      obtain ⟨h1, h2⟩ := hgt_ev (ask := ask) (c := twG s 3) a12 (a11 hd) (fun i hi => rfl)
      exact ⟨h2, fun _ q => by
        have h1 : (evM ask (twG s 3) s.c.length).length = 1 := h1
        have q : evM ask (twG s 3) s.c.length = [] := q
        rw [q] at h1; cases h1⟩
  · obtain ⟨p, p1, p2⟩ := ord_ok (H := s.H 1) a6 hi
    exact ⟨p, p1, p2 _⟩
theorem okF_beg {f : Nat → Nat} {n : Nat} {s : TxS} {F : FS} (hO : okLs f n s) : okF (twT s) (begF (twT s) F) := by
  obtain ⟨a1, a2, a3, a4, a5, a6, a7, a8, a9, a10, a11, a12, a13, a14⟩ := hO
  refine ⟨by show 0 ≤ 40; decide, by show 0 ≤ 8; decide, fun i hi => ?_, fun i hi => absurd hi (Nat.not_lt_zero _), fun i hi => absurd hi (Nat.not_lt_zero _)⟩
  have hi : i ≤ 0 := hi
  have e : f_at (begF (twT s) F) i = s0M (twT s) := if_pos (by show i = 0; omega)
  rw [e]
  refine ⟨⟨by show 0 ≤ 400; decide, fun i hi => absurd hi (Nat.not_lt_zero _), fun i hi => absurd hi (Nat.not_lt_zero _), fun p hp => ⟨s.H 6 p, ?_, rfl⟩⟩, fun p hp => rfl, ⟨s.H 9 0, ?_, rfl⟩, ⟨0, Nat.two_pow_pos _, rfl⟩, a3⟩
  · have := (a5 p hp).2.2.2.2; omega
  · omega
theorem RTn_tw {g : G2} {f : Nat → Nat} {n u : Nat} {s : TxS} (hC : RCl g f n u s) (hO : okLs f n s) (hr : ∃ f0, ∀ k, g (u + 5) k = ordR (rkN (s.H 1) s.np) f0 s.np k) : RTn g u (twT s) := by
  obtain ⟨a1, a2, a3, a4, a5, a6, a7, a8, a9, a10, a11, a12, a13, a14⟩ := id hO
  obtain ⟨c1, c2, c3, c4, c5, c6, c7, c8⟩ := hC
  obtain ⟨f0, hr⟩ := hr
  refine ⟨c4.1, a2, fun p hp => (c4.2 p hp).1, fun p hp => (c4.2 p hp).2.2.1, fun p hp => (c4.2 p hp).2.2.2, fun p hp => ?_, c7.1, a4, fun i hi => c7.2 i hi, c8.1, a13, fun i hi => ?_, (okT_tw hO).2.2⟩
  · obtain ⟨q, q1, q2⟩ := ord_ok (H := s.H 1) a6 hp
    rw [hr p, q2]; exact (q2 _).symm
  · have e := rpc_cd c8.2 i hi
    rw [e]
    exact ⟨a12 _ (cdN_mem hi), rfl⟩
def okN (x : Int32) (m : Nat) : Prop := ∃ n, n ≤ m ∧ x = nI n
theorem okN_of {x : Int32} {m : Nat} (hm : m ≤ 600) (h0 : ¬ x < 0) (h1 : x ≤ nI m) : okN x m := by
  rw [Int32.lt_iff_toInt_lt, show (0 : Int32).toInt = 0 from by decide] at h0
  rw [Int32.le_iff_toInt_le, nI_toInt (by omega)] at h1
  refine ⟨x.toInt.toNat, by omega, nI_of_toInt (by omega) (by omega)⟩
theorem okN_no {x : Int32} {m : Nat} (hm : m ≤ 600) (h : x < 0 ∨ ¬ x ≤ nI m) : ¬ okN x m := by
  rintro ⟨n, a, rfl⟩
  rcases h with h | h
  · exact nI_pos (by omega) h
  · rw [Int32.le_iff_toInt_le, nI_toInt (by omega), nI_toInt (by omega)] at h
    omega
theorem RTn.cgt {g h : G2} {u : Nat} {T : TD} (hT : RTn g u T) (hy : ∀ y, u ≤ y → y ≤ u + 12 → h y = g y) : RTn h u T := by
  unfold RTn
  rw [hy u (by omega) (by omega), hy (u + 1) (by omega) (by omega), hy (u + 3) (by omega) (by omega), hy (u + 4) (by omega) (by omega), hy (u + 5) (by omega) (by omega), hy (u + 9) (by omega) (by omega), hy (u + 10) (by omega) (by omega), hy (u + 11) (by omega) (by omega)]
  exact hT
theorem RLf_beg {g h : G2} {f : Nat → Nat} {n u : Nat} {s : TxS} (hC : RCl g f n u s) (hO : okLs f n s) (b2 : ∀ j, (j = 6 ∨ j = 7 ∨ j = 8 ∨ j = 4) → h 31 j = 0) (b3 : h 31 3 = 0) (b4 : h 31 5 = g u 6) (b5 : h 31 10 = -1) (b6 : ∀ p, p < 8 → h (31 + 4) p = g (u + 2) p ∧ h (31 + 5) p = g (u + 4) p ∧ h (31 + 6) p = 0) (b7 : ∀ p, p < 8 → bt (h 31 9) p = (decide (p < s.np) && (g (u + 1) p == 3))) (b8 : h (31 + 7) 2 = nI s.nf) (b9 : ∀ i, i < s.nf → h (31 + 8) i = g (u + 7) i ∧ h (31 + 9) i = g (u + 8) i) : RLf h 31 (twT s) (-1) (s0M (twT s)) := by
  obtain ⟨a1, a2, a3, a4, a5, a6, a7, a8, a9, a10, a11, a12, a13, a14⟩ := id hO
  obtain ⟨c1, c2, c3, c4, c5, c6, c7, c8⟩ := hC
  have a2 : s.np ≤ 8 := a2
  refine ⟨b3, by show 0 ≤ 400; decide, fun i hi => absurd hi (Nat.not_lt_zero _), fun i hi => absurd hi (Nat.not_lt_zero _), fun i hi => absurd hi (Nat.not_lt_zero _), fun j hj => ?_, fun p hp => ?_, fun p hp => ?_, b8, a3, fun i hi => ?_, fun i hi => ?_, b5, fun p hp => ?_, fun p hp => ?_⟩
  · have hj : j = 0 ∨ j = 1 ∨ j = 2 ∨ j = 3 ∨ j = 4 := by omega
    rcases hj with rfl | rfl | rfl | rfl | rfl
    · exact b2 4 (by decide)
    · exact b4.trans c5
    · exact b2 6 (by decide)
    · exact b2 7 (by decide)
    · exact b2 8 (by decide)
  · have hp : p < s.np := hp
    exact (b6 p (by omega)).1.trans (c4.2 p hp).2.1
  · have hp : p < s.np := hp
    exact (b6 p (by omega)).2.1.trans (c4.2 p hp).2.2.2
  · exact (b9 i hi).1.trans (c6.2 i hi).1
  · exact (b9 i hi).2.trans (c6.2 i hi).2
  · have hp : p < s.np := hp
    exact (b6 p (by omega)).2.2
  · have hp : p < s.np := hp
    rw [btI_bt (by omega), Bool.not_not, b7 p (by omega), decide_eq_true hp, Bool.true_and, (c4.2 p hp).1]
    unfold lowB
    rw [show ((-1 : Int32) == nI p) = false from beq_eq_false_iff_ne.mpr (fun q => by
      have := congrArg Int32.toInt q
      rw [nI_toInt (by omega), show (-1 : Int32).toInt = -1 from by decide] at this
      omega), Bool.bne_false]
    rfl
theorem RLf_cg31 {g h : G2} {T : TD} {sp : Int32} {S : LfS} (hR : RLf g 31 T sp S) (hy : ∀ y, (31 ≤ y ∧ y ≤ 31 + 9) → h y = g y) : RLf h 31 T sp S := by
  unfold RLf
  rw [hy 31 (by omega), hy (31 + 1) (by omega), hy (31 + 2) (by omega), hy (31 + 3) (by omega), hy (31 + 4) (by omega), hy (31 + 5) (by omega), hy (31 + 6) (by omega), hy (31 + 7) (by omega), hy (31 + 8) (by omega), hy (31 + 9) (by omega)]
  exact hR
theorem c_X11_town {E : En} {d : Nat} {Q : QT} {X : XT} {g : G2} {f : Nat → Nat} {m t u : Nat} {x : Int32} {F0 : FS} (ht : is_town t) (hu : is_town u) (htu : t ≠ u) (h02 : g 0 2 = nI t) (h10 : g 1 0 = nI u) (hT : RTp g m f) (hm : m ≤ 600) (hU : RCu g 71 F0) (hx : ¬ okN x m → X iaN g)
    (hq1 : ∀ n, x = nI n → n ≤ m → (twL f n).b = 0 → okLs f n (twL f n).s → ∀ h, (∀ y, 84 ≤ y → h y = g y) → h 0 2 = nI u → h 1 0 = nI t → h 3 1 = 0 → h 1 3 = -1 → RTn h u (twT (twL f n).s) → RCf h 31 61 65 71 (twT (twL f n).s) (begF (twT (twL f n).s) F0) → h 72 0 = 0 → Q (some (.int 0)) h)
    (hq2 : ∀ n, x = nI n → n ≤ m → (twL f n).b ≠ 0 → ∀ h, (∀ y, y ≠ 1 → y ≠ 2 → y ≠ 3 → y ≠ 71 → ¬ (u ≤ y ∧ y ≤ u + 12) → h y = g y) → h 1 0 = nI u → h 3 1 = 0 → h 1 3 = nI (twL f n).p → h 71 = upd (g 71) 0 (g 71 0 + 1) → Q (some (.int (nI (twL f n).b))) h) : M E md_X11_town (d + 10) [.ref 0, .int x] g Q X := by
  refine M.of _ rfl rfl (Nat.le_of_ble_eq_true rfl) ?_
  have ht5 : t = 5 ∨ t = 18 := ht
  have hu5 : u = 5 ∨ u = 18 := hu
  refine b_iload_n dX11_town_0 rfl rfl ?_
  refine b_if_lt (tgt := 15) dX11_town_1 (by decide) (fun h1 => ?_) (fun h1 => ?_)
  · have hx1 := okN_no (x := x) (m := m) hm (Or.inl h1)
    refine b_throw (text := "the tape has not so many bytes") (n := 11) rfl th_iae (by decide +kernel) (by omega) (by decide) (by decide) dX11_town_15 dX11_town_18 dX11_town_19 dX11_town_21 dX11_town_24 ?_
    exact hx hx1
  · refine b_iload_n dX11_town_4 rfl rfl ?_
    refine b_aload_n dX11_town_5 rfl rfl ?_
    refine b_getR (b := 3) lf_X11_20 rfl rfl dX11_town_6 ?_
    refine b_getI lf_X11_85 rfl dX11_town_9 ?_
    refine b_topE (hT.1) ?_
    refine b_icmp_le (tgt := 25) dX11_town_12 (by decide) (fun h12 => ?_) (fun h12 => ?_)
    · obtain ⟨n, hnm, ex⟩ := okN_of hm h1 h12
      subst ex
      refine b_aload_n dX11_town_25 rfl rfl ?_
      refine b_getR (b := 3) lf_X11_20 rfl rfl dX11_town_26 ?_
      refine b_iconst (v := 0) dX11_town_29 (by decide +kernel) ?_
      refine b_putI lf_X11_85 lp_9_1 rfl dX11_town_30 ?_
      refine b_aload_n dX11_town_33 rfl rfl ?_
      refine b_getR (b := 1) lf_X11_10 rfl rfl dX11_town_34 ?_
      refine b_iload_n dX11_town_37 rfl rfl ?_
      refine b_callV (As := [_]) (st := []) dX11_town_38 lk_X11_102 lm_X7_read lv_X7_read rfl (by decide) rfl rfl rfl (Nat.le_of_ble_eq_true rfl) (Nat.le_refl _) (by decide) ?_
      have hle := lns_le (f := f) (n := n) (by omega) 600 (s0L_ok f n)
      have hle : (twL f n).b ≤ 5 := hle
      refine c_X7_read (f := f) (n := n) hu ((up2_a _ _ _ _ (by decide) _).trans h10) (by omega) (fun i hi => by rw [up2_f _ _ _ _ (by decide)]; exact hT.2 i (by omega)) (fun h zb F C O => ?_) (fun h zb F hp => ?_)
      · have hO := lns_ok (f := f) (n := n) (by omega) 600 (s0L_ok f n) (by omega) zb
        have hO : okLs f n (twL f n).s := hO
        have eF : ∀ y, y ≠ 1 → y ≠ 2 → y ≠ 3 → ¬ (u ≤ y ∧ y ≤ u + 12) → h y = g y := fun y a b c e => by rw [F.1 y a b c e, up2_f _ _ _ _ c]
        refine b_istore_n (lv' := [(0, _), (1, _), (2, _)]) dX11_town_41 rfl (by decide) rfl rfl ?_
        refine b_iload_n dX11_town_42 rfl rfl ?_
        refine b_if_eq (tgt := 58) dX11_town_43 (by decide) (fun h43 => ?_) (fun h43 => ?_)
        · refine b_aload_n dX11_town_58 rfl rfl ?_
          refine b_getD lf_X11_26 rfl ((congrFun (eF 0 (by decide) (by decide) (by decide) (by omega)) 2).trans h02) (town_31 ht) dX11_town_59 ?_
          refine b_astore_n (lv' := [(0, _), (1, _), (2, _), (3, _)]) dX11_town_62 rfl (by decide) rfl rfl ?_
          refine b_aload_n dX11_town_63 rfl rfl ?_
          refine b_aload_n dX11_town_64 rfl rfl ?_
          refine b_getR (b := 1) lf_X11_10 rfl rfl dX11_town_65 ?_
          refine b_getD lf_X11_106 rfl C.2.2.1.1 (town_31 hu) dX11_town_68 ?_
          refine b_putD (by exact town_31 hu) lf_X11_26 lp_11_2 rfl dX11_town_71 ?_
          refine b_aload_n dX11_town_74 rfl rfl ?_
          refine b_getR (b := 1) lf_X11_10 rfl rfl dX11_town_75 ?_
          refine b_aload_n dX11_town_78 rfl rfl ?_
          refine b_putD (by exact town_31 ht) lf_X11_106 lp_7_0 rfl dX11_town_79 ?_
          refine b_aload_n dX11_town_82 rfl rfl ?_
          refine b_getR (b := 31) lf_X11_33 rfl rfl dX11_town_83 ?_
          refine b_aload_n dX11_town_86 rfl rfl ?_
          refine b_getD lf_X11_26 rfl ((up2_a _ _ _ _ (by decide) _).trans (up2_s _ _ _ _)) (town_31 hu) dX11_town_87 ?_
          refine b_callV (As := [_]) (st := []) dX11_town_90 lk_X11_109 lm_X5_begin lv_X5_begin (life_c is_life31) (by decide) rfl rfl rfl (Nat.le_of_ble_eq_true rfl) (Nat.le_refl _) (by decide) ?_
          have ew : ∀ y, y ≠ 0 → y ≠ 1 → up2 (up2 h 0 2 (nI u)) 1 0 (nI t) y = h y := fun y a b => by rw [up2_f _ _ _ _ b, up2_f _ _ _ _ a]
          refine c_X5_begin (np := (twL f n).s.np) (nf := (twL f n).s.nf) is_life31 hu (by rw [ew u (by omega) (by omega)]; exact C.2.2.2.1.1) hO.2.1 (by rw [ew (u + 6) (by omega) (by omega)]; exact C.2.2.2.2.2.1.1) hO.2.2.1 (fun k b1 b2 b3 b4 b5 b6 b7 b8 b9 => ?_)
          rw [ew u (by omega) (by omega)] at b4
          rw [ew (u + 2) (by omega) (by omega), ew (u + 4) (by omega) (by omega)] at b6
          rw [ew (u + 1) (by omega) (by omega)] at b7
          rw [ew (u + 7) (by omega) (by omega), ew (u + 8) (by omega) (by omega)] at b9
          have hL := RLf_beg C hO b2 b3 b4 b5 b6 b7 b8 b9
          refine b_aload_n dX11_town_93 rfl rfl ?_
          refine b_getR (b := 61) lf_X11_40 rfl rfl dX11_town_94 ?_
          refine b_iconst (v := 0) dX11_town_97 (by decide +kernel) ?_
          refine b_putI lf_X11_113 lp_0_1 (acts_c is_acts61) dX11_town_98 ?_
          refine b_aload_n dX11_town_101 rfl rfl ?_
          refine b_getR (b := 65) lf_X11_47 rfl rfl dX11_town_102 ?_
          refine b_iconst (v := 0) dX11_town_105 (by decide +kernel) ?_
          refine b_putI lf_X11_116 lp_3_2 (heard_c is_heard65) dX11_town_106 ?_
          refine b_aload_n dX11_town_109 rfl rfl ?_
          refine b_getR (b := 72) lf_X11_58 rfl rfl dX11_town_110 ?_
          refine b_iconst (v := 0) dX11_town_113 (by decide +kernel) ?_
          refine b_putZ (Or.inl rfl) lf_X11_117 lp_4_0 rfl dX11_town_114 ?_
          refine b_iconst (v := 0) dX11_town_117 (by decide +kernel) ?_
          refine b_iret rfl (by decide) dX11_town_118 ?_
          have eK : ∀ y, y ≠ 0 → y ≠ 1 → ¬ (31 ≤ y ∧ y ≤ 31 + 9) → y ≠ 61 → y ≠ 65 → y ≠ 72 → up2 (up2 (up2 k 61 1 0) 65 2 0) 72 0 0 y = h y := fun y a b c d e f => by rw [up2_f _ _ _ _ f, up2_f _ _ _ _ e, up2_f _ _ _ _ d, b1 y c, ew y a b]
          have eL : ∀ y, (31 ≤ y ∧ y ≤ 31 + 9) → up2 (up2 (up2 k 61 1 0) 65 2 0) 72 0 0 y = k y := fun y a => by rw [up2_f _ _ _ _ (by omega), up2_f _ _ _ _ (by omega), up2_f _ _ _ _ (by omega)]
          refine hq1 n rfl hnm zb hO _ (fun y hy => by rw [eK y (by omega) (by omega) (by omega) (by omega) (by omega) (by omega)]; exact eF y (by omega) (by omega) (by omega) (by omega)) ?_ ?_ ?_ ?_ ?_ ⟨?_, ⟨?_, ?_⟩, ⟨?_, ?_⟩, ?_⟩ (up2_s _ _ _ _)
          · rw [up2_f _ _ _ _ (by decide), up2_f _ _ _ _ (by decide), up2_f _ _ _ _ (by decide), b1 0 (by omega), up2_a _ _ _ _ (by decide)]; exact up2_s _ _ _ _
          · rw [up2_f _ _ _ _ (by decide), up2_f _ _ _ _ (by decide), up2_f _ _ _ _ (by decide), b1 1 (by omega)]; exact up2_s _ _ _ _
          · rw [eK 3 (by decide) (by decide) (by decide) (by decide) (by decide) (by decide), F.2.2]; exact up2_s _ _ _ _
          · rw [up2_f _ _ _ _ (by decide), up2_f _ _ _ _ (by decide), up2_f _ _ _ _ (by decide), b1 1 (by omega), up2_k _ _ _ _ (by decide), up2_a _ _ _ _ (by decide)]; exact C.2.2.1.2.2.1
          · exact (RTn_tw C hO O).cgt (fun y a b => eK y (by omega) (by omega) (by omega) (by omega) (by omega) (by omega))
          · exact RLf_cg31 hL eL
          · rw [up2_f _ _ _ _ (by decide), up2_f _ _ _ _ (by decide)]; exact up2_s _ _ _ _
          · intro i hi; exact absurd hi (Nat.not_lt_zero _)
          · rw [up2_f _ _ _ _ (by decide)]; exact up2_s _ _ _ _
          · exact ⟨fun i hi => absurd hi (Nat.not_lt_zero _), fun i hi => absurd hi (Nat.not_lt_zero _)⟩
          · intro i hi
            rw [eK 71 (by decide) (by decide) (by decide) (by decide) (by decide) (by decide), eF 71 (by decide) (by decide) (by decide) (by omega)]
            exact hU i hi
        · exact absurd rfl h43
      · have eF : ∀ y, y ≠ 1 → y ≠ 2 → y ≠ 3 → ¬ (u ≤ y ∧ y ≤ u + 12) → h y = g y := fun y a b c e => by rw [F.1 y a b c e, up2_f _ _ _ _ c]
        refine b_istore_n (lv' := [(0, _), (1, _), (2, _)]) dX11_town_41 rfl (by decide) rfl rfl ?_
        refine b_iload_n dX11_town_42 rfl rfl ?_
        refine b_if_eq (tgt := 58) dX11_town_43 (by decide) (fun h43 => ?_) (fun h43 => ?_)
        · have e43 : ((twL f n).b) = 0 := nI_inj (b := 0) (by omega) (by decide) h43
          exact absurd e43 zb
        · have e43 : ((twL f n).b) ≠ 0 := fun q => h43 (by rw [q]; rfl)
          refine b_aload_n dX11_town_46 rfl rfl ?_
          refine b_getR (b := 71) lf_X11_51 rfl rfl dX11_town_47 ?_
          refine b_iconst (v := 0) dX11_town_50 (by decide +kernel) ?_
          refine b_dup2 dX11_town_51 rfl rfl ?_
          refine b_ildN (j := 0) dX11_town_52 (rfl) (by show _ < 3; omega) ?_
          refine b_iconst (v := 1) dX11_town_53 (by decide +kernel) ?_
          refine b_iadd dX11_town_54 ?_
          refine b_istN (j := 0) dX11_town_55 (rfl) (by show _ < 3; omega) ?_
          refine b_iload_n dX11_town_56 rfl rfl ?_
          refine b_iret rfl (by decide) dX11_town_57 ?_
          exact hq2 n rfl hnm zb _ (fun y a b c e q => by rw [up2_f _ _ _ _ e]; exact eF y a b c q) (by rw [up2_f _ _ _ _ (by decide), F.2.1, up2_a _ _ _ _ (by decide)]; exact h10) (by rw [up2_f _ _ _ _ (by decide), F.2.2]; exact up2_s _ _ _ _) (by rw [up2_f _ _ _ _ (by decide)]; exact hp) (by rw [show h 71 0 = g 71 0 from congrFun (eF 71 (by decide) (by decide) (by decide) (by omega)) 0, up2_u, eF 71 (by decide) (by decide) (by decide) (by omega)])
    · have hx1 := okN_no (x := x) (m := m) hm (Or.inr h12)
      refine b_throw (text := "the tape has not so many bytes") (n := 11) rfl th_iae (by decide +kernel) (by omega) (by decide) (by decide) dX11_town_15 dX11_town_18 dX11_town_19 dX11_town_21 dX11_town_24 ?_
      exact hx hx1
