/-- behind the one who sang last there is a feud -/
def foeB (f w fa fb : Nat → Int32) (n fn : Nat) (p : Int32) : Bool := decide (0 < n) && !(f (n - 1) == 12) && anyN (fdP fa fb p (w (n - 1))) fn
/-- the note out of a value: of a child 7 more, of one who sings lower 1 less -/
def ntI (v k : Int32) (lo : Bool) : Int32 := rmI ((if k = 1 then v + 7 else v) + (if lo then 11 else 0)) 12
def vaC (g : G2) (a t rn p : Nat) : Int32 := if g (t + 1) p = 2 then g (a + 5) p else if rn = 0 then g (a + 5) p + g a 5 else botS (evC (vlC g a t p) (g (t + 11)) rn)
def nsC (g : G2) (a t n fn rn p : Nat) : Int32 :=
  if !(btI (g a 6) (nI p) == 0) then 12 else if foeB (g (a + 1)) (g (a + 2)) (g (a + 8)) (g (a + 9)) n fn (nI p) then rmI (g (a + 1) (n - 1) + 6) 12
  else ntI (fmI (vaC g a t rn p) 12) (g (t + 1) p) (!(btI (g a 9) (nI p) == 0))
theorem c_X5_nextSign {E : En} {d : Nat} {Q : QT} {X : XT} {g : G2} {a t n fn rn p : Nat} (ha : is_life a) (ht : is_town t) (hn : g a 3 = nI n) (h4 : n ≤ 400) (hf : g (a + 7) 2 = nI fn) (hf6 : fn ≤ 6) (hr : g (t + 10) 1 = nI rn) (hr6 : rn ≤ 600) (hp : p < 8) (hq : ∀ g2, (∀ z, z ≠ t + 12 → g2 z = g z) → Q (some (.int (nsC g a t n fn rn p))) g2) : M E md_X5_nextSign (d + 2) [.ref a, .ref t, .int (nI p)] g Q X := by
  refine M.of _ rfl rfl (Nat.le_of_ble_eq_true rfl) ?_
  have ht2 : t + 1 ≠ t + 12 ∧ a ≠ t + 12 := by unfold is_life is_town at *; omega
  have N116 : (!(btI (g a 6) (nI p) == 0)) = false → foeB (g (a + 1)) (g (a + 2)) (g (a + 8)) (g (a + 9)) n fn (nI p) = false → ∀ (v : Int32) (h : G2), (∀ z, z ≠ t + 12 → h z = g z) → v = vaC g a t rn p → B E md_X5_nextSign (d + 2) Q X 116 [(0, .ref a), (1, .ref t), (2, .int (nI p)), (3, .int v)] [] h 0 := by
    intro c1 c2 v h hb1 hv
    refine b_iload_n dX5_nextSign_116 rfl rfl ?_
    refine b_bipush (v := 12) dX5_nextSign_117 (by decide +kernel) ?_
    refine b_callS (As := [_, _]) (st := []) dX5_nextSign_119 lk_X5_119 lm_J9_floorMod_7cf53 ls_J9_floorMod_7cf53 rfl rfl (Nat.le_of_ble_eq_true rfl) (Nat.le_refl _) (by decide) ?_
    refine c_floorMod (by decide +kernel) ?_
    refine b_istore_n (lv' := [(0, _), (1, _), (2, _), (3, _)]) dX5_nextSign_122 rfl (by decide) rfl rfl ?_
    refine b_aload_n dX5_nextSign_123 rfl rfl ?_
    refine b_getR (b := (t + 1)) lf_X5_70 (town_c ht) (town_r1 ht) dX5_nextSign_124 ?_
    refine b_iload_n dX5_nextSign_127 rfl rfl ?_
    refine b_ildN (j := p) dX5_nextSign_128 (rfl) (by rw [(town_n1 ht)]; omega) ?_
    refine b_iconst (v := 1) dX5_nextSign_129 (by decide +kernel) ?_
    refine b_icmp_ne (tgt := 136) dX5_nextSign_130 (by decide) (fun h130 => ?_) (fun h130 => ?_)
    · have k1 : ¬ g (t + 1) p = 1 := by rw [← hb1 (t + 1) ht2.1]; exact h130
      refine b_aload_n dX5_nextSign_136 rfl rfl ?_
      refine b_getI lf_X5_40 (life_c ha) dX5_nextSign_137 ?_
      refine b_iload_n dX5_nextSign_140 rfl rfl ?_
      refine b_callSN (As := [_, _]) (st := []) dX5_nextSign_141 (by decide +kernel) rfl lm_X11_isIn ls_X11_isIn rfl rfl (Nat.le_of_ble_eq_true rfl) (Nat.le_refl _) (by decide) ?_
      refine c_X11_isIn ?_
      refine b_if_eq (tgt := 150) dX5_nextSign_144 (by decide) (fun h144 => ?_) (fun h144 => ?_)
      · have k2 := b2i_0 h144
        rw [hb1 a ht2.2] at k2
        refine b_iload_n dX5_nextSign_150 rfl rfl ?_
        refine b_bipush (v := 12) dX5_nextSign_151 (by decide +kernel) ?_
        refine b_irem dX5_nextSign_153 (by decide +kernel) ?_
        refine b_iret rfl (by decide) dX5_nextSign_154 ?_
        have hq9 := hq h hb1
        unfold nsC at hq9
        rw [if_neg (by rw [c1]; decide), if_neg (by rw [c2]; decide)] at hq9
        unfold ntI at hq9
        rw [if_neg k1, k2] at hq9
        simp only [Bool.false_eq_true, if_false, Int32.add_zero] at hq9
        rw [hv]; exact hq9
      · have k2 := b2i_1 h144
        rw [hb1 a ht2.2] at k2
        refine b_iinc (v := fmI v 12 + 11) (lv' := [(0, _), (1, _), (2, _), (3, _)]) dX5_nextSign_147 rfl rfl (by decide) rfl rfl ?_
        refine b_iload_n dX5_nextSign_150 rfl rfl ?_
        refine b_bipush (v := 12) dX5_nextSign_151 (by decide +kernel) ?_
        refine b_irem dX5_nextSign_153 (by decide +kernel) ?_
        refine b_iret rfl (by decide) dX5_nextSign_154 ?_
        have hq9 := hq h hb1
        unfold nsC at hq9
        rw [if_neg (by rw [c1]; decide), if_neg (by rw [c2]; decide)] at hq9
        unfold ntI at hq9
        rw [if_neg k1, k2] at hq9
        simp only [if_true] at hq9
        rw [hv]; exact hq9
    · have k1 : g (t + 1) p = 1 := by rw [← hb1 (t + 1) ht2.1]; exact h130
      refine b_iinc (v := fmI v 12 + 7) (lv' := [(0, _), (1, _), (2, _), (3, _)]) dX5_nextSign_133 rfl rfl (by decide) rfl rfl ?_
      refine b_aload_n dX5_nextSign_136 rfl rfl ?_
      refine b_getI lf_X5_40 (life_c ha) dX5_nextSign_137 ?_
      refine b_iload_n dX5_nextSign_140 rfl rfl ?_
      refine b_callSN (As := [_, _]) (st := []) dX5_nextSign_141 (by decide +kernel) rfl lm_X11_isIn ls_X11_isIn rfl rfl (Nat.le_of_ble_eq_true rfl) (Nat.le_refl _) (by decide) ?_
      refine c_X11_isIn ?_
      refine b_if_eq (tgt := 150) dX5_nextSign_144 (by decide) (fun h144 => ?_) (fun h144 => ?_)
      · have k2 := b2i_0 h144
        rw [hb1 a ht2.2] at k2
        refine b_iload_n dX5_nextSign_150 rfl rfl ?_
        refine b_bipush (v := 12) dX5_nextSign_151 (by decide +kernel) ?_
        refine b_irem dX5_nextSign_153 (by decide +kernel) ?_
        refine b_iret rfl (by decide) dX5_nextSign_154 ?_
        have hq9 := hq h hb1
        unfold nsC at hq9
        rw [if_neg (by rw [c1]; decide), if_neg (by rw [c2]; decide)] at hq9
        unfold ntI at hq9
        rw [if_pos k1, k2] at hq9
        simp only [Bool.false_eq_true, if_false, Int32.add_zero] at hq9
        rw [hv]; exact hq9
      · have k2 := b2i_1 h144
        rw [hb1 a ht2.2] at k2
        refine b_iinc (v := (fmI v 12 + 7) + 11) (lv' := [(0, _), (1, _), (2, _), (3, _)]) dX5_nextSign_147 rfl rfl (by decide) rfl rfl ?_
        refine b_iload_n dX5_nextSign_150 rfl rfl ?_
        refine b_bipush (v := 12) dX5_nextSign_151 (by decide +kernel) ?_
        refine b_irem dX5_nextSign_153 (by decide +kernel) ?_
        refine b_iret rfl (by decide) dX5_nextSign_154 ?_
        have hq9 := hq h hb1
        unfold nsC at hq9
        rw [if_neg (by rw [c1]; decide), if_neg (by rw [c2]; decide)] at hq9
        unfold ntI at hq9
        rw [if_pos k1, k2] at hq9
        simp only [if_true] at hq9
        rw [hv]; exact hq9
  have N69 : (!(btI (g a 6) (nI p) == 0)) = false → foeB (g (a + 1)) (g (a + 2)) (g (a + 8)) (g (a + 9)) n fn (nI p) = false → B E md_X5_nextSign (d + 2) Q X 69 [(0, .ref a), (1, .ref t), (2, .int (nI p))] [] g 0 := by
    intro c1 c2
    have N116 := N116 c1 c2
    refine b_aload_n dX5_nextSign_69 rfl rfl ?_
    refine b_getR (b := (a + 5)) lf_X5_49 (life_c ha) (life_r12 ha) dX5_nextSign_70 ?_
    refine b_iload_n dX5_nextSign_73 rfl rfl ?_
    refine b_ildN (j := p) dX5_nextSign_74 (rfl) (by rw [(life_n5 ha)]; omega) ?_
    refine b_istore_n (lv' := [(0, _), (1, _), (2, _), (3, _)]) dX5_nextSign_75 rfl (by decide) rfl rfl ?_
    refine b_aload_n dX5_nextSign_76 rfl rfl ?_
    refine b_getR (b := (t + 1)) lf_X5_70 (town_c ht) (town_r1 ht) dX5_nextSign_77 ?_
    refine b_iload_n dX5_nextSign_80 rfl rfl ?_
    refine b_ildN (j := p) dX5_nextSign_81 (rfl) (by rw [(town_n1 ht)]; omega) ?_
    refine b_iconst (v := 2) dX5_nextSign_82 (by decide +kernel) ?_
    refine b_icmp_eq (tgt := 116) dX5_nextSign_83 (by decide) (fun h83 => ?_) (fun h83 => ?_)
    · exact N116 _ g (fun _ _ => rfl) (by unfold vaC; rw [if_pos h83])
    · refine b_aload_n dX5_nextSign_86 rfl rfl ?_
      refine b_getR (b := (t + 10)) lf_X5_106 (town_c ht) (town_r10 ht) dX5_nextSign_87 ?_
      refine b_getI lf_X5_110 (rule_c (town_rule ht)) dX5_nextSign_90 ?_
      refine b_if_ne (tgt := 105) dX5_nextSign_93 (by decide) (fun h93 => ?_) (fun h93 => ?_)
      · have h93b : ¬ rn = 0 := fun q => by rw [hr, q] at h93; exact h93 (by decide +kernel)
        refine b_aload_n dX5_nextSign_105 rfl rfl ?_
        refine b_getR (b := (t + 10)) lf_X5_106 (town_c ht) (town_r10 ht) dX5_nextSign_106 ?_
        refine b_aload_n dX5_nextSign_109 rfl rfl ?_
        refine b_aload_n dX5_nextSign_110 rfl rfl ?_
        refine b_iload_n dX5_nextSign_111 rfl rfl ?_
        refine b_callV (As := [_, _, _]) (st := []) dX5_nextSign_112 lk_X5_115 lm_X8_worth lv_X8_worth (rule_c (town_rule ht)) (by decide) rfl rfl rfl (Nat.le_of_ble_eq_true rfl) (Nat.le_refl _) (by decide) ?_
        refine c_X8_worth (town_rule ht) ha ht hp hr hr6 (fun g2 hg2 => ?_)
        refine b_istore_n (lv' := [(0, _), (1, _), (2, _), (3, _)]) dX5_nextSign_115 rfl (by decide) rfl rfl ?_
        exact N116 _ g2 hg2 (by unfold vaC; rw [if_neg h83, if_neg h93b])
      · have h93b : rn = 0 := by
          rcases Nat.eq_zero_or_pos rn with q | q
          · exact q
          · rw [hr] at h93; exact absurd h93 (nI_ne0 q (by omega))
        refine b_iload_n dX5_nextSign_96 rfl rfl ?_
        refine b_aload_n dX5_nextSign_97 rfl rfl ?_
        refine b_getI lf_X5_28 (life_c ha) dX5_nextSign_98 ?_
        refine b_iadd dX5_nextSign_101 ?_
        refine b_goto (tgt := 115) dX5_nextSign_102 (by decide) ?_
        refine b_istore_n (lv' := [(0, _), (1, _), (2, _), (3, _)]) dX5_nextSign_115 rfl (by decide) rfl rfl ?_
        exact N116 _ g (fun _ _ => rfl) (by unfold vaC; rw [if_neg h83, if_pos h93b])
  refine b_aload_n dX5_nextSign_0 rfl rfl ?_
  refine b_getI lf_X5_31 (life_c ha) dX5_nextSign_1 ?_
  refine b_iload_n dX5_nextSign_4 rfl rfl ?_
  refine b_callSN (As := [_, _]) (st := []) dX5_nextSign_5 (by decide +kernel) rfl lm_X11_isIn ls_X11_isIn rfl rfl (Nat.le_of_ble_eq_true rfl) (Nat.le_refl _) (by decide) ?_
  refine c_X11_isIn ?_
  refine b_if_eq (tgt := 14) dX5_nextSign_8 (by decide) (fun h8 => ?_) (fun h8 => ?_)
  · have c1 : (!(btI (g a 6) (nI p) == 0)) = false := b2i_0 h8
    have N116 := N116 c1
    have N69 := N69 c1
    refine b_aload_n dX5_nextSign_14 rfl rfl ?_
    refine b_getI lf_X5_21 (life_c ha) dX5_nextSign_15 ?_
    refine b_if_le (tgt := 69) dX5_nextSign_18 (by decide) (fun h18 => ?_) (fun h18 => ?_)
    · have e18 : n = 0 := by
        rcases Nat.eq_zero_or_pos n with q | q
        · exact q
        · rw [hn] at h18; exact absurd h18 (nI_nle q (by omega))
      exact N69 (by unfold foeB; rw [decide_eq_false (by omega)]; rfl)
    · have e18 : 0 < n := by
        rcases Nat.eq_zero_or_pos n with q | q
        · rw [hn, q] at h18; exact absurd (show nI 0 ≤ 0 from by decide +kernel) h18
        · exact q
      refine b_aload_n dX5_nextSign_21 rfl rfl ?_
      refine b_getR (b := (a + 1)) lf_X5_9 (life_c ha) (life_r0 ha) dX5_nextSign_22 ?_
      refine b_aload_n dX5_nextSign_25 rfl rfl ?_
      refine b_getI lf_X5_21 (life_c ha) dX5_nextSign_26 ?_
      refine b_iconst (v := 1) dX5_nextSign_29 (by decide +kernel) ?_
      refine b_isub dX5_nextSign_30 ?_
      refine b_ildN (j := (n - 1)) dX5_nextSign_31 (by rw [hn]; exact nI_m1 e18) (by rw [(life_n1 ha)]; omega) ?_
      refine b_istore_n (lv' := [(0, _), (1, _), (2, _), (3, _)]) dX5_nextSign_32 rfl (by decide) rfl rfl ?_
      refine b_iload_n dX5_nextSign_33 rfl rfl ?_
      refine b_bipush (v := 12) dX5_nextSign_34 (by decide +kernel) ?_
      refine b_icmp_eq (tgt := 69) dX5_nextSign_36 (by decide) (fun h36 => ?_) (fun h36 => ?_)
      · have h36b : (g (a + 1) (n - 1) == 12) = true := by rw [h36]; rfl
        refine b_take 3 ?_
        exact N69 (by unfold foeB; rw [h36b]; simp)
      · have h36b : (g (a + 1) (n - 1) == 12) = false := by simp [h36]
        refine b_aload_n dX5_nextSign_39 rfl rfl ?_
        refine b_getR (b := (a + 7)) lf_X5_58 (life_c ha) (life_r14 ha) dX5_nextSign_40 ?_
        refine b_iload_n dX5_nextSign_43 rfl rfl ?_
        refine b_aload_n dX5_nextSign_44 rfl rfl ?_
        refine b_getR (b := (a + 2)) lf_X5_15 (life_c ha) (life_r1 ha) dX5_nextSign_45 ?_
        refine b_aload_n dX5_nextSign_48 rfl rfl ?_
        refine b_getI lf_X5_21 (life_c ha) dX5_nextSign_49 ?_
        refine b_iconst (v := 1) dX5_nextSign_52 (by decide +kernel) ?_
        refine b_isub dX5_nextSign_53 ?_
        refine b_ildN (j := (n - 1)) dX5_nextSign_54 (by rw [hn]; exact nI_m1 e18) (by rw [(life_n2 ha)]; omega) ?_
        refine b_callV (As := [_, _]) (st := []) dX5_nextSign_55 lk_X5_103 lm_X1_between lv_X1_between (feuds_c (life_feuds ha)) (by decide) rfl rfl rfl (Nat.le_of_ble_eq_true rfl) (Nat.le_refl _) (by decide) ?_
        refine c_X1_between (life_feuds ha) hf hf6 ?_
        refine b_if_eq (tgt := 69) dX5_nextSign_58 (by decide) (fun h58 => ?_) (fun h58 => ?_)
        · have e58 := b2i_0 h58
          refine b_take 3 ?_
          exact N69 (by unfold foeB; rw [e58]; simp)
        · have e58 := b2i_1 h58
          refine b_iload_n dX5_nextSign_61 rfl rfl ?_
          refine b_bipush (v := 6) dX5_nextSign_62 (by decide +kernel) ?_
          refine b_iadd dX5_nextSign_64 ?_
          refine b_bipush (v := 12) dX5_nextSign_65 (by decide +kernel) ?_
          refine b_irem dX5_nextSign_67 (by decide +kernel) ?_
          refine b_iret rfl (by decide) dX5_nextSign_68 ?_
          have hq9 := hq g (fun _ _ => rfl)
          unfold nsC at hq9
          rw [if_neg (by rw [c1]; decide), if_pos (by unfold foeB; rw [decide_eq_true e18, h36b]; exact e58)] at hq9
          exact hq9
  · have c1 := b2i_1 h8
    refine b_bipush (v := 12) dX5_nextSign_11 (by decide +kernel) ?_
    refine b_iret rfl (by decide) dX5_nextSign_13 ?_
    have hq9 := hq g (fun _ _ => rfl)
    unfold nsC at hq9
    rw [if_pos c1] at hq9
    exact hq9
