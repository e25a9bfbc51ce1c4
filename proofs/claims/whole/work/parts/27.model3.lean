/-- the model's life is S -/
def RMl (g : G2) (T : TD) (S : LfS) : Prop :=
  g 84 32 = nI (l_n S) ∧ l_n S ≤ 400 ∧ (∀ i, i < l_n S → g 104 i = l_g S 0 i) ∧ (∀ i, i < l_n S → g 105 i = l_g S 1 i) ∧ (∀ i, i < l_n S → g 106 i = l_g S 2 i) ∧
  g 84 30 = l_g S 3 0 ∧ g 84 31 = l_g S 3 1 ∧ g 84 33 = l_g S 3 2 ∧ g 84 34 = l_g S 3 3 ∧ g 84 35 = l_g S 3 4 ∧
  (∀ p, p < t_n T → g 99 p = l_g S 4 p) ∧ (∀ p, p < t_n T → g 100 p = l_g S 5 p) ∧
  g 84 36 = nI (l_fn S) ∧ l_fn S ≤ 6 ∧ (∀ i, i < l_fn S → g 101 i = l_g S 6 i) ∧ (∀ i, i < l_fn S → g 102 i = l_g S 7 i)
/-- the model's town is T -/
def RMt (g : G2) (T : TD) : Prop :=
  g 87 0 = nI (t_n T) ∧ t_n T ≤ 8 ∧ g 87 2 = nI (t_on T) ∧ t_on T ≤ 24 ∧ g 87 4 = nI (t_rn T) ∧ t_rn T ≤ 600 ∧ (∀ p, p < t_n T → g 88 p = t_g T 0 p) ∧ (∀ p, p < t_n T → g 90 p = t_g T 1 p) ∧
  (∀ i, i < t_n T → g 97 i = t_g T 2 i) ∧ (∀ i, i < t_on T → g 94 i = t_g T 4 i) ∧ (∀ i, i < t_rn T → g 95 i = t_g T 3 i)
/-- what is true of every town that was read: the rule has its parts, the order is of people -/
def okT (T : TD) : Prop := t_n T ≤ 8 ∧ (∀ ask, wfE ask (t_g T 3) (t_rn T)) ∧ (∀ i, i < t_n T → ∃ p, p < t_n T ∧ t_g T 2 i = nI p)
/-- of every life: signs 0 to 12, whose they are, bases -/
def okS (T : TD) (S : LfS) : Prop := l_n S ≤ 400 ∧ (∀ i, i < l_n S → ∃ s, s ≤ 12 ∧ l_g S 0 i = nI s) ∧ (∀ i, i < l_n S → ∃ p, p < t_n T ∧ l_g S 1 i = nI p) ∧ (∀ p, p < t_n T → ∃ b, b < 12 ∧ l_g S 5 p = nI b)
theorem lst_las {f f2 : Nat → Int32} {k : Int32} : ∀ {n : Nat}, (∀ i, i < n → f2 i = f i) → (∀ i, i < n → ∃ s, s ≤ 12 ∧ f i = nI s) → lstR f2 k n = if lasC f n = -1 then k else lasC f n
  | 0, _, _ => by rw [lstR, lasC, if_pos rfl]
  | n + 1, h, h2 => by
    rw [lstR, lasC, h n (by omega)]
    by_cases e : f n = 12
    · rw [if_pos e, if_pos e]; exact lst_las (fun i hi => h i (by omega)) (fun i hi => h2 i (by omega))
    · rw [if_neg e, if_neg e, if_neg]
      obtain ⟨s, hs, e2⟩ := h2 n (by omega)
      rw [e2]
      intro q
      have := congrArg Int32.toInt q
      rw [nI_toInt (by omega), show (-1 : Int32).toInt = -1 from by decide] at this
      omega
theorem evM_cc {ask c c2 : Nat → Int32} : ∀ {n : Nat}, (∀ i, i < n → c2 i = c i) → evM ask c2 n = evM ask c n
  | 0, _ => rfl
  | n + 1, h => by rw [evM, evM, h n (by omega), evM_cc (fun i hi => h i (by omega))]
theorem wfE_cc {ask c c2 : Nat → Int32} {n : Nat} (hw : wfE ask c n) (h : ∀ i, i < n → c2 i = c i) : wfE ask c2 n := by
  refine ⟨fun k hk => ?_, fun h0 => by rw [evM_cc h]; exact hw.2 h0⟩
  rw [h k hk, evM_cc (fun i hi => h i (by omega))]
  exact hw.1 k hk
/-- what byRule gives -/
def ruM (T : TD) (S : LfS) (p : Nat) : Int32 := if t_rn T = 0 then l_g S 5 p + l_g S 3 1 else botS (evM (askM T S p) (t_g T 3) (t_rn T))
theorem c_X12_byRule {E : En} {d : Nat} {Q : QT} {X : XT} {g : G2} {T : TD} {S : LfS} {p : Nat} (hT : RMt g T) (hR : RMl g T S) (oT : okT T) (oS : okS T S) (hp : p < t_n T) (hq : ∀ g2, (∀ z, z ≠ 107 → z ≠ 108 → g2 z = g z) → Q (some (.int (ruM T S p))) g2) : M E md_X12_byRule (d + 2) [.ref 84, .int (nI p)] g Q X := by
  refine M.of _ rfl rfl (Nat.le_of_ble_eq_true rfl) ?_
  obtain ⟨q1, q2, q3, q4, q5, q6, q7, q8, q9, q10, q11⟩ := id hT
  obtain ⟨r1, r2, r3, r4, r5, r6, r7, r8, r9, r10, r11, r12, r13, r14, r15, r16⟩ := id hR
  refine b_aload_n dX12_byRule_0 rfl rfl ?_
  refine b_getR (b := 87) lf_X12_40 rfl rfl dX12_byRule_1 ?_
  refine b_iconst (v := 4) dX12_byRule_4 (by decide +kernel) ?_
  refine b_ildN (j := 4) dX12_byRule_5 (rfl) (by show _ < 10; decide) ?_
  refine b_if_ne (tgt := 21) dX12_byRule_6 (by decide) (fun h6 => ?_) (fun h6 => ?_)
  · have h6b : ¬ t_rn T = 0 := fun q => by rw [q5, q] at h6; exact h6 (by decide +kernel)
    refine b_aload_n dX12_byRule_21 rfl rfl ?_
    refine b_getR (b := 107) lf_X12_102 rfl rfl dX12_byRule_22 ?_
    refine b_iconst (v := 0) dX12_byRule_25 (by decide +kernel) ?_
    refine b_aload_n dX12_byRule_26 rfl rfl ?_
    refine b_getI lf_X12_316 rfl dX12_byRule_27 ?_
    refine b_istN (j := 0) dX12_byRule_30 (rfl) (by show _ < 7; decide) ?_
    refine b_aload_n dX12_byRule_31 rfl rfl ?_
    refine b_getR (b := 107) lf_X12_102 rfl rfl dX12_byRule_32 ?_
    refine b_iconst (v := 1) dX12_byRule_35 (by decide +kernel) ?_
    refine b_aload_n dX12_byRule_36 rfl rfl ?_
    refine b_getR (b := 100) lf_X12_82 rfl rfl dX12_byRule_37 ?_
    refine b_iload_n dX12_byRule_40 rfl rfl ?_
    refine b_ildN (j := p) dX12_byRule_41 (rfl) (by show _ < 8; omega) ?_
    refine b_istN (j := 1) dX12_byRule_42 (rfl) (by show _ < 7; decide) ?_
    refine b_aload_n dX12_byRule_43 rfl rfl ?_
    refine b_getR (b := 107) lf_X12_102 rfl rfl dX12_byRule_44 ?_
    refine b_iconst (v := 2) dX12_byRule_47 (by decide +kernel) ?_
    refine b_aload_n dX12_byRule_48 rfl rfl ?_
    refine b_callV (As := []) (st := [_, _]) dX12_byRule_49 lk_X12_352 lm_X12_lastNote lv_X12_lastNote rfl (by decide) rfl rfl rfl (Nat.le_of_ble_eq_true rfl) (Nat.le_refl _) (by decide) ?_
    refine c_X12_lastNote (n := l_n S) (by simp only [up2_a _ _ _ _ (show (84 : Nat) ≠ 107 from by decide)]; exact r1) r2 ?_
    refine b_istN (j := 2) dX12_byRule_52 (rfl) (by show _ < 7; decide) ?_
    refine b_aload_n dX12_byRule_53 rfl rfl ?_
    refine b_getR (b := 107) lf_X12_102 rfl rfl dX12_byRule_54 ?_
    refine b_iconst (v := 3) dX12_byRule_57 (by decide +kernel) ?_
    refine b_aload_n dX12_byRule_58 rfl rfl ?_
    refine b_getI lf_X12_318 rfl dX12_byRule_59 ?_
    refine b_istN (j := 3) dX12_byRule_62 (rfl) (by show _ < 7; decide) ?_
    refine b_aload_n dX12_byRule_63 rfl rfl ?_
    refine b_getR (b := 107) lf_X12_102 rfl rfl dX12_byRule_64 ?_
    refine b_iconst (v := 4) dX12_byRule_67 (by decide +kernel) ?_
    refine b_aload_n dX12_byRule_68 rfl rfl ?_
    refine b_getR (b := 99) lf_X12_80 rfl rfl dX12_byRule_69 ?_
    refine b_iload_n dX12_byRule_72 rfl rfl ?_
    refine b_ildN (j := p) dX12_byRule_73 (rfl) (by show _ < 8; omega) ?_
    refine b_istN (j := 4) dX12_byRule_74 (rfl) (by show _ < 7; decide) ?_
    refine b_aload_n dX12_byRule_75 rfl rfl ?_
    refine b_getR (b := 107) lf_X12_102 rfl rfl dX12_byRule_76 ?_
    refine b_iconst (v := 5) dX12_byRule_79 (by decide +kernel) ?_
    refine b_aload_n dX12_byRule_80 rfl rfl ?_
    refine b_getR (b := 88) lf_X12_44 rfl rfl dX12_byRule_81 ?_
    refine b_iload_n dX12_byRule_84 rfl rfl ?_
    refine b_ildN (j := p) dX12_byRule_85 (rfl) (by show _ < 16; omega) ?_
    refine b_istN (j := 5) dX12_byRule_86 (rfl) (by show _ < 7; decide) ?_
    refine b_aload_n dX12_byRule_87 rfl rfl ?_
    refine b_getR (b := 107) lf_X12_102 rfl rfl dX12_byRule_88 ?_
    refine b_bipush (v := 6) dX12_byRule_91 (by decide +kernel) ?_
    refine b_aload_n dX12_byRule_93 rfl rfl ?_
    refine b_iload_n dX12_byRule_94 rfl rfl ?_
    refine b_callV (As := [_]) (st := [_, _]) dX12_byRule_95 lk_X12_355 lm_X12_signsOf lv_X12_signsOf rfl (by decide) rfl rfl rfl (Nat.le_of_ble_eq_true rfl) (Nat.le_refl _) (by decide) ?_
    refine c_X12_signsOf (n := l_n S) (by simp only [up2_a _ _ _ _ (show (84 : Nat) ≠ 107 from by decide)]; exact r1) r2 ?_
    refine b_istN (j := 6) dX12_byRule_98 (rfl) (by show _ < 7; decide) ?_
    refine b_aload_n dX12_byRule_99 rfl rfl ?_
    refine b_callV (As := []) (st := []) dX12_byRule_100 lk_X12_358 lm_X12_valueNow lv_X12_valueNow rfl (by decide) rfl rfl rfl (Nat.le_of_ble_eq_true rfl) (Nat.le_refl _) (by decide) ?_
    simp only [up2_a _ _ _ _ (show (84 : Nat) ≠ 107 from by decide), up2_a _ _ _ _ (show (100 : Nat) ≠ 107 from by decide), up2_a _ _ _ _ (show (99 : Nat) ≠ 107 from by decide), up2_a _ _ _ _ (show (88 : Nat) ≠ 107 from by decide), up2_f _ _ _ _ (show (104 : Nat) ≠ 107 from by decide), up2_f _ _ _ _ (show (105 : Nat) ≠ 107 from by decide)]
    have L1 : lstR (g 104) (g 84 31) (l_n S) = lasM S := by rw [lst_las r3 oS.2.1, r7]; rfl
    have L2 : cntN (fun i => g 105 i == nI p) (l_n S) = sunM S p := cntN_cg (fun i hi => by rw [r4 i hi])
    rw [L1, L2, r6, r7, r12 p hp, r11 p hp, q7 p hp]
    have hz : ∀ z, z ≠ 107 → up2 (up2 (up2 (up2 (up2 (up2 (up2 g 107 0 (l_g S 3 0)) 107 1 (l_g S 5 p)) 107 2 (lasM S)) 107 3 (l_g S 3 1)) 107 4 (l_g S 4 p)) 107 5 (t_g T 0 p)) 107 6 (nI (sunM S p)) z = g z := fun z q => by simp only [up2_f _ _ _ _ q]
    have ha : ∀ j, j < 7 → up2 (up2 (up2 (up2 (up2 (up2 (up2 g 107 0 (l_g S 3 0)) 107 1 (l_g S 5 p)) 107 2 (lasM S)) 107 3 (l_g S 3 1)) 107 4 (l_g S 4 p)) 107 5 (t_g T 0 p)) 107 6 (nI (sunM S p)) 107 j = askM T S p j := by
      intro j hj
      rcases (show j = 0 ∨ j = 1 ∨ j = 2 ∨ j = 3 ∨ j = 4 ∨ j = 5 ∨ j = 6 by omega) with rfl | rfl | rfl | rfl | rfl | rfl | rfl <;> simp [up2, askM]
    generalize up2 (up2 (up2 (up2 (up2 (up2 (up2 g 107 0 (l_g S 3 0)) 107 1 (l_g S 5 p)) 107 2 (lasM S)) 107 3 (l_g S 3 1)) 107 4 (l_g S 4 p)) 107 5 (t_g T 0 p)) 107 6 (nI (sunM S p)) = h at *
    have hc : ∀ i, i < t_rn T → h 95 i = t_g T 3 i := fun i hi => by rw [hz 95 (by decide)]; exact q11 i hi
    have eE : evM (h 107) (h 95) (t_rn T) = evM (askM T S p) (t_g T 3) (t_rn T) := by rw [evM_cc hc]; exact evM_cg (oT.2.1 _) ha _ (Nat.le_refl _)
    refine c_X12_valueNow (n := t_rn T) (by rw [hz 87 (by decide)]; exact q5) q6 (by omega) (wfE_cc (oT.2.1 _) hc) (fun g2 hg2 => ?_)
    rw [eE]
    refine b_iret rfl (by decide) dX12_byRule_103 ?_
    have hq9 := hq g2 (fun z k1 k2 => by rw [hg2 z k2]; exact hz z k1)
    unfold ruM at hq9
    rw [if_neg h6b] at hq9
    exact hq9
  · have h6b : t_rn T = 0 := by
      rcases Nat.eq_zero_or_pos (t_rn T) with q | q
      · exact q
      · rw [q5] at h6; exact absurd h6 (nI_ne0 q (by omega))
    refine b_aload_n dX12_byRule_9 rfl rfl ?_
    refine b_getR (b := 100) lf_X12_82 rfl rfl dX12_byRule_10 ?_
    refine b_iload_n dX12_byRule_13 rfl rfl ?_
    refine b_ildN (j := p) dX12_byRule_14 (rfl) (by show _ < 8; omega) ?_
    refine b_aload_n dX12_byRule_15 rfl rfl ?_
    refine b_getI lf_X12_318 rfl dX12_byRule_16 ?_
    refine b_iadd dX12_byRule_19 ?_
    refine b_iret rfl (by decide) dX12_byRule_20 ?_
    have hq9 := hq g (fun _ _ _ => rfl)
    unfold ruM at hq9
    rw [if_pos h6b] at hq9
    rw [r12 p hp, r7]
    exact hq9
