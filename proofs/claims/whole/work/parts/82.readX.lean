theorem c_X12_readAnd {f : Nat → Nat} {n d ar : Nat} {body : MS → MS} (har : ar < 100) (hB : MBd f n md_X12_readNot (d + 6) ar body) (hL : Len f n body) : MBd f n md_X12_readAnd (d + 7) ar (rLev f n P108 body) := by
  intro E Q X g s hR hlen hq
  have hn := hR.1.2.1
  refine M.of _ rfl rfl (Nat.le_of_ble_eq_true rfl) ?_
  have key : ∀ (F : Nat) (h : G2) (s1 : MS), FP g h → RMs h f n s1 → (s1.bad = 0 → s1.c.length ≤ s1.t.pl ∧ n < F + s1.t.pl) → lpW f n P108 body F s1 = rLev f n P108 body s → B E md_X12_readAnd (d + 7) Q X 5 [(0, .ref 84), (1, .int (nI ar))] [] h 0 := by
    intro F
    induction F using Nat.strongRecOn with
    | ind F ih =>
    intro h s1 F1 R hl hT
    refine b_aload_n dX12_readAnd_5 rfl rfl ?_
    refine b_ldcSW (tx := "and") (n := 44) (by decide +kernel) dX12_readAnd_6 ?_
    refine b_callV (As := [_]) (st := []) dX12_readAnd_9 lk_X12_228 lm_X12_is lv_X12_is rfl (by decide) rfl rfl rfl (Nat.le_of_ble_eq_true rfl) (Nat.le_refl _) (by decide) ?_
    refine c_X12_is (d := d + 2) R (q := (44, 3, [97, 110, 100])) (w := [97, 110, 100]) (k := 108) (by decide +kernel) ⟨rfl, rfl, by decide, by decide⟩ (by decide +kernel) ?_
    refine b_if_eq (tgt := 33) dX12_readAnd_12 (by decide) (fun h12 => ?_) (fun h12 => ?_)
    · have e12 := b2i_0 h12
      refine b_vret rfl (by decide) dX12_readAnd_33 (hq h F1 ?_)
      rw [← hT, lpW_stop (fun q => ?_)]
      · exact R
      · exact of_decide_eq_false e12 ⟨q.1, by simpa [P108] using q.2⟩
    · have e12 := b2i_1 h12
      have hc := of_decide_eq_true e12
      refine b_aload_n dX12_readAnd_15 rfl rfl ?_
      refine b_callV (As := []) (st := []) dX12_readAnd_16 lk_X12_239 lm_X12_stepOn lv_X12_stepOn rfl (by decide) rfl rfl rfl (Nat.le_of_ble_eq_true rfl) (Nat.le_refl _) (by decide) ?_
      refine c_X12_stepOn (d := d + 5) R.1 R.2.1.1 R.2.2.1.ok.1 (fun h2 F2 T2 => ?_)
      have R2 := R.adv F2 T2
      obtain ⟨hn2, hp3⟩ := R.2.2.1.ok.adv (f := f) (by rw [hc.2]; decide)
      refine b_aload_n dX12_readAnd_19 rfl rfl ?_
      refine b_iload_n dX12_readAnd_20 rfl rfl ?_
      refine b_callV (As := [_]) (st := []) dX12_readAnd_21 lk_X12_272 lm_X12_readNot lv_X12_readNot rfl (by decide) rfl rfl rfl (Nat.le_of_ble_eq_true rfl) (Nat.le_refl _) (by decide) ?_
      refine hB _ _ _ _ _ R2 (fun _ => ?_) (fun h3 F3 R3 => ?_)
      · show s1.c.length ≤ (nxt f n s1.t.af).pl; have := (hl hc.1).1; omega
      have hL3 : (body (adv f n s1)).bad = 0 → (body (adv f n s1)).c.length + 1 ≤ (body (adv f n s1)).t.pl ∧ (body (adv f n s1)).t.pl ≤ n ∧ s1.t.pl < (body (adv f n s1)).t.pl := by
        intro q
        obtain ⟨w1, w2, w3⟩ := hL.2 (adv f n s1) hc.1 hn2 q
        have w2 : (nxt f n s1.t.af).pl < _ := w2
        have w3 : _ + (nxt f n s1.t.af).pl ≤ s1.c.length + _ := w3
        have := (hl hc.1).1
        exact ⟨by omega, w1.2.1, by omega⟩
      refine b_aload_n dX12_readAnd_24 rfl rfl ?_
      refine b_bipush (v := (-26)) dX12_readAnd_25 (by decide +kernel) ?_
      refine b_callV (As := [_]) (st := []) dX12_readAnd_27 lk_X12_248 lm_X12_lay lv_X12_lay rfl (by decide) rfl rfl rfl (Nat.le_of_ble_eq_true rfl) (Nat.le_refl _) (by decide) ?_
      refine c_X12_lay R3 (x := -(nI s1.t.k)) (by rw [hc.2]; decide +kernel) (fun q => by have := hL3 q; omega) (fun h4 F4 R4 => ?_)
      refine b_goto (tgt := 5) dX12_readAnd_30 (by decide) ?_
      obtain ⟨F', rfl⟩ : ∃ F', F = F' + 1 := ⟨F - 1, by have := (hl hc.1).2; have := R.2.2.1.ok.2.1; omega⟩
      refine ih F' (Nat.lt_succ_self _) h4 _ (F1.tr (F2.fp.tr (F3.tr F4))) R4 (fun q => ?_) ?_
      · by_cases q3 : (body (adv f n s1)).bad = 0
        · obtain ⟨w1, w2, w3⟩ := hL3 q3
          have := (hl hc.1).2
          rw [layM_ok q3]
          exact ⟨w1, by show n < F' + (body (adv f n s1)).t.pl; omega⟩
        · rw [layM_bad q3] at q; exact absurd q q3
      · rw [← hT]; simp only [lpW]; rw [if_pos ⟨hc.1, by rw [hc.2]; rfl⟩]
  refine b_aload_n dX12_readAnd_0 rfl rfl ?_
  refine b_iload_n dX12_readAnd_1 rfl rfl ?_
  refine b_callV (As := [_]) (st := []) dX12_readAnd_2 lk_X12_272 lm_X12_readNot lv_X12_readNot rfl (by decide) rfl rfl rfl (Nat.le_of_ble_eq_true rfl) (Nat.le_refl _) (by decide) ?_
  refine hB _ _ _ _ _ hR hlen (fun h1 F1 R1 => ?_)
  refine key 601 h1 (body s) F1 R1 (fun q => ?_) rfl
  by_cases q0 : s.bad = 0
  · obtain ⟨w1, w2, w3⟩ := hL.2 s q0 hR.2.2.1.ok q
    have := hlen q0
    exact ⟨by omega, by omega⟩
  · rw [hL.1 s q0] at q; exact absurd q q0
theorem c_X12_readExpression {f : Nat → Nat} {n d ar : Nat} {body fn : MS → MS} (har : ar < 100) (hB : MBd f n md_X12_readAnd (d + 6) ar body) (hL : Len f n body) (hfn0 : ∀ s : MS, s.bad ≠ 0 → fn s = s) (hno : ∀ s : MS, s.bad = 0 → ¬ (s.t.k = 2 ∨ 99 ≤ s.t.k ∨ s.t.k = 40) → fn s = wr 1 s) (h6 : ∀ s : MS, s.bad = 0 → (s.t.k = 2 ∨ 99 ≤ s.t.k ∨ s.t.k = 40) → ar = 6 → fn s = wr 2 s) (hgo : ∀ s : MS, s.bad = 0 → (s.t.k = 2 ∨ 99 ≤ s.t.k ∨ s.t.k = 40) → ar ≠ 6 → fn s = rLev f n P107 body s) : MBd f n md_X12_readExpression (d + 7) ar fn := by
  intro E Q X g s hR hlen hq
  have hfn0 := hfn0 s
  have hno := hno s
  have h6 := h6 s
  have hgo := hgo s
  refine M.of _ rfl rfl (Nat.le_of_ble_eq_true rfl) ?_
  have hpaf := hR.2.2.1.pa
  have hn := hR.1.2.1
  have hok := hR.2.2.1.ok
  have hkl := tkM_le s.t.k
  have hb5 := hR.2.2.2.2.1
  have hp1 := hok.1
  have hp2 := hok.2.1
  have key : ∀ (F : Nat) (h : G2) (s1 : MS), FP g h → RMs h f n s1 → (s1.bad = 0 → s1.c.length ≤ s1.t.pl ∧ n < F + s1.t.pl) → lpW f n P107 body F s1 = fn s → ∀ x2 : Int32, B E md_X12_readExpression (d + 7) Q X 67 [(0, .ref 84), (1, .int (nI ar)), (2, .int x2)] [] h 0 := by
    intro F
    induction F using Nat.strongRecOn with
    | ind F ih =>
    intro h s1 F1 R hl hT x2
    refine b_aload_n dX12_readExpression_67 rfl rfl ?_
    refine b_ldcSW (tx := "or") (n := 45) (by decide +kernel) dX12_readExpression_68 ?_
    refine b_callV (As := [_]) (st := []) dX12_readExpression_71 lk_X12_228 lm_X12_is lv_X12_is rfl (by decide) rfl rfl rfl (Nat.le_of_ble_eq_true rfl) (Nat.le_refl _) (by decide) ?_
    refine c_X12_is (d := d + 2) R (q := (45, 2, [111, 114])) (w := [111, 114]) (k := 107) (by decide +kernel) ⟨rfl, rfl, by decide, by decide⟩ (by decide +kernel) ?_
    refine b_if_eq (tgt := 95) dX12_readExpression_74 (by decide) (fun h74 => ?_) (fun h74 => ?_)
    · have e74 := b2i_0 h74
      refine b_vret rfl (by decide) dX12_readExpression_95 (hq h F1 ?_)
      rw [← hT, lpW_stop (fun q => ?_)]
      · exact R
      · exact of_decide_eq_false e74 ⟨q.1, by simpa [P107] using q.2⟩
    · have e74 := b2i_1 h74
      have hc := of_decide_eq_true e74
      refine b_aload_n dX12_readExpression_77 rfl rfl ?_
      refine b_callV (As := []) (st := []) dX12_readExpression_78 lk_X12_239 lm_X12_stepOn lv_X12_stepOn rfl (by decide) rfl rfl rfl (Nat.le_of_ble_eq_true rfl) (Nat.le_refl _) (by decide) ?_
      refine c_X12_stepOn (d := d + 5) R.1 R.2.1.1 R.2.2.1.ok.1 (fun h2 F2 T2 => ?_)
      have R2 := R.adv F2 T2
      obtain ⟨hn2, hp3⟩ := R.2.2.1.ok.adv (f := f) (by rw [hc.2]; decide)
      refine b_aload_n dX12_readExpression_81 rfl rfl ?_
      refine b_iload_n dX12_readExpression_82 rfl rfl ?_
      refine b_callV (As := [_]) (st := []) dX12_readExpression_83 lk_X12_277 lm_X12_readAnd lv_X12_readAnd rfl (by decide) rfl rfl rfl (Nat.le_of_ble_eq_true rfl) (Nat.le_refl _) (by decide) ?_
      refine hB _ _ _ _ _ R2 (fun _ => ?_) (fun h3 F3 R3 => ?_)
      · show s1.c.length ≤ (nxt f n s1.t.af).pl; have := (hl hc.1).1; omega
      have hL3 : (body (adv f n s1)).bad = 0 → (body (adv f n s1)).c.length + 1 ≤ (body (adv f n s1)).t.pl ∧ (body (adv f n s1)).t.pl ≤ n ∧ s1.t.pl < (body (adv f n s1)).t.pl := by
        intro q
        obtain ⟨w1, w2, w3⟩ := hL.2 (adv f n s1) hc.1 hn2 q
        have w2 : (nxt f n s1.t.af).pl < _ := w2
        have w3 : _ + (nxt f n s1.t.af).pl ≤ s1.c.length + _ := w3
        have := (hl hc.1).1
        exact ⟨by omega, w1.2.1, by omega⟩
      refine b_aload_n dX12_readExpression_86 rfl rfl ?_
      refine b_bipush (v := (-27)) dX12_readExpression_87 (by decide +kernel) ?_
      refine b_callV (As := [_]) (st := []) dX12_readExpression_89 lk_X12_248 lm_X12_lay lv_X12_lay rfl (by decide) rfl rfl rfl (Nat.le_of_ble_eq_true rfl) (Nat.le_refl _) (by decide) ?_
      refine c_X12_lay R3 (x := -(nI s1.t.k)) (by rw [hc.2]; decide +kernel) (fun q => by have := hL3 q; omega) (fun h4 F4 R4 => ?_)
      refine b_goto (tgt := 67) dX12_readExpression_92 (by decide) ?_
      obtain ⟨F', rfl⟩ : ∃ F', F = F' + 1 := ⟨F - 1, by have := (hl hc.1).2; have := R.2.2.1.ok.2.1; omega⟩
      refine ih F' (Nat.lt_succ_self _) h4 _ (F1.tr (F2.fp.tr (F3.tr F4))) R4 (fun q => ?_) ?_ x2
      · by_cases q3 : (body (adv f n s1)).bad = 0
        · obtain ⟨w1, w2, w3⟩ := hL3 q3
          have := (hl hc.1).2
          rw [layM_ok q3]
          exact ⟨w1, by show n < F' + (body (adv f n s1)).t.pl; omega⟩
        · rw [layM_bad q3] at q; exact absurd q q3
      · rw [← hT]; simp only [lpW]; rw [if_pos ⟨hc.1, by rw [hc.2]; rfl⟩]
  have C62a : ∀ x2 : Int32, fn s = rLev f n P107 body s → B E md_X12_readExpression (d + 7) Q X 62 [(0, .ref 84), (1, .int (nI ar)), (2, .int x2)] [] g 0 := by
    intro x2 hx
    refine b_aload_n dX12_readExpression_62 rfl rfl ?_
    refine b_iload_n dX12_readExpression_63 rfl rfl ?_
    refine b_callV (As := [_]) (st := []) dX12_readExpression_64 lk_X12_277 lm_X12_readAnd lv_X12_readAnd rfl (by decide) rfl rfl rfl (Nat.le_of_ble_eq_true rfl) (Nat.le_refl _) (by decide) ?_
    refine hB _ _ _ _ _ hR hlen (fun h1 F1 R1 => ?_)
    refine key 601 h1 (body s) F1 R1 (fun q => ?_) (by rw [hx]; rfl) _
    by_cases q0 : s.bad = 0
    · obtain ⟨w1, w2, w3⟩ := hL.2 s q0 hR.2.2.1.ok q
      have := hlen q0
      exact ⟨by omega, by omega⟩
    · rw [hL.1 s q0] at q; exact absurd q q0
  have C62b : ∀ (x2 : Int32) (h1 : G2), FP g h1 → ∀ s1 : MS, RMs h1 f n s1 → s1.bad ≠ 0 → fn s = s1 → B E md_X12_readExpression (d + 7) Q X 62 [(0, .ref 84), (1, .int (nI ar)), (2, .int x2)] [] h1 0 := by
    intro x2 h1 F1 s1 R1 hbd hx
    refine b_aload_n dX12_readExpression_62 rfl rfl ?_
    refine b_iload_n dX12_readExpression_63 rfl rfl ?_
    refine b_callV (As := [_]) (st := []) dX12_readExpression_64 lk_X12_277 lm_X12_readAnd lv_X12_readAnd rfl (by decide) rfl rfl rfl (Nat.le_of_ble_eq_true rfl) (Nat.le_refl _) (by decide) ?_
    refine hB _ _ _ _ _ R1 (fun q => absurd q hbd) (fun h2 F2 R2 => ?_)
    rw [hL.1 _ hbd] at R2
    refine key 601 h2 s1 (F1.tr F2) R2 (fun q => absurd q hbd) (by rw [lpW_bad hbd, hx]) _
  have C38 : s.bad = 0 → ∀ b : Bool, (b = true ↔ (s.t.k = 2 ∨ 99 ≤ s.t.k ∨ s.t.k = 40)) → B E md_X12_readExpression (d + 7) Q X 38 [(0, .ref 84), (1, .int (nI ar))] [.int (b2i b)] g 0 := by
    intro e4 b hb
    refine b_istore_n (lv' := [(0, _), (1, _), (2, _)]) dX12_readExpression_38 rfl (by decide) rfl rfl ?_
    refine b_iload_n dX12_readExpression_39 rfl rfl ?_
    refine b_if_ne (tgt := 51) dX12_readExpression_40 (by decide) (fun h40 => ?_) (fun h40 => ?_)
    · have e40 := b2i_1 h40
      have hyes := hb.mp e40
      refine b_iload_n dX12_readExpression_51 rfl rfl ?_
      refine b_bipush (v := 6) dX12_readExpression_52 (by decide +kernel) ?_
      refine b_icmp_ne (tgt := 62) dX12_readExpression_54 (by decide) (fun h54 => ?_) (fun h54 => ?_)
      · have e54 : ar ≠ 6 := fun q => h54 (congrArg nI q)
        exact C62a _ (hgo e4 hyes e54)
      · have e54 : ar = 6 := nI_inj (a := ar) (b := 6) (by omega) (by omega) h54
        refine b_aload_n dX12_readExpression_57 rfl rfl ?_
        refine b_iconst (v := 2) dX12_readExpression_58 (by decide +kernel) ?_
        refine b_callV (As := [_]) (st := []) dX12_readExpression_59 lk_X12_235 lm_X12_wrong lv_X12_wrong rfl (by decide) rfl rfl rfl (Nat.le_of_ble_eq_true rfl) (Nat.le_refl _) (by decide) ?_
        refine c_X12_wrong (k := 2) hR (by decide) (fun h1 F1 R1 => ?_)
        exact C62b _ h1 F1 _ R1 (by rw [wr_ok e4]; exact Nat.succ_ne_zero 1) (h6 e4 hyes e54)
    · have e40 := b2i_0 h40
      refine b_aload_n dX12_readExpression_43 rfl rfl ?_
      refine b_iconst (v := 1) dX12_readExpression_44 (by decide +kernel) ?_
      refine b_callV (As := [_]) (st := []) dX12_readExpression_45 lk_X12_235 lm_X12_wrong lv_X12_wrong rfl (by decide) rfl rfl rfl (Nat.le_of_ble_eq_true rfl) (Nat.le_refl _) (by decide) ?_
      refine c_X12_wrong (k := 1) hR (by decide) (fun h1 F1 R1 => ?_)
      refine b_goto (tgt := 62) dX12_readExpression_48 (by decide) ?_
      exact C62b _ h1 F1 _ R1 (by rw [wr_ok e4]; exact Nat.one_ne_zero) (hno e4 (fun q => by rw [hb.mpr q] at e40; cases e40))
  refine b_aload_n dX12_readExpression_0 rfl rfl ?_
  refine b_getI lf_X12_214 rfl dX12_readExpression_1 ?_
  refine b_topE (hR.2.2.2.1) ?_
  refine b_if_eq (tgt := 8) dX12_readExpression_4 (by decide) (fun h4 => ?_) (fun h4 => ?_)
  · have e4 : s.bad = 0 := nI_inj (b := 0) (by omega) (by decide) h4
    refine b_aload_n dX12_readExpression_8 rfl rfl ?_
    refine b_getI lf_X12_188 rfl dX12_readExpression_9 ?_
    refine b_topE (hR.2.1.2.2.2.1) ?_
    refine b_iconst (v := 2) dX12_readExpression_12 (by decide +kernel) ?_
    refine b_icmp_eq (tgt := 33) dX12_readExpression_13 (by decide) (fun h13 => ?_) (fun h13 => ?_)
    · have e13 : (tkM s.t.k) = 2 := nI_inj (a := (tkM s.t.k)) (b := 2) (by omega) (by omega) h13
      refine b_iconst (v := 1) dX12_readExpression_33 (by decide +kernel) ?_
      refine b_goto (tgt := 38) dX12_readExpression_34 (by decide) ?_
      exact C38 e4 true ⟨fun _ => Or.inl ((tkM_2 hR.2.2.1).mp e13), fun _ => rfl⟩
    · have e13 : (tkM s.t.k) ≠ 2 := fun q => h13 (congrArg nI q)
      refine b_aload_n dX12_readExpression_16 rfl rfl ?_
      refine b_getI lf_X12_188 rfl dX12_readExpression_17 ?_
      refine b_topE (hR.2.1.2.2.2.1) ?_
      refine b_iconst (v := 1) dX12_readExpression_20 (by decide +kernel) ?_
      refine b_icmp_eq (tgt := 33) dX12_readExpression_21 (by decide) (fun h21 => ?_) (fun h21 => ?_)
      · have e21 : (tkM s.t.k) = 1 := nI_inj (a := (tkM s.t.k)) (b := 1) (by omega) (by omega) h21
        refine b_iconst (v := 1) dX12_readExpression_33 (by decide +kernel) ?_
        refine b_goto (tgt := 38) dX12_readExpression_34 (by decide) ?_
        exact C38 e4 true ⟨fun _ => Or.inr (Or.inl ((tkM_1 hR.2.2.1).mp e21)), fun _ => rfl⟩
      · have e21 : (tkM s.t.k) ≠ 1 := fun q => h21 (congrArg nI q)
        refine b_aload_n dX12_readExpression_24 rfl rfl ?_
        refine b_bipush (v := 40) dX12_readExpression_25 (by decide +kernel) ?_
        refine b_callV (As := [_]) (st := []) dX12_readExpression_27 lk_X12_232 lm_X12_isMarked lv_X12_isMarked rfl (by decide) rfl rfl rfl (Nat.le_of_ble_eq_true rfl) (Nat.le_refl _) (by decide) ?_
        refine c_X12_isMarked hR (k := 40) (by decide) ?_
        refine b_if_eq (tgt := 37) dX12_readExpression_30 (by decide) (fun h30 => ?_) (fun h30 => ?_)
        · have e30 := b2i_0 h30
          refine b_iconst (v := 0) dX12_readExpression_37 (by decide +kernel) ?_
          refine C38 e4 false ⟨(fun q => by cases q), fun q => ?_⟩
          rcases q with q | q | q
          · exact absurd ((tkM_2 hR.2.2.1).mpr q) e13
          · exact absurd ((tkM_1 hR.2.2.1).mpr q) e21
          · rw [decide_eq_true e4, decide_eq_true q] at e30; cases e30
        · have e30 := b2i_1 h30
          refine b_iconst (v := 1) dX12_readExpression_33 (by decide +kernel) ?_
          refine b_goto (tgt := 38) dX12_readExpression_34 (by decide) ?_
          simp only [Bool.and_eq_true, decide_eq_true_eq] at e30
          exact C38 e4 true ⟨fun _ => Or.inr (Or.inr e30.2), fun _ => rfl⟩
  · have e4 : s.bad ≠ 0 := fun q => h4 (by rw [q]; rfl)
    refine b_vret rfl (by decide) dX12_readExpression_7 ?_
    exact hq g (FP.rf g) (by rw [hfn0 e4]; exact hR)
theorem c_X12_notL {f : Nat → Nat} {n d ar m : Nat} {E : En} {Q : QT} {X : XT} {g : G2} {tg : MS} (hm : m ≤ 7) (hq : ∀ h, FP g h → RMs h f n tg → Q none h) : ∀ i, i ≤ m → ∀ (h : G2) (s1 : MS), FP g h → RMs h f n s1 → (s1.bad = 0 → s1.c.length + (m - i) ≤ 600) → layN (-109) (m - i) s1 = tg → B E md_X12_readNot (d + 7) Q X 96 [(0, .ref 84), (1, .int (nI ar)), (2, .int (nI m)), (3, .int (nI i))] [] h 0 := by
  refine lp_up (P := fun i => ∀ (h : G2) (s1 : MS), FP g h → RMs h f n s1 → (s1.bad = 0 → s1.c.length + (m - i) ≤ 600) → layN (-109) (m - i) s1 = tg → B E md_X12_readNot (d + 7) Q X 96 [(0, .ref 84), (1, .int (nI ar)), (2, .int (nI m)), (3, .int (nI i))] [] h 0) (fun i hi ih h s1 F1 R hl hT => ?_)
  refine b_iload_n dX12_readNot_96 rfl rfl ?_
  refine b_iload_n dX12_readNot_97 rfl rfl ?_
  refine b_icmp_ge (tgt := 113) dX12_readNot_98 (by decide) (fun h98 => ?_) (fun h98 => ?_)
  · have e98 : m ≤ i := nn_le (a := m) (b := i) (by omega) (by omega) h98
    refine b_vret rfl (by decide) dX12_readNot_113 (hq h F1 ?_)
    rw [← hT, show m - i = 0 by omega]; exact R
  · have e98 : i < m := nn_nle (a := m) (b := i) (by omega) (by omega) h98
    refine b_aload_n dX12_readNot_101 rfl rfl ?_
    refine b_bipush (v := (-28)) dX12_readNot_102 (by decide +kernel) ?_
    refine b_callV (As := [_]) (st := []) dX12_readNot_104 lk_X12_248 lm_X12_lay lv_X12_lay rfl (by decide) rfl rfl rfl (Nat.le_of_ble_eq_true rfl) (Nat.le_refl _) (by decide) ?_
    refine c_X12_lay R (x := -109) (by decide +kernel) (fun q => by have := hl q; omega) (fun h4 F4 R4 => ?_)
    refine b_incN (j := i) (lv' := [(0, _), (1, _), (2, _), (3, _)]) dX12_readNot_107 rfl rfl (by decide) rfl rfl ?_
    refine b_goto (tgt := 96) dX12_readNot_110 (by decide) ?_
    refine ih (i + 1) (by omega) (by omega) h4 _ (F1.tr F4) R4 (fun q => ?_) ?_
    · by_cases q3 : s1.bad = 0
      · have := hl q3
        rw [layM_ok q3]
        show s1.c.length + 1 + (m - (i + 1)) ≤ 600
        omega
      · rw [layM_bad q3] at q; exact absurd q q3
    · rw [← hT, show m - i = (m - (i + 1)) + 1 by omega]; rfl
theorem c_X12_notT {f : Nat → Nat} {n d ar m : Nat} {sum : MS → MS} (hB : MBd f n md_X12_readSum (d + 6) ar sum) (hL : Len f n sum) {E : En} {Q : QT} {X : XT} {g h : G2} {s1 tg : MS} (hn : n ≤ 600) (har : ar < 100) (hm : m ≤ 7) (hq : ∀ h, FP g h → RMs h f n tg → Q none h) (F1 : FP g h) (R : RMs h f n s1) (hl : s1.bad = 0 → s1.c.length + m ≤ s1.t.pl) (hT : layN (-109) m (rTst f n sum s1) = tg) : B E md_X12_readNot (d + 7) Q X 45 [(0, .ref 84), (1, .int (nI ar)), (2, .int (nI m))] [] h 0 := by
  have C94 : ∀ h1, FP g h1 → ∀ s2 : MS, RMs h1 f n s2 → (s2.bad = 0 → s2.c.length + m ≤ s2.t.pl) → layN (-109) m s2 = tg → B E md_X12_readNot (d + 7) Q X 94 [(0, .ref 84), (1, .int (nI ar)), (2, .int (nI m))] [] h1 0 := by
    intro h1 G1 s2 R1 hl1 hx
    refine b_iconst (v := 0) dX12_readNot_94 (by decide +kernel) ?_
    refine b_istore_n (lv' := [(0, _), (1, _), (2, _), (3, _)]) dX12_readNot_95 rfl (by decide) rfl rfl ?_
    exact c_X12_notL hm hq 0 (Nat.zero_le _) h1 s2 G1 R1 (fun q => by have := hl1 q; have := R1.2.2.1.ok.2.1; omega) hx
  have C79 : ∀ y : Int32, y = trC (-(nI s1.t.k)) → (s1.bad = 0 ∧ P60 s1.t.k = true) → B E md_X12_readNot (d + 7) Q X 79 [(0, .ref 84), (1, .int (nI ar)), (2, .int (nI m))] [.int y] h 0 := by
    intro y hy hc
    refine b_istore_n (lv' := [(0, _), (1, _), (2, _), (3, _)]) dX12_readNot_79 rfl (by decide) rfl rfl ?_
    refine b_aload_n dX12_readNot_80 rfl rfl ?_
    refine b_callV (As := []) (st := []) dX12_readNot_81 lk_X12_239 lm_X12_stepOn lv_X12_stepOn rfl (by decide) rfl rfl rfl (Nat.le_of_ble_eq_true rfl) (Nat.le_refl _) (by decide) ?_
    refine c_X12_stepOn (d := d + 5) R.1 R.2.1.1 R.2.2.1.ok.1 (fun h2 F2 T2 => ?_)
    have R2 := R.adv F2 T2
    obtain ⟨hn2, hp3⟩ := R.2.2.1.ok.adv (f := f) (P60_0 hc.2)
    refine b_aload_n dX12_readNot_84 rfl rfl ?_
    refine b_iload_n dX12_readNot_85 rfl rfl ?_
    refine b_callV (As := [_]) (st := []) dX12_readNot_86 lk_X12_269 lm_X12_readSum lv_X12_readSum rfl (by decide) rfl rfl rfl (Nat.le_of_ble_eq_true rfl) (Nat.le_refl _) (by decide) ?_
    refine hB _ _ _ _ _ R2 (fun _ => ?_) (fun h3 F3 R3 => ?_)
    · show s1.c.length ≤ (nxt f n s1.t.af).pl; have := hl hc.1; omega
    have hL3 : (sum (adv f n s1)).bad = 0 → (sum (adv f n s1)).c.length + 1 + m ≤ (sum (adv f n s1)).t.pl ∧ (sum (adv f n s1)).t.pl ≤ n := by
      intro q
      obtain ⟨w1, w2, w3⟩ := hL.2 (adv f n s1) hc.1 hn2 q
      have w3 : _ + (nxt f n s1.t.af).pl ≤ s1.c.length + _ := w3
      have := hl hc.1
      exact ⟨by omega, w1.2.1⟩
    refine b_aload_n dX12_readNot_89 rfl rfl ?_
    refine b_iload_n dX12_readNot_90 rfl rfl ?_
    refine b_callV (As := [_]) (st := []) dX12_readNot_91 lk_X12_248 lm_X12_lay lv_X12_lay rfl (by decide) rfl rfl rfl (Nat.le_of_ble_eq_true rfl) (Nat.le_refl _) (by decide) ?_
    refine c_X12_lay R3 (x := -(nI s1.t.k)) hy (fun q => by have := hL3 q; omega) (fun h4 F4 R4 => ?_)
    refine b_take 3 ?_
    refine C94 h4 (F1.tr (F2.fp.tr (F3.tr F4))) _ R4 (fun q => ?_) ?_
    · by_cases q3 : (sum (adv f n s1)).bad = 0
      · have := hL3 q3
        rw [layM_ok q3]
        show (sum (adv f n s1)).c.length + 1 + m ≤ (sum (adv f n s1)).t.pl
        omega
      · rw [layM_bad q3] at q; exact absurd q q3
    · rw [← hT, show rTst f n sum s1 = layM (-(nI s1.t.k)) (sum (adv f n s1)) from if_pos hc]
  have C63 : (s1.bad = 0 ∧ P60 s1.t.k = true) → B E md_X12_readNot (d + 7) Q X 63 [(0, .ref 84), (1, .int (nI ar)), (2, .int (nI m))] [] h 0 := by
    intro hc
    refine b_aload_n dX12_readNot_63 rfl rfl ?_
    refine b_bipush (v := 60) dX12_readNot_64 (by decide +kernel) ?_
    refine b_callV (As := [_]) (st := []) dX12_readNot_66 lk_X12_232 lm_X12_isMarked lv_X12_isMarked rfl (by decide) rfl rfl rfl (Nat.le_of_ble_eq_true rfl) (Nat.le_refl _) (by decide) ?_
    refine c_X12_isMarked R (k := 60) (by decide) ?_
    refine b_if_eq (tgt := 77) dX12_readNot_69 (by decide) (fun h69 => ?_) (fun h69 => ?_)
    · have e69 := b2i_0 h69
      refine b_bipush (v := (-25)) dX12_readNot_77 (by decide +kernel) ?_
      refine C79 _ ?_ hc
      have q2 : s1.t.k = 60 ∨ s1.t.k = 61 := by simpa [P60] using hc.2
      rcases q2 with q2 | q2
      · rw [decide_eq_true hc.1, decide_eq_true q2] at e69; cases e69
      · rw [q2]; decide +kernel
    · have e69 := b2i_1 h69
      refine b_bipush (v := (-24)) dX12_readNot_72 (by decide +kernel) ?_
      refine b_goto (tgt := 79) dX12_readNot_74 (by decide) ?_
      refine C79 _ ?_ hc
      simp only [Bool.and_eq_true, decide_eq_true_eq] at e69
      rw [e69.2]; decide +kernel
  refine b_aload_n dX12_readNot_45 rfl rfl ?_
  refine b_bipush (v := 60) dX12_readNot_46 (by decide +kernel) ?_
  refine b_callV (As := [_]) (st := []) dX12_readNot_48 lk_X12_232 lm_X12_isMarked lv_X12_isMarked rfl (by decide) rfl rfl rfl (Nat.le_of_ble_eq_true rfl) (Nat.le_refl _) (by decide) ?_
  refine c_X12_isMarked R (k := 60) (by decide) ?_
  refine b_if_ne (tgt := 63) dX12_readNot_51 (by decide) (fun h51 => ?_) (fun h51 => ?_)
  · have e51 := b2i_1 h51
    exact C63 (by simp only [Bool.and_eq_true, decide_eq_true_eq] at e51; exact ⟨e51.1, by rw [e51.2]; rfl⟩)
  · have e51 := b2i_0 h51
    refine b_aload_n dX12_readNot_54 rfl rfl ?_
    refine b_bipush (v := 61) dX12_readNot_55 (by decide +kernel) ?_
    refine b_callV (As := [_]) (st := []) dX12_readNot_57 lk_X12_232 lm_X12_isMarked lv_X12_isMarked rfl (by decide) rfl rfl rfl (Nat.le_of_ble_eq_true rfl) (Nat.le_refl _) (by decide) ?_
    refine c_X12_isMarked R (k := 61) (by decide) ?_
    refine b_if_eq (tgt := 94) dX12_readNot_60 (by decide) (fun h60 => ?_) (fun h60 => ?_)
    · have e60 := b2i_0 h60
      refine C94 h F1 s1 R hl ?_
      rw [← hT, show rTst f n sum s1 = s1 from if_neg (fun q => ?_)]
      have q2 : s1.t.k = 60 ∨ s1.t.k = 61 := by simpa [P60] using q.2
      rcases q2 with q2 | q2
      · rw [decide_eq_true q.1, decide_eq_true q2] at e51; cases e51
      · rw [decide_eq_true q.1, decide_eq_true q2] at e60; cases e60
    · have e60 := b2i_1 h60
      exact C63 (by simp only [Bool.and_eq_true, decide_eq_true_eq] at e60; exact ⟨e60.1, by rw [e60.2]; rfl⟩)
theorem ntL_stop {f : Nat → Nat} {n F m : Nat} {s : MS} (h : ¬ (s.bad = 0 ∧ s.t.k = 109)) : ntL f n F m s = (m, s) := by
  cases F with
  | zero => rfl
  | succ F => simp only [ntL]; rw [if_neg h]
theorem c_X12_readNot {f : Nat → Nat} {n d ar : Nat} {sum : MS → MS} (har : ar < 100) (hB : MBd f n md_X12_readSum (d + 6) ar sum) (hL : Len f n sum) : MBd f n md_X12_readNot (d + 7) ar (rNot f n sum) := by
  intro E Q X g s hR hlen hq
  have hn := hR.1.2.1
  refine M.of _ rfl rfl (Nat.le_of_ble_eq_true rfl) ?_
  have K40 : ∀ (h : G2) (s1 : MS), FP g h → RMs h f n s1 → ∀ m, m ≤ 7 → ntL f n 8 0 s = (m, s1) → B E md_X12_readNot (d + 7) Q X 40 [(0, .ref 84), (1, .int (nI ar)), (2, .int (nI m))] [] h 0 := by
    intro h s1 F1 R m hm hx
    have hNL : s1.bad = 0 → s1.c.length ≤ s1.t.pl ∧ s1.c.length + m ≤ s1.t.pl := by
      intro q
      by_cases q0 : s.bad = 0
      · have h9 := ntL_len (f := f) 8 0 s q0 hR.2.2.1.ok
        rw [hx] at h9
        obtain ⟨w1, w2, w3⟩ := h9 q
        have w2 : s1.c = s.c := w2
        have w3 : m + s.t.pl ≤ 0 + s1.t.pl := w3
        have := hlen q0
        rw [w2]
        exact ⟨by omega, by omega⟩
      · rw [ntL_bad q0] at hx; cases hx; exact absurd q q0
    refine b_aload_n dX12_readNot_40 rfl rfl ?_
    refine b_iload_n dX12_readNot_41 rfl rfl ?_
    refine b_callV (As := [_]) (st := []) dX12_readNot_42 lk_X12_269 lm_X12_readSum lv_X12_readSum rfl (by decide) rfl rfl rfl (Nat.le_of_ble_eq_true rfl) (Nat.le_refl _) (by decide) ?_
    refine hB _ _ _ _ _ R (fun q => ?_) (fun h2 F2 R2 => ?_)
    · exact (hNL q).1
    refine c_X12_notT hB hL hn har hm hq (F1.tr F2) R2 (fun q => ?_) ?_
    · by_cases q1 : s1.bad = 0
      · obtain ⟨w1, w2, w3⟩ := hL.2 s1 q1 R.2.2.1.ok q
        have := (hNL q1).2
        omega
      · rw [hL.1 s1 q1] at q; exact absurd q q1
    · unfold rNot; rw [hx]
  have key : ∀ (F m : Nat) (h : G2) (s1 : MS), FP g h → RMs h f n s1 → m ≤ 7 → (s1.bad = 0 → m ≤ 6) → 7 < F + m → ntL f n F m s1 = ntL f n 8 0 s → B E md_X12_readNot (d + 7) Q X 2 [(0, .ref 84), (1, .int (nI ar)), (2, .int (nI m))] [] h 0 := by
    intro F
    induction F with
    | zero => intro m h s1 F1 R hm hl h7; omega
    | succ F ih =>
      intro m h s1 F1 R hm hl h7 hT
      have C23 : (s1.bad = 0 ∧ s1.t.k = 109) → ∀ h2, FP h h2 → ∀ s2 : MS, RMs h2 f n s2 → (if m = 6 then wr 2 s1 else s1) = s2 → B E md_X12_readNot (d + 7) Q X 23 [(0, .ref 84), (1, .int (nI ar)), (2, .int (nI m))] [] h2 0 := by
        intro hc h2 F2 s2 R2 hx
        have hm6 := hl hc.1
        have hb6 := R2.2.2.2.2.1
        refine b_incN (j := m) (lv' := [(0, _), (1, _), (2, _)]) dX12_readNot_23 rfl rfl (by decide) rfl rfl ?_
        refine b_aload_n dX12_readNot_26 rfl rfl ?_
        refine b_getI lf_X12_214 rfl dX12_readNot_27 ?_
        refine b_topE (R2.2.2.2.1) ?_
        refine b_if_ne (tgt := 2) dX12_readNot_30 (by decide) (fun h30 => ?_) (fun h30 => ?_)
        · have e30 : s2.bad ≠ 0 := fun q => h30 (by rw [q]; rfl)
          refine ih (m + 1) h2 _ (F1.tr F2) R2 (by omega) (fun q => ?_) (by omega) ?_
          · exact absurd q e30
          · rw [← hT]; simp only [ntL]; rw [if_pos hc, hx]; unfold adB; rw [if_neg e30]
        · have e30 : s2.bad = 0 := nI_inj (b := 0) (by omega) (by decide) h30
          refine b_aload_n dX12_readNot_33 rfl rfl ?_
          refine b_callV (As := []) (st := []) dX12_readNot_34 lk_X12_239 lm_X12_stepOn lv_X12_stepOn rfl (by decide) rfl rfl rfl (Nat.le_of_ble_eq_true rfl) (Nat.le_refl _) (by decide) ?_
          refine c_X12_stepOn (d := d + 5) R2.1 R2.2.1.1 R2.2.2.1.ok.1 (fun h3 F3 T3 => ?_)
          refine b_goto (tgt := 2) dX12_readNot_37 (by decide) ?_
          refine ih (m + 1) h3 _ (F1.tr (F2.tr F3.fp)) (R2.adv F3 T3) (by omega) (fun q => ?_) (by omega) ?_
          · by_cases h9 : m = 6
            · rw [hx.symm, if_pos h9, wr_ok hc.1] at e30; cases e30
            · omega
          · rw [← hT]; simp only [ntL]; rw [if_pos hc, hx]; unfold adB; rw [if_pos e30]
      refine b_aload_n dX12_readNot_2 rfl rfl ?_
      refine b_ldcSW (tx := "not") (n := 43) (by decide +kernel) dX12_readNot_3 ?_
      refine b_callV (As := [_]) (st := []) dX12_readNot_6 lk_X12_228 lm_X12_is lv_X12_is rfl (by decide) rfl rfl rfl (Nat.le_of_ble_eq_true rfl) (Nat.le_refl _) (by decide) ?_
      refine c_X12_is (d := d + 2) R (q := (43, 3, [110, 111, 116])) (w := [110, 111, 116]) (k := 109) (by decide +kernel) ⟨rfl, rfl, by decide, by decide⟩ (by decide +kernel) ?_
      refine b_if_eq (tgt := 40) dX12_readNot_9 (by decide) (fun h9 => ?_) (fun h9 => ?_)
      · have e9 := b2i_0 h9
        exact K40 h s1 F1 R m hm (by rw [← hT]; rw [ntL_stop (of_decide_eq_false e9)])
      · have e9 := b2i_1 h9
        have hc := of_decide_eq_true e9
        have hm6 := hl hc.1
        refine b_iload_n dX12_readNot_12 rfl rfl ?_
        refine b_bipush (v := 6) dX12_readNot_13 (by decide +kernel) ?_
        refine b_icmp_ne (tgt := 23) dX12_readNot_15 (by decide) (fun h15 => ?_) (fun h15 => ?_)
        · have e15 : m ≠ 6 := fun q => h15 (congrArg nI q)
          refine C23 hc h (FP.rf h) s1 R ?_
          rw [if_neg e15]
        · have e15 : m = 6 := nI_inj (a := m) (b := 6) (by omega) (by omega) h15
          refine b_aload_n dX12_readNot_18 rfl rfl ?_
          refine b_iconst (v := 2) dX12_readNot_19 (by decide +kernel) ?_
          refine b_callV (As := [_]) (st := []) dX12_readNot_20 lk_X12_235 lm_X12_wrong lv_X12_wrong rfl (by decide) rfl rfl rfl (Nat.le_of_ble_eq_true rfl) (Nat.le_refl _) (by decide) ?_
          refine c_X12_wrong (k := 2) R (by decide) (fun h2 F2 R2 => ?_)
          refine C23 hc h2 F2 _ R2 ?_
          rw [if_pos e15]
  refine b_iconst (v := 0) dX12_readNot_0 (by decide +kernel) ?_
  refine b_istore_n (lv' := [(0, _), (1, _), (2, _)]) dX12_readNot_1 rfl (by decide) rfl rfl ?_
  exact key 8 0 g s (FP.rf g) hR (by decide) (fun _ => by decide) (by decide) rfl
