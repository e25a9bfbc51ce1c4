/-! the model while it reads -/
def isTk (f : Nat → Nat) (n : Nat) (t : Tk) : Prop := ∃ p, p ≤ n ∧ t = nxt f n p
theorem isTk.ok {f : Nat → Nat} {n : Nat} {t : Tk} (h : isTk f n t) : okTk n t := by obtain ⟨p, hp, rfl⟩ := h; exact nxt_ok hp
theorem isTk.nx {f : Nat → Nat} {n : Nat} {t : Tk} (h : isTk f n t) : isTk f n (nxt f n t.af) := ⟨t.af, h.ok.1, rfl⟩
theorem pS_r {x : Nat} (h : pS x = true) : 40 ≤ x ∧ x ≤ 61 := by
  simp only [pS, Bool.or_eq_true, beq_iff_eq] at h
  omega
/-- what a token is, kind by kind -/
theorem isTk.cs {f : Nat → Nat} {n : Nat} {t : Tk} (h : isTk f n t) : (t.k = 0 ∧ t.pl = n) ∨ (t.k = 1 ∧ t.pl < n) ∨ (t.k = 2 ∧ t.dg = t.af - t.pl ∧ t.v ≤ 9999 ∧ t.pl < t.af ∧ t.af ≤ n) ∨ (40 ≤ t.k ∧ t.k ≤ 61 ∧ f t.pl = t.k ∧ t.pl < n) ∨ (99 ≤ t.k ∧ t.k ≤ 116 ∧ t.k = wk f t.pl t.af ∧ t.pl < t.af ∧ t.af ≤ n) := by
  obtain ⟨p, hp, rfl⟩ := h
  unfold nxt
  have hq := sk_le (P := pB) (f := f) hp
  generalize sk pB f n p = q at hq
  by_cases h1 : n ≤ q
  · left; unfold tkA; rw [if_pos h1]; exact ⟨rfl, Nat.le_antisymm hq h1⟩
  · obtain ⟨a1, a2, -⟩ := tkA_lt (f := f) (Nat.not_le.mp h1)
    by_cases h2 : pL (f q) = true
    · right; right; right; right
      unfold tkA at a1 a2 ⊢
      rw [if_neg h1, if_pos h2] at a1 a2 ⊢
      exact ⟨(wk_rng _ _ _).1, (wk_rng _ _ _).2, rfl, a1, a2⟩
    · by_cases h3 : pD (f q) = true
      · right; right; left
        unfold tkA at a1 a2 ⊢
        rw [if_neg h1, if_neg h2, if_pos h3] at a1 a2 ⊢
        refine ⟨rfl, rfl, ?_, a1, a2⟩
        show vD f q (min (sk pD f n q - q) 4) ≤ 9999
        have := vD_lt (f := f) (p := q) (min (sk pD f n q - q) 4) (fun j hj => sk_in (n := n) (p := q) (by omega) (by omega))
        have h9 := Nat.pow_le_pow_right (n := 10) (by decide) (by omega : min (sk pD f n q - q) 4 ≤ 4)
        omega
      · by_cases h4 : pS (f q) = true
        · right; right; right; left
          have e : tkA f n q = ⟨f q, q, q + 1, 0, 0⟩ := by unfold tkA; rw [if_neg h1, if_neg h2, if_neg h3, if_pos h4]
          rw [e]
          exact ⟨(pS_r h4).1, (pS_r h4).2, rfl, Nat.not_le.mp h1⟩
        · right; left
          have e : tkA f n q = ⟨1, q, q + 1, 0, 0⟩ := by unfold tkA; rw [if_neg h1, if_neg h2, if_neg h3, if_neg h4]
          rw [e]
          exact ⟨rfl, Nat.not_le.mp h1⟩
theorem isTk.pa {f : Nat → Nat} {n : Nat} {t : Tk} (h : isTk f n t) : t.pl ≤ t.af := by
  obtain ⟨p, hp, rfl⟩ := h
  unfold nxt
  generalize sk pB f n p = q
  by_cases h1 : n ≤ q
  · unfold tkA; rw [if_pos h1]; exact Nat.le_refl _
  · have := (tkA_lt (f := f) (Nat.not_le.mp h1)).1
    rw [tkA_pl]; omega
theorem tkM_1 {f : Nat → Nat} {n : Nat} {t : Tk} (h : isTk f n t) : tkM t.k = 1 ↔ 99 ≤ t.k := by
  rcases h.cs with h | h | h | h | h <;> (unfold tkM; (repeat' split) <;> omega)
theorem tkM_2 {f : Nat → Nat} {n : Nat} {t : Tk} (h : isTk f n t) : tkM t.k = 2 ↔ t.k = 2 := by
  rcases h.cs with h | h | h | h | h <;> (unfold tkM; (repeat' split) <;> omega)
theorem tkM_3 {f : Nat → Nat} {n : Nat} {t : Tk} (h : isTk f n t) : tkM t.k = 3 ↔ 40 ≤ t.k ∧ t.k ≤ 61 := by
  rcases h.cs with h | h | h | h | h <;> (unfold tkM; (repeat' split) <;> omega)
theorem tkM_0 {f : Nat → Nat} {n : Nat} {t : Tk} (h : isTk f n t) : tkM t.k = 0 ↔ t.k = 0 := by
  rcases h.cs with h | h | h | h | h <;> (unfold tkM; (repeat' split) <;> omega)
theorem tkM_le (k : Nat) : tkM k ≤ 4 := by unfold tkM; (repeat' split) <;> omega
/-- codes, the latest first -/
def rpC (f : Nat → Int32) : List Int32 → Prop
  | [] => True
  | x :: r => f (600 + r.length) = trC x ∧ rpC f r
theorem rpC_cg {f h : Nat → Int32} : ∀ {c : List Int32}, rpC f c → (∀ j, j < c.length → h (600 + j) = f (600 + j)) → rpC h c
  | [], _, _ => trivial
  | x :: r, a, b => ⟨by rw [b _ (by simp)]; exact a.1, rpC_cg a.2 (fun j hj => b j (by simp; omega))⟩
/-- the reading model: the text f of n bytes, at s -/
def RMs (g : G2) (f : Nat → Nat) (n : Nat) (s : MS) : Prop := RTm g f n ∧ Rtm g s.t ∧ isTk f n s.t ∧ g 84 22 = nI s.bad ∧ s.bad ≤ 5 ∧ (s.bad ≠ 0 → g 84 23 = nI s.bp) ∧ g 87 9 = nI s.c.length ∧ s.c.length ≤ 600 ∧ rpC (g 95) s.c
/-- what reading a rule leaves as it was -/
def FP (g h : G2) : Prop := (∀ y, y ≠ 84 → y ≠ 87 → y ≠ 95 → h y = g y) ∧ (∀ j, ¬ (j = 16 ∨ (18 ≤ j ∧ j ≤ 23)) → h 84 j = g 84 j) ∧ (∀ j, j ≠ 9 → h 87 j = g 87 j) ∧ ∀ j, j < 600 → h 95 j = g 95 j
theorem FP.rf (g : G2) : FP g g := ⟨fun _ _ _ _ => rfl, fun _ _ => rfl, fun _ _ => rfl, fun _ _ => rfl⟩
theorem FP.tr {g h k : G2} (h1 : FP g h) (h2 : FP h k) : FP g k := ⟨fun y a b c => (h2.1 y a b c).trans (h1.1 y a b c), fun j q => (h2.2.1 j q).trans (h1.2.1 j q), fun j q => (h2.2.2.1 j q).trans (h1.2.2.1 j q), fun j q => (h2.2.2.2 j q).trans (h1.2.2.2 j q)⟩
theorem FMk.fp {g h : G2} (F : FMk g h) : FP g h := ⟨fun y a _ _ => F.1 y a, fun j q => F.2 j (by omega), fun j _ => by rw [F.1 87 (by decide)], fun j _ => by rw [F.1 95 (by decide)]⟩
theorem FP.bad (g : G2) (x y : Int32) : FP g (up2 (up2 g 84 22 x) 84 23 y) := ⟨fun z a _ _ => by rw [up2_f _ _ _ _ a, up2_f _ _ _ _ a], fun j q => by rw [up2_k _ _ _ _ (by omega), up2_k _ _ _ _ (by omega)], fun j _ => by rw [up2_f _ _ _ _ (by decide), up2_f _ _ _ _ (by decide)], fun j _ => by rw [up2_f _ _ _ _ (by decide), up2_f _ _ _ _ (by decide)]⟩
/-- behind stepOn -/
theorem RMs.adv {g h : G2} {f : Nat → Nat} {n : Nat} {s : MS} (hR : RMs g f n s) (F : FMk g h) (ht : Rtm h (nxt f n s.t.af)) : RMs h f n (adv f n s) := by
  obtain ⟨a1, a2, a3, a4, a5, a6, a7, a8, a9⟩ := hR
  refine ⟨a1.cg F, ht, a3.nx, by rw [F.2 22 (by decide)]; exact a4, a5, fun q => by rw [F.2 23 (by decide)]; exact a6 q, by rw [F.1 87 (by decide)]; exact a7, a8, by rw [F.1 95 (by decide)]; exact a9⟩
theorem RMs.wr {g : G2} {f : Nat → Nat} {n k : Nat} {s : MS} (hk : k ≤ 5) (hb : s.bad = 0) (hR : RMs g f n s) : RMs (up2 (up2 g 84 22 (nI k)) 84 23 (nI s.t.pl)) f n (wr k s) := by
  obtain ⟨⟨b1, b2, b3⟩, ⟨c1, c2, c3, c4, c5⟩, a3, a4, a5, a6, a7, a8, a9⟩ := hR
  rw [wr_ok hb]
  refine ⟨⟨by rw [up2_k _ _ _ _ (by decide), up2_k _ _ _ _ (by decide)]; exact b1, b2, fun i hi => by rw [up2_f _ _ _ _ (by decide), up2_f _ _ _ _ (by decide)]; exact b3 i hi⟩, ⟨by rw [up2_k _ _ _ _ (by decide), up2_k _ _ _ _ (by decide)]; exact c1, by rw [up2_k _ _ _ _ (by decide), up2_k _ _ _ _ (by decide)]; exact c2, by rw [up2_k _ _ _ _ (by decide), up2_k _ _ _ _ (by decide)]; exact c3, by rw [up2_k _ _ _ _ (by decide), up2_k _ _ _ _ (by decide)]; exact c4, fun q1 q2 => by rw [up2_k _ _ _ _ (by decide), up2_k _ _ _ _ (by decide)]; exact c5 q1 q2⟩, a3, by rw [up2_k _ _ _ _ (by decide), up2_s], hk, fun _ => up2_s _ _ _ _, by rw [up2_f _ _ _ _ (by decide), up2_f _ _ _ _ (by decide)]; exact a7, a8, by rw [up2_f _ _ _ _ (by decide), up2_f _ _ _ _ (by decide)]; exact a9⟩
theorem c_X12_wrong {E : En} {d : Nat} {Q : QT} {X : XT} {g : G2} {f : Nat → Nat} {n : Nat} {s : MS} (hR : RMs g f n s) {k : Nat} (hk : k ≤ 5) (hq : ∀ h, FP g h → RMs h f n (wr k s) → Q none h) : M E md_X12_wrong d [.ref 84, .int (nI k)] g Q X := by
  refine M.of _ rfl rfl (Nat.le_of_ble_eq_true rfl) ?_
  have hpaf := hR.2.2.1.pa
  have hn := hR.1.2.1
  have hok := hR.2.2.1.ok
  have hkl := tkM_le s.t.k
  have hb5 := hR.2.2.2.2.1
  have hp1 := hok.1
  have hp2 := hok.2.1
  refine b_aload_n dX12_wrong_0 rfl rfl ?_
  refine b_getI lf_X12_214 rfl dX12_wrong_1 ?_
  refine b_topE (hR.2.2.2.1) ?_
  refine b_if_eq (tgt := 8) dX12_wrong_4 (by decide) (fun h4 => ?_) (fun h4 => ?_)
  · have e4 : s.bad = 0 := nI_inj (b := 0) (by omega) (by decide) h4
    refine b_aload_n dX12_wrong_8 rfl rfl ?_
    refine b_iload_n dX12_wrong_9 rfl rfl ?_
    refine b_putI lf_X12_214 lp_12_22 rfl dX12_wrong_10 ?_
    refine b_aload_n dX12_wrong_13 rfl rfl ?_
    refine b_aload_n dX12_wrong_14 rfl rfl ?_
    refine b_getI lf_X12_185 rfl dX12_wrong_15 ?_
    refine b_topE (y := nI s.t.pl) (by rw [up2_k _ _ _ _ (by decide)]; exact hR.2.1.2.2.1) ?_
    refine b_putI lf_X12_217 lp_12_23 rfl dX12_wrong_18 ?_
    refine b_vret rfl (by decide) dX12_wrong_21 ?_
    exact hq _ (FP.bad _ _ _) (hR.wr hk e4)
  · have e4 : s.bad ≠ 0 := fun q => h4 (by rw [q]; rfl)
    refine b_vret rfl (by decide) dX12_wrong_7 ?_
    exact hq g (FP.rf g) (by rw [show wr k s = s from if_neg e4]; exact hR)
theorem c_X12_isMarked {E : En} {d : Nat} {Q : QT} {X : XT} {g : G2} {f : Nat → Nat} {n : Nat} {s : MS} (hR : RMs g f n s) {k : Nat} (hk : 40 ≤ k ∧ k ≤ 61) (hq : Q (some (.int (b2i (decide (s.bad = 0) && decide (s.t.k = k))))) g) : M E md_X12_isMarked d [.ref 84, .int (nI k)] g Q X := by
  refine M.of _ rfl rfl (Nat.le_of_ble_eq_true rfl) ?_
  have hpaf := hR.2.2.1.pa
  have hn := hR.1.2.1
  have hok := hR.2.2.1.ok
  have hkl := tkM_le s.t.k
  have hb5 := hR.2.2.2.2.1
  have hp1 := hok.1
  have hp2 := hok.2.1
  refine b_aload_n dX12_isMarked_0 rfl rfl ?_
  refine b_getI lf_X12_214 rfl dX12_isMarked_1 ?_
  refine b_topE (hR.2.2.2.1) ?_
  refine b_if_ne (tgt := 32) dX12_isMarked_4 (by decide) (fun h4 => ?_) (fun h4 => ?_)
  · have e4 : s.bad ≠ 0 := fun q => h4 (by rw [q]; rfl)
    refine b_iconst (v := 0) dX12_isMarked_32 (by decide +kernel) ?_
    refine b_zret (Or.inl rfl) rfl (by decide) dX12_isMarked_33 ?_
    rw [show (decide (s.bad = 0) && decide (s.t.k = k)) = false from by rw [decide_eq_false e4]; rfl] at hq
    exact hq
  · have e4 : s.bad = 0 := nI_inj (b := 0) (by omega) (by decide) h4
    refine b_aload_n dX12_isMarked_7 rfl rfl ?_
    refine b_getI lf_X12_188 rfl dX12_isMarked_8 ?_
    refine b_topE (hR.2.1.2.2.2.1) ?_
    refine b_iconst (v := 3) dX12_isMarked_11 (by decide +kernel) ?_
    refine b_icmp_ne (tgt := 32) dX12_isMarked_12 (by decide) (fun h12 => ?_) (fun h12 => ?_)
    · have e12 : (tkM s.t.k) ≠ 3 := fun q => h12 (congrArg nI q)
      refine b_iconst (v := 0) dX12_isMarked_32 (by decide +kernel) ?_
      refine b_zret (Or.inl rfl) rfl (by decide) dX12_isMarked_33 ?_
      rw [show (decide (s.bad = 0) && decide (s.t.k = k)) = false from by rw [decide_eq_false (p := s.t.k = k) (fun e => e12 ((tkM_3 hR.2.2.1).mpr (by omega))), Bool.and_false]] at hq
      exact hq
    · have e12 : (tkM s.t.k) = 3 := nI_inj (a := (tkM s.t.k)) (b := 3) (by omega) (by omega) h12
      have h3 := (tkM_3 hR.2.2.1).mp e12
      have hf9 : f s.t.pl = s.t.k ∧ s.t.pl < n := by rcases hR.2.2.1.cs with h | h | h | h | h <;> first | exact ⟨h.2.2.1, h.2.2.2⟩ | omega
      obtain ⟨hf9, hf8⟩ := hf9
      refine b_aload_n dX12_isMarked_15 rfl rfl ?_
      refine b_getR (b := 98) lf_X12_73 rfl rfl dX12_isMarked_16 ?_
      refine b_aload_n dX12_isMarked_19 rfl rfl ?_
      refine b_getI lf_X12_185 rfl dX12_isMarked_20 ?_
      refine b_topE (hR.2.1.2.2.1) ?_
      refine b_ildN (j := s.t.pl) dX12_isMarked_23 (rfl) (by show _ < 600; omega) ?_
      refine b_topE (y := (nI (f s.t.pl))) ((hR.1.2.2 _ hf8).2) ?_
      refine b_iload_n dX12_isMarked_24 rfl rfl ?_
      refine b_icmp_ne (tgt := 32) dX12_isMarked_25 (by decide) (fun h25 => ?_) (fun h25 => ?_)
      · refine b_iconst (v := 0) dX12_isMarked_32 (by decide +kernel) ?_
        refine b_zret (Or.inl rfl) rfl (by decide) dX12_isMarked_33 ?_
        rw [show (decide (s.bad = 0) && decide (s.t.k = k)) = false from by rw [decide_eq_false (p := s.t.k = k) (fun e => h25 (by rw [hf9, e])), Bool.and_false]] at hq
        exact hq
      · refine b_iconst (v := 1) dX12_isMarked_28 (by decide +kernel) ?_
        refine b_goto (tgt := 33) dX12_isMarked_29 (by decide) ?_
        refine b_zret (Or.inr rfl) rfl (by decide) dX12_isMarked_33 ?_
        rw [show (decide (s.bad = 0) && decide (s.t.k = k)) = true from by rw [decide_eq_true e4, decide_eq_true (p := s.t.k = k) (by rw [← hf9]; exact nI_inj (by omega) (by omega) h25)]; rfl] at hq
        exact hq
theorem c_X12_mark {E : En} {d : Nat} {Q : QT} {X : XT} {g : G2} {f : Nat → Nat} {n : Nat} {s : MS} (hR : RMs g f n s) {k : Nat} (hk : 40 ≤ k ∧ k ≤ 61) (hq : ∀ h, FP g h → RMs h f n (mkM f n k s) → Q none h) : M E md_X12_mark (d + 2) [.ref 84, .int (nI k)] g Q X := by
  refine M.of _ rfl rfl (Nat.le_of_ble_eq_true rfl) ?_
  have hpaf := hR.2.2.1.pa
  have hn := hR.1.2.1
  have hok := hR.2.2.1.ok
  have hkl := tkM_le s.t.k
  have hb5 := hR.2.2.2.2.1
  have hp1 := hok.1
  have hp2 := hok.2.1
  have Kt : ∀ h1, FP g h1 → ∀ s1 : MS, RMs h1 f n s1 → mkM f n k s = adB f n s1 → B E md_X12_mark (d + 2) Q X 20 [(0, .ref 84), (1, .int (nI k))] [] h1 0 := by
    intro h1 F1 s1 R1 e1
    have hb6 := R1.2.2.2.2.1
    refine b_aload_n dX12_mark_20 rfl rfl ?_
    refine b_getI lf_X12_214 rfl dX12_mark_21 ?_
    refine b_topE (R1.2.2.2.1) ?_
    refine b_if_ne (tgt := 31) dX12_mark_24 (by decide) (fun h24 => ?_) (fun h24 => ?_)
    · have e24 : s1.bad ≠ 0 := fun q => h24 (by rw [q]; rfl)
      refine b_vret rfl (by decide) dX12_mark_31 (hq _ F1 ?_)
      rw [e1]; unfold adB; rw [if_neg e24]; exact R1
    · have e24 : s1.bad = 0 := nI_inj (b := 0) (by omega) (by decide) h24
      refine b_aload_n dX12_mark_27 rfl rfl ?_
      refine b_callV (As := []) (st := []) dX12_mark_28 lk_X12_239 lm_X12_stepOn lv_X12_stepOn rfl (by decide) rfl rfl rfl (Nat.le_of_ble_eq_true rfl) (Nat.le_refl _) (by decide) ?_
      refine c_X12_stepOn R1.1 R1.2.1.1 R1.2.2.1.ok.1 (fun h2 F2 T2 => ?_)
      refine b_vret rfl (by decide) dX12_mark_31 ?_
      refine hq h2 (F1.tr F2.fp) ?_
      rw [e1]; unfold adB; rw [if_pos e24]; exact R1.adv F2 T2
  refine b_aload_n dX12_mark_0 rfl rfl ?_
  refine b_getI lf_X12_214 rfl dX12_mark_1 ?_
  refine b_topE (hR.2.2.2.1) ?_
  refine b_if_ne (tgt := 20) dX12_mark_4 (by decide) (fun h4 => ?_) (fun h4 => ?_)
  · have e4 : s.bad ≠ 0 := fun q => h4 (by rw [q]; rfl)
    refine Kt g (FP.rf g) s hR ?_
    simp only [mkM, wr, if_neg e4, ite_self]
  · have e4 : s.bad = 0 := nI_inj (b := 0) (by omega) (by decide) h4
    refine b_aload_n dX12_mark_7 rfl rfl ?_
    refine b_iload_n dX12_mark_8 rfl rfl ?_
    refine b_callV (As := [_]) (st := []) dX12_mark_9 lk_X12_232 lm_X12_isMarked lv_X12_isMarked rfl (by decide) rfl rfl rfl (Nat.le_of_ble_eq_true rfl) (Nat.le_refl _) (by decide) ?_
    refine c_X12_isMarked hR hk ?_
    refine b_if_ne (tgt := 20) dX12_mark_12 (by decide) (fun h12 => ?_) (fun h12 => ?_)
    · have e12 := b2i_1 h12
      rw [Bool.and_eq_true, decide_eq_true_eq, decide_eq_true_eq] at e12
      refine Kt g (FP.rf g) s hR ?_
      simp only [mkM, if_pos e12.2]
    · have e12 := b2i_0 h12
      have e13 : ¬ s.t.k = k := fun e => by rw [decide_eq_true e4, decide_eq_true e] at e12; cases e12
      refine b_aload_n dX12_mark_15 rfl rfl ?_
      refine b_iconst (v := 1) dX12_mark_16 (by decide +kernel) ?_
      refine b_callV (As := [_]) (st := []) dX12_mark_17 lk_X12_235 lm_X12_wrong lv_X12_wrong rfl (by decide) rfl rfl rfl (Nat.le_of_ble_eq_true rfl) (Nat.le_refl _) (by decide) ?_
      refine c_X12_wrong (k := 1) hR (by decide) (fun h1 F1 R1 => ?_)
      refine Kt h1 F1 _ R1 ?_
      simp only [mkM, if_neg e13]
/-- a number that must lie between -/
def nmM (lo hi : Nat) (s : MS) : MS := if s.bad = 0 then (if s.t.k = 2 then (if 4 < s.t.dg ∨ s.t.v < lo ∨ hi < s.t.v then wr 2 s else s) else wr 1 s) else s
def nmV (lo hi : Nat) (s : MS) : Nat := if (nmM lo hi s).bad = 0 then s.t.v else 0
theorem c_X12_numberNow {E : En} {d : Nat} {Q : QT} {X : XT} {g : G2} {f : Nat → Nat} {n : Nat} {s : MS} (hR : RMs g f n s) {lo hi : Nat} (hlo : lo ≤ 9999) (hhi : hi ≤ 9999) (hq : ∀ h, FP g h → RMs h f n (nmM lo hi s) → Q (some (.int (nI (nmV lo hi s)))) h) : M E md_X12_numberNow (d + 1) [.ref 84, .int (nI lo), .int (nI hi)] g Q X := by
  refine M.of _ rfl rfl (Nat.le_of_ble_eq_true rfl) ?_
  have hpaf := hR.2.2.1.pa
  have hn := hR.1.2.1
  have hok := hR.2.2.1.ok
  have hkl := tkM_le s.t.k
  have hb5 := hR.2.2.2.2.1
  have hp1 := hok.1
  have hp2 := hok.2.1
  have Kt : ∀ h1, FP g h1 → ∀ s1 : MS, RMs h1 f n s1 → nmM lo hi s = s1 → (s1.bad = 0 → h1 84 19 = nI s.t.v) → B E md_X12_numberNow (d + 1) Q X 59 [(0, .ref 84), (1, .int (nI lo)), (2, .int (nI hi))] [] h1 0 := by
    intro h1 F1 s1 R1 e1 hv
    have hb6 := R1.2.2.2.2.1
    refine b_aload_n dX12_numberNow_59 rfl rfl ?_
    refine b_getI lf_X12_214 rfl dX12_numberNow_60 ?_
    refine b_topE (R1.2.2.2.1) ?_
    refine b_if_ne (tgt := 73) dX12_numberNow_63 (by decide) (fun h63 => ?_) (fun h63 => ?_)
    · have e63 : s1.bad ≠ 0 := fun q => h63 (by rw [q]; rfl)
      refine b_iconst (v := 0) dX12_numberNow_73 (by decide +kernel) ?_
      refine b_iret rfl (by decide) dX12_numberNow_74 ?_
      have h9 := hq _ F1 (by rw [e1]; exact R1)
      rw [show nmV lo hi s = 0 from by unfold nmV; rw [e1, if_neg e63]] at h9
      exact h9
    · have e63 : s1.bad = 0 := nI_inj (b := 0) (by omega) (by decide) h63
      refine b_aload_n dX12_numberNow_66 rfl rfl ?_
      refine b_getI lf_X12_198 rfl dX12_numberNow_67 ?_
      refine b_topE (y := nI s.t.v) (hv e63) ?_
      refine b_goto (tgt := 74) dX12_numberNow_70 (by decide) ?_
      refine b_iret rfl (by decide) dX12_numberNow_74 ?_
      have h9 := hq _ F1 (by rw [e1]; exact R1)
      rw [show nmV lo hi s = s.t.v from by unfold nmV; rw [e1, if_pos e63]] at h9
      exact h9
  refine b_aload_n dX12_numberNow_0 rfl rfl ?_
  refine b_getI lf_X12_214 rfl dX12_numberNow_1 ?_
  refine b_topE (hR.2.2.2.1) ?_
  refine b_if_eq (tgt := 9) dX12_numberNow_4 (by decide) (fun h4 => ?_) (fun h4 => ?_)
  · have e4 : s.bad = 0 := nI_inj (b := 0) (by omega) (by decide) h4
    refine b_aload_n dX12_numberNow_9 rfl rfl ?_
    refine b_getI lf_X12_188 rfl dX12_numberNow_10 ?_
    refine b_topE (hR.2.1.2.2.2.1) ?_
    refine b_iconst (v := 2) dX12_numberNow_13 (by decide +kernel) ?_
    refine b_icmp_eq (tgt := 25) dX12_numberNow_14 (by decide) (fun h14 => ?_) (fun h14 => ?_)
    · have e14 : (tkM s.t.k) = 2 := nI_inj (a := (tkM s.t.k)) (b := 2) (by omega) (by omega) h14
      have h2 := (tkM_2 hR.2.2.1).mp e14
      have hnum : s.t.dg = s.t.af - s.t.pl ∧ s.t.v ≤ 9999 ∧ s.t.pl < s.t.af := by rcases hR.2.2.1.cs with h | h | h | h | h <;> first | exact ⟨h.2.1, h.2.2.1, h.2.2.2.1⟩ | omega
      obtain ⟨n1, n2, n3⟩ := hnum
      refine b_aload_n dX12_numberNow_25 rfl rfl ?_
      refine b_getI lf_X12_211 rfl dX12_numberNow_26 ?_
      refine b_topE (hR.2.1.2.1) ?_
      refine b_aload_n dX12_numberNow_29 rfl rfl ?_
      refine b_getI lf_X12_185 rfl dX12_numberNow_30 ?_
      refine b_topE (hR.2.1.2.2.1) ?_
      refine b_isub dX12_numberNow_33 ?_
      refine b_topE (nI_sub s.t.af s.t.pl (by omega)) ?_
      refine b_iconst (v := 4) dX12_numberNow_34 (by decide +kernel) ?_
      refine b_icmp_gt (tgt := 54) dX12_numberNow_35 (by decide) (fun h35 => ?_) (fun h35 => ?_)
      · have e35 : 4 < ((s.t.af - s.t.pl)) := nn_lt (a := 4) (b := ((s.t.af - s.t.pl))) (by omega) (by omega) h35
        refine b_aload_n dX12_numberNow_54 rfl rfl ?_
        refine b_iconst (v := 2) dX12_numberNow_55 (by decide +kernel) ?_
        refine b_callV (As := [_]) (st := []) dX12_numberNow_56 lk_X12_235 lm_X12_wrong lv_X12_wrong rfl (by decide) rfl rfl rfl (Nat.le_of_ble_eq_true rfl) (Nat.le_refl _) (by decide) ?_
        refine c_X12_wrong (k := 2) hR (by decide) (fun h1 F1 R1 => ?_)
        refine Kt h1 F1 _ R1 ?_ (fun q => absurd q (by rw [wr_ok e4]; exact Nat.succ_ne_zero 1))
        unfold nmM; rw [if_pos e4, if_pos h2, if_pos (by omega)]
      · have e35 : ((s.t.af - s.t.pl)) ≤ 4 := nn_nlt (a := 4) (b := ((s.t.af - s.t.pl))) (by omega) (by omega) h35
        refine b_aload_n dX12_numberNow_38 rfl rfl ?_
        refine b_getI lf_X12_198 rfl dX12_numberNow_39 ?_
        refine b_topE (y := nI s.t.v) (hR.2.1.2.2.2.2 h2 (by omega)) ?_
        refine b_iload_n dX12_numberNow_42 rfl rfl ?_
        refine b_icmp_lt (tgt := 54) dX12_numberNow_43 (by decide) (fun h43 => ?_) (fun h43 => ?_)
        · have e43 : s.t.v < lo := nn_lt (a := s.t.v) (b := lo) (by omega) (by omega) h43
          refine b_aload_n dX12_numberNow_54 rfl rfl ?_
          refine b_iconst (v := 2) dX12_numberNow_55 (by decide +kernel) ?_
          refine b_callV (As := [_]) (st := []) dX12_numberNow_56 lk_X12_235 lm_X12_wrong lv_X12_wrong rfl (by decide) rfl rfl rfl (Nat.le_of_ble_eq_true rfl) (Nat.le_refl _) (by decide) ?_
          refine c_X12_wrong (k := 2) hR (by decide) (fun h1 F1 R1 => ?_)
          refine Kt h1 F1 _ R1 ?_ (fun q => absurd q (by rw [wr_ok e4]; exact Nat.succ_ne_zero 1))
          unfold nmM; rw [if_pos e4, if_pos h2, if_pos (by omega)]
        · have e43 : lo ≤ s.t.v := nn_nlt (a := s.t.v) (b := lo) (by omega) (by omega) h43
          refine b_aload_n dX12_numberNow_46 rfl rfl ?_
          refine b_getI lf_X12_198 rfl dX12_numberNow_47 ?_
          refine b_topE (y := nI s.t.v) (hR.2.1.2.2.2.2 h2 (by omega)) ?_
          refine b_iload_n dX12_numberNow_50 rfl rfl ?_
          refine b_icmp_le (tgt := 59) dX12_numberNow_51 (by decide) (fun h51 => ?_) (fun h51 => ?_)
          · have e51 : s.t.v ≤ hi := nn_le (a := s.t.v) (b := hi) (by omega) (by omega) h51
            refine Kt g (FP.rf g) s hR ?_ (fun _ => hR.2.1.2.2.2.2 h2 (by omega))
            unfold nmM; rw [if_pos e4, if_pos h2, if_neg (by omega)]
          · have e51 : hi < s.t.v := nn_nle (a := s.t.v) (b := hi) (by omega) (by omega) h51
            refine b_aload_n dX12_numberNow_54 rfl rfl ?_
            refine b_iconst (v := 2) dX12_numberNow_55 (by decide +kernel) ?_
            refine b_callV (As := [_]) (st := []) dX12_numberNow_56 lk_X12_235 lm_X12_wrong lv_X12_wrong rfl (by decide) rfl rfl rfl (Nat.le_of_ble_eq_true rfl) (Nat.le_refl _) (by decide) ?_
            refine c_X12_wrong (k := 2) hR (by decide) (fun h1 F1 R1 => ?_)
            refine Kt h1 F1 _ R1 ?_ (fun q => absurd q (by rw [wr_ok e4]; exact Nat.succ_ne_zero 1))
            unfold nmM; rw [if_pos e4, if_pos h2, if_pos (by omega)]
    · have e14 : (tkM s.t.k) ≠ 2 := fun q => h14 (congrArg nI q)
      refine b_aload_n dX12_numberNow_17 rfl rfl ?_
      refine b_iconst (v := 1) dX12_numberNow_18 (by decide +kernel) ?_
      refine b_callV (As := [_]) (st := []) dX12_numberNow_19 lk_X12_235 lm_X12_wrong lv_X12_wrong rfl (by decide) rfl rfl rfl (Nat.le_of_ble_eq_true rfl) (Nat.le_refl _) (by decide) ?_
      refine c_X12_wrong (k := 1) hR (by decide) (fun h1 F1 R1 => ?_)
      refine b_goto (tgt := 59) dX12_numberNow_22 (by decide) ?_
      refine Kt h1 F1 _ R1 ?_ (fun q => absurd q (by rw [wr_ok e4]; exact Nat.one_ne_zero))
      unfold nmM; rw [if_pos e4, if_neg (fun e => e14 ((tkM_2 hR.2.2.1).mpr e))]
  · have e4 : s.bad ≠ 0 := fun q => h4 (by rw [q]; rfl)
    refine b_iconst (v := 0) dX12_numberNow_7 (by decide +kernel) ?_
    refine b_iret rfl (by decide) dX12_numberNow_8 ?_
    have h9 := hq g (FP.rf g) (by rw [show nmM lo hi s = s from if_neg e4]; exact hR)
    rw [show nmV lo hi s = 0 from by unfold nmV nmM; rw [if_neg e4, if_neg e4]] at h9
    exact h9
def rnN (f : Nat → Nat) (n lo hi : Nat) (s : MS) : MS := adB f n (nmM lo hi s)
theorem c_X12_readNumber {E : En} {d : Nat} {Q : QT} {X : XT} {g : G2} {f : Nat → Nat} {n : Nat} {s : MS} (hR : RMs g f n s) {lo hi : Nat} (hlo : lo ≤ 9999) (hhi : hi ≤ 9999) (hq : ∀ h, FP g h → RMs h f n (rnN f n lo hi s) → Q (some (.int (nI (nmV lo hi s)))) h) : M E md_X12_readNumber (d + 2) [.ref 84, .int (nI lo), .int (nI hi)] g Q X := by
  refine M.of _ rfl rfl (Nat.le_of_ble_eq_true rfl) ?_
  refine b_aload_n dX12_readNumber_0 rfl rfl ?_
  refine b_iload_n dX12_readNumber_1 rfl rfl ?_
  refine b_iload_n dX12_readNumber_2 rfl rfl ?_
  refine b_callV (As := [_, _]) (st := []) dX12_readNumber_3 lk_X12_242 lm_X12_numberNow lv_X12_numberNow rfl (by decide) rfl rfl rfl (Nat.le_of_ble_eq_true rfl) (Nat.le_refl _) (by decide) ?_
  refine c_X12_numberNow hR hlo hhi (fun h1 F1 R1 => ?_)
  have hb6 := R1.2.2.2.2.1
  refine b_istore_n (lv' := [(0, _), (1, _), (2, _), (3, _)]) dX12_readNumber_6 rfl (by decide) rfl rfl ?_
  refine b_aload_n dX12_readNumber_7 rfl rfl ?_
  refine b_getI lf_X12_214 rfl dX12_readNumber_8 ?_
  refine b_topE (R1.2.2.2.1) ?_
  refine b_if_ne (tgt := 18) dX12_readNumber_11 (by decide) (fun h11 => ?_) (fun h11 => ?_)
  · have e11 : ((nmM lo hi s).bad) ≠ 0 := fun q => h11 (by rw [q]; rfl)
    refine b_iload_n dX12_readNumber_18 rfl rfl ?_
    refine b_iret rfl (by decide) dX12_readNumber_19 (hq _ F1 ?_)
    unfold rnN adB; rw [if_neg e11]; exact R1
  · have e11 : ((nmM lo hi s).bad) = 0 := nI_inj (b := 0) (by omega) (by decide) h11
    refine b_aload_n dX12_readNumber_14 rfl rfl ?_
    refine b_callV (As := []) (st := []) dX12_readNumber_15 lk_X12_239 lm_X12_stepOn lv_X12_stepOn rfl (by decide) rfl rfl rfl (Nat.le_of_ble_eq_true rfl) (Nat.le_refl _) (by decide) ?_
    refine c_X12_stepOn R1.1 R1.2.1.1 R1.2.2.1.ok.1 (fun h2 F2 T2 => ?_)
    refine b_iload_n dX12_readNumber_18 rfl rfl ?_
    refine b_iret rfl (by decide) dX12_readNumber_19 ?_
    refine hq h2 (F1.tr F2.fp) ?_
    unfold rnN adB; rw [if_pos e11]; exact R1.adv F2 T2
theorem c_X12_lay {E : En} {d : Nat} {Q : QT} {X : XT} {g : G2} {f : Nat → Nat} {n : Nat} {s : MS} (hR : RMs g f n s) {x y : Int32} (hx : y = trC x) (hl0 : s.bad = 0 → s.c.length < 600) (hq : ∀ h, FP g h → RMs h f n (layM x s) → Q none h) : M E md_X12_lay d [.ref 84, .int y] g Q X := by
  subst hx
  refine M.of _ rfl rfl (Nat.le_of_ble_eq_true rfl) ?_
  have hpaf := hR.2.2.1.pa
  have hn := hR.1.2.1
  have hok := hR.2.2.1.ok
  have hkl := tkM_le s.t.k
  have hb5 := hR.2.2.2.2.1
  have hp1 := hok.1
  have hp2 := hok.2.1
  refine b_aload_n dX12_lay_0 rfl rfl ?_
  refine b_getI lf_X12_214 rfl dX12_lay_1 ?_
  refine b_topE (hR.2.2.2.1) ?_
  refine b_if_eq (tgt := 8) dX12_lay_4 (by decide) (fun h4 => ?_) (fun h4 => ?_)
  · have e4 : s.bad = 0 := nI_inj (b := 0) (by omega) (by decide) h4
    have hl := hl0 e4
    refine b_aload_n dX12_lay_8 rfl rfl ?_
    refine b_getR (b := 95) lf_X12_64 rfl rfl dX12_lay_9 ?_
    refine b_sipush (v := 600) dX12_lay_12 (by decide +kernel) ?_
    refine b_aload_n dX12_lay_15 rfl rfl ?_
    refine b_getR (b := 87) lf_X12_40 rfl rfl dX12_lay_16 ?_
    refine b_bipush (v := 9) dX12_lay_19 (by decide +kernel) ?_
    refine b_ildN (j := 9) dX12_lay_21 (rfl) (by show _ < 10; omega) ?_
    refine b_topE (hR.2.2.2.2.2.2.1) ?_
    refine b_iadd dX12_lay_22 ?_
    refine b_topE (nI_add 600 s.c.length) ?_
    refine b_iload_n dX12_lay_23 rfl rfl ?_
    refine b_istN (j := 600 + s.c.length) dX12_lay_24 (rfl) (by show _ < 1200; omega) ?_
    refine b_aload_n dX12_lay_25 rfl rfl ?_
    refine b_getR (b := 87) lf_X12_40 rfl rfl dX12_lay_26 ?_
    refine b_bipush (v := 9) dX12_lay_29 (by decide +kernel) ?_
    refine b_dup2 dX12_lay_31 rfl rfl ?_
    refine b_ildN (j := 9) dX12_lay_32 (rfl) (by show _ < 10; omega) ?_
    refine b_topE (y := nI s.c.length) (by rw [up2_a _ _ _ _ (by decide)]; exact hR.2.2.2.2.2.2.1) ?_
    refine b_iconst (v := 1) dX12_lay_33 (by decide +kernel) ?_
    refine b_iadd dX12_lay_34 ?_
    refine b_topE (nI_add s.c.length 1) ?_
    refine b_istN (j := 9) dX12_lay_35 (rfl) (by show _ < 10; omega) ?_
    refine b_vret rfl (by decide) dX12_lay_36 ?_
    refine hq _ ⟨fun y a b c => by rw [up2_f _ _ _ _ b, up2_f _ _ _ _ c], fun j q => by rw [up2_f _ _ _ _ (by decide), up2_f _ _ _ _ (by decide)], fun j q => by rw [up2_k _ _ _ _ q, up2_f _ _ _ _ (by decide)], fun j q => by rw [up2_f _ _ _ _ (by decide), up2_k _ _ _ _ (by omega)]⟩ ?_
    rw [layM_ok e4]
    obtain ⟨⟨b1, b2, b3⟩, ⟨c1, c2, c3, c4, c5⟩, a3, a4, a5, a6, a7, a8, a9⟩ := hR
    refine ⟨⟨by rw [up2_f _ _ _ _ (by decide), up2_f _ _ _ _ (by decide)]; exact b1, b2, fun i hi => by rw [up2_f _ _ _ _ (by decide), up2_f _ _ _ _ (by decide)]; exact b3 i hi⟩, ⟨by rw [up2_f _ _ _ _ (by decide), up2_f _ _ _ _ (by decide)]; exact c1, by rw [up2_f _ _ _ _ (by decide), up2_f _ _ _ _ (by decide)]; exact c2, by rw [up2_f _ _ _ _ (by decide), up2_f _ _ _ _ (by decide)]; exact c3, by rw [up2_f _ _ _ _ (by decide), up2_f _ _ _ _ (by decide)]; exact c4, fun q1 q2 => by rw [up2_f _ _ _ _ (by decide), up2_f _ _ _ _ (by decide)]; exact c5 q1 q2⟩, a3, by rw [up2_f _ _ _ _ (by decide), up2_f _ _ _ _ (by decide)]; exact a4, a5, fun q => by rw [up2_f _ _ _ _ (by decide), up2_f _ _ _ _ (by decide)]; exact a6 q, up2_s _ _ _ _, by show s.c.length + 1 ≤ 600; omega, ?_⟩
    rw [up2_f _ _ _ _ (by decide)]
    exact ⟨up2_s _ _ _ _, rpC_cg a9 (fun j hj => up2_k _ _ _ _ (by omega))⟩
  · have e4 : s.bad ≠ 0 := fun q => h4 (by rw [q]; rfl)
    refine b_vret rfl (by decide) dX12_lay_7 ?_
    exact hq g (FP.rf g) (by rw [layM_bad e4]; exact hR)
theorem c_X12_is {E : En} {d : Nat} {Q : QT} {X : XT} {g : G2} {f : Nat → Nat} {n : Nat} {s : MS} (hR : RMs g f n s) {q : Nat × Nat × List Int32} {w : List Nat} {k : Nat} (hs : q ∈ strC) (hw : strW q w) (hm : (k, w) ∈ wds) (hq : Q (some (.int (b2i (decide (s.bad = 0 ∧ s.t.k = k))))) g) : M E md_X12_is (d + 4) [.ref 84, .ref (1000 + q.1)] g Q X := by
  refine M.of _ rfl rfl (Nat.le_of_ble_eq_true rfl) ?_
  have hpaf := hR.2.2.1.pa
  have hn := hR.1.2.1
  have hok := hR.2.2.1.ok
  have hkl := tkM_le s.t.k
  have hb5 := hR.2.2.2.2.1
  have hp1 := hok.1
  have hp2 := hok.2.1
  have hw2 := hw.2.2.1
  have hk100 := (wds_k _ hm).1
  have hkk : 99 ≤ s.t.k → s.t.k = wk f s.t.pl s.t.af := fun h9 => by rcases hR.2.2.1.cs with h | h | h | h | h <;> first | exact h.2.2.1 | omega
  have hpa : 99 ≤ s.t.k → s.t.pl < s.t.af := fun h9 => by rcases hR.2.2.1.cs with h | h | h | h | h <;> first | exact h.2.2.2.1 | omega
  have isF : (s.bad ≠ 0 ∨ ¬ 99 ≤ s.t.k ∨ ¬ s.t.af - s.t.pl = w.length) → decide (s.bad = 0 ∧ s.t.k = k) = false := by
    intro h
    refine decide_eq_false (fun q => ?_)
    rcases h with h | h | h
    · exact h q.1
    · have := q.2; simp only at hk100; omega
    · have h9 : 99 ≤ s.t.k := by have := q.2; simp only at hk100; omega
      have q2 := ((wk_iff hm).mpr ((hkk h9).symm.trans q.2))
      simp only [eqW, Bool.and_eq_true, beq_iff_eq] at q2
      exact h q2.1
  have key : ∀ i, i ≤ w.length → ∀ b : Bool, (b = true → s.bad = 0 ∧ 99 ≤ s.t.k ∧ s.t.af - s.t.pl = w.length ∧ ∀ j, j < i → f (s.t.pl + j) = w.getD j 0) → (b = false → decide (s.bad = 0 ∧ s.t.k = k) = false) → B E md_X12_is (d + 4) Q X 39 [(0, .ref 84), (1, .ref (1000 + q.1)), (2, .int (b2i b)), (3, .int (nI i))] [] g 0 := by
    refine lp_up (P := fun i => ∀ b : Bool, (b = true → s.bad = 0 ∧ 99 ≤ s.t.k ∧ s.t.af - s.t.pl = w.length ∧ ∀ j, j < i → f (s.t.pl + j) = w.getD j 0) → (b = false → decide (s.bad = 0 ∧ s.t.k = k) = false) → B E md_X12_is (d + 4) Q X 39 [(0, .ref 84), (1, .ref (1000 + q.1)), (2, .int (b2i b)), (3, .int (nI i))] [] g 0) (fun i hi ih b hb1 hb2 => ?_)
    have Kend : (b = false ∨ w.length ≤ i) → B E md_X12_is (d + 4) Q X 82 [(0, .ref 84), (1, .ref (1000 + q.1)), (2, .int (b2i b)), (3, .int (nI i))] [] g 0 := by
      intro hor
      refine b_iload_n dX12_is_82 rfl rfl ?_
      refine b_zret (b2i_01 _) rfl (by decide) dX12_is_83 ?_
      rw [show decide (s.bad = 0 ∧ s.t.k = k) = b from ?_] at hq
      · exact hq
      · cases hb : b with
        | false => exact hb2 hb
        | true =>
          obtain ⟨p1, p2, p3, p4⟩ := hb1 hb
          refine decide_eq_true ⟨p1, (hkk p2).trans ((wk_iff hm).mp ?_)⟩
          rcases hor with h | h
          · rw [hb] at h; cases h
          · unfold eqW; rw [eqP_iff.mpr (fun j hj => p4 j (by omega)), Bool.and_true]; exact beq_iff_eq.mpr p3
    have K75 : ∀ i', i' = i → i < w.length → ∀ c : Bool, (c = true → s.bad = 0 ∧ 99 ≤ s.t.k ∧ s.t.af - s.t.pl = w.length ∧ ∀ j, j < i + 1 → f (s.t.pl + j) = w.getD j 0) → (c = false → decide (s.bad = 0 ∧ s.t.k = k) = false) → B E md_X12_is (d + 4) Q X 75 [(0, .ref 84), (1, .ref (1000 + q.1)), (2, .int (b2i b)), (3, .int (nI i))] [.int (b2i c)] g 0 := by
      intro i' _ hil c hc1 hc2
      refine b_istore_n (lv' := [(0, _), (1, _), (2, _), (3, _)]) dX12_is_75 rfl (by decide) rfl rfl ?_
      refine b_incN (j := i) (lv' := [(0, _), (1, _), (2, _), (3, _)]) dX12_is_76 rfl rfl (by decide) rfl rfl ?_
      refine b_goto (tgt := 39) dX12_is_79 (by decide) ?_
      exact ih (i + 1) (by omega) (by omega) c hc1 hc2
    refine b_iload_n dX12_is_39 rfl rfl ?_
    refine b_if_eq (tgt := 82) dX12_is_40 (by decide) (fun h40 => ?_) (fun h40 => ?_)
    · have e40 := b2i_0 h40
      exact Kend (Or.inl e40)
    · have e40 := b2i_1 h40
      obtain ⟨p1, p2, p3, p4⟩ := hb1 e40
      refine b_iload_n dX12_is_43 rfl rfl ?_
      refine b_aload_n dX12_is_44 rfl rfl ?_
      refine b_callT (q := q) (As := []) (st := [_]) hs dX12_is_45 lk_X12_220 lm_J0_length_8abf5 lv_J0_length_8abf5 rfl rfl rfl (Nat.le_of_ble_eq_true rfl) (Nat.le_refl _) (by decide) ?_
      refine c_str_length (d := d + 2) hs ?_
      rw [hw.1]
      refine b_icmp_ge (tgt := 82) dX12_is_48 (by decide) (fun h48 => ?_) (fun h48 => ?_)
      · have e48 : w.length ≤ i := nn_le (a := w.length) (b := i) (by omega) (by omega) h48
        exact Kend (Or.inr e48)
      · have e48 : i < w.length := nn_nle (a := w.length) (b := i) (by omega) (by omega) h48
        refine b_aload_n dX12_is_51 rfl rfl ?_
        refine b_iload_n dX12_is_52 rfl rfl ?_
        refine b_callT (q := q) (As := [_]) (st := []) hs dX12_is_53 lk_X12_224 lm_J0_charAt_5068e lv_J0_charAt_5068e rfl rfl rfl (Nat.le_of_ble_eq_true rfl) (Nat.le_refl _) (by decide) ?_
        refine c_str_charAt (d := d) hs (by rw [hw.1]; exact e48) ?_
        rw [(strW_at hw e48).1]
        refine b_aload_n dX12_is_56 rfl rfl ?_
        refine b_getR (b := 98) lf_X12_73 rfl rfl dX12_is_57 ?_
        refine b_aload_n dX12_is_60 rfl rfl ?_
        refine b_getI lf_X12_185 rfl dX12_is_61 ?_
        refine b_topE (hR.2.1.2.2.1) ?_
        refine b_iload_n dX12_is_64 rfl rfl ?_
        refine b_iadd dX12_is_65 ?_
        refine b_topE (nI_add s.t.pl i) ?_
        refine b_ildN (j := (s.t.pl + i)) dX12_is_66 (rfl) (by show _ < 600; omega) ?_
        refine b_topE (y := nI (f (s.t.pl + i))) ((hR.1.2.2 _ (by omega)).2) ?_
        refine b_icmp_ne (tgt := 74) dX12_is_67 (by decide) (fun h67 => ?_) (fun h67 => ?_)
        · refine b_iconst (v := 0) dX12_is_74 (by decide +kernel) ?_
          refine K75 i rfl e48 false (fun q => by cases q) (fun _ => ?_)
          refine decide_eq_false (fun q => ?_)
          have q2 := ((wk_iff hm).mpr ((hkk p2).symm.trans q.2))
          simp only [eqW, Bool.and_eq_true] at q2
          exact h67 (by rw [eqP_iff.mp q2.2 i e48])
        · refine b_iconst (v := 1) dX12_is_70 (by decide +kernel) ?_
          refine b_goto (tgt := 75) dX12_is_71 (by decide) ?_
          refine K75 i rfl e48 true (fun _ => ⟨p1, p2, p3, fun j hj => ?_⟩) (fun q => by cases q)
          rcases Nat.lt_or_ge j i with q9 | q9
          · exact p4 j q9
          · rw [show j = i by omega]; exact (nI_inj (by have := (strW_at hw e48).2; omega) (by have := (hR.1.2.2 (s.t.pl + i) (by omega)).1; omega) h67).symm
  have K36 : ∀ b : Bool, (b = true → s.bad = 0 ∧ 99 ≤ s.t.k ∧ s.t.af - s.t.pl = w.length) → (b = false → decide (s.bad = 0 ∧ s.t.k = k) = false) → B E md_X12_is (d + 4) Q X 36 [(0, .ref 84), (1, .ref (1000 + q.1))] [.int (b2i b)] g 0 := by
    intro b hb1 hb2
    refine b_istore_n (lv' := [(0, _), (1, _), (2, _)]) dX12_is_36 rfl (by decide) rfl rfl ?_
    refine b_iconst (v := 0) dX12_is_37 (by decide +kernel) ?_
    refine b_istore_n (lv' := [(0, _), (1, _), (2, _), (3, _)]) dX12_is_38 rfl (by decide) rfl rfl ?_
    exact key 0 (Nat.zero_le _) b (fun h => ⟨(hb1 h).1, (hb1 h).2.1, (hb1 h).2.2, fun j hj => absurd hj (by omega)⟩) hb2
  refine b_aload_n dX12_is_0 rfl rfl ?_
  refine b_getI lf_X12_214 rfl dX12_is_1 ?_
  refine b_topE (hR.2.2.2.1) ?_
  refine b_if_ne (tgt := 35) dX12_is_4 (by decide) (fun h4 => ?_) (fun h4 => ?_)
  · have e4 : s.bad ≠ 0 := fun q => h4 (by rw [q]; rfl)
    refine b_iconst (v := 0) dX12_is_35 (by decide +kernel) ?_
    exact K36 false (fun q => by cases q) (fun _ => isF (Or.inl e4))
  · have e4 : s.bad = 0 := nI_inj (b := 0) (by omega) (by decide) h4
    refine b_aload_n dX12_is_7 rfl rfl ?_
    refine b_getI lf_X12_188 rfl dX12_is_8 ?_
    refine b_topE (hR.2.1.2.2.2.1) ?_
    refine b_iconst (v := 1) dX12_is_11 (by decide +kernel) ?_
    refine b_icmp_ne (tgt := 35) dX12_is_12 (by decide) (fun h12 => ?_) (fun h12 => ?_)
    · have e12 : (tkM s.t.k) ≠ 1 := fun q => h12 (congrArg nI q)
      refine b_iconst (v := 0) dX12_is_35 (by decide +kernel) ?_
      exact K36 false (fun q => by cases q) (fun _ => isF (Or.inr (Or.inl (fun q => e12 ((tkM_1 hR.2.2.1).mpr q)))))
    · have e12 : (tkM s.t.k) = 1 := nI_inj (a := (tkM s.t.k)) (b := 1) (by omega) (by omega) h12
      refine b_aload_n dX12_is_15 rfl rfl ?_
      refine b_callT (q := q) (As := []) (st := []) hs dX12_is_16 lk_X12_220 lm_J0_length_8abf5 lv_J0_length_8abf5 rfl rfl rfl (Nat.le_of_ble_eq_true rfl) (Nat.le_refl _) (by decide) ?_
      refine c_str_length (d := d + 2) hs ?_
      rw [hw.1]
      refine b_aload_n dX12_is_19 rfl rfl ?_
      refine b_getI lf_X12_211 rfl dX12_is_20 ?_
      refine b_topE (hR.2.1.2.1) ?_
      refine b_aload_n dX12_is_23 rfl rfl ?_
      refine b_getI lf_X12_185 rfl dX12_is_24 ?_
      refine b_topE (hR.2.1.2.2.1) ?_
      refine b_isub dX12_is_27 ?_
      refine b_topE (nI_sub s.t.af s.t.pl (by omega)) ?_
      refine b_icmp_ne (tgt := 35) dX12_is_28 (by decide) (fun h28 => ?_) (fun h28 => ?_)
      · have e28 : w.length ≠ ((s.t.af - s.t.pl)) := fun q => h28 (congrArg nI q)
        refine b_iconst (v := 0) dX12_is_35 (by decide +kernel) ?_
        exact K36 false (fun q => by cases q) (fun _ => isF (Or.inr (Or.inr (fun q => e28 q.symm))))
      · have e28 : w.length = ((s.t.af - s.t.pl)) := nI_inj (a := w.length) (b := ((s.t.af - s.t.pl))) (by omega) (by omega) h28
        refine b_iconst (v := 1) dX12_is_31 (by decide +kernel) ?_
        refine b_goto (tgt := 36) dX12_is_32 (by decide) ?_
        exact K36 true (fun _ => ⟨e4, (tkM_1 hR.2.2.1).mp e12, e28.symm⟩) (fun q => by cases q)
