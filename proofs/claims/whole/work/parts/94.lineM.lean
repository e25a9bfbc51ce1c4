/-! the model at s : TxS -/
def RWr (g : G2) (s : TxS) : Prop := g 87 5 = nI s.np ∧ g 87 6 = nI s.nf ∧ g 87 7 = nI s.no ∧ g 87 8 = nI (s.H 9 0) ∧ (∀ p, p < s.np → g 88 (8 + p) = nI (s.H 0 p) ∧ g 89 (8 + p) = nI (s.H 5 p) ∧ g 90 (8 + p) = nI (s.H 1 p) ∧ g 91 (8 + p) = nI (s.H 6 p)) ∧ (∀ i, i < s.nf → g 92 (6 + i) = nI (s.H 7 i) ∧ g 93 (6 + i) = nI (s.H 8 i)) ∧ ∀ i, i < s.no → g 94 (24 + i) = nI (s.H 4 i)
def RMr (g : G2) (f : Nat → Nat) (n : Nat) (s : TxS) : Prop := RMs g f n (s.t, 0, 0, s.c) ∧ RWr g s
def hfN (y : Nat) : Nat := if y = 87 then 5 else if y ≤ 91 then 8 else if y ≤ 93 then 6 else if y = 94 then 24 else 600
/-- what reading a line may change: the halves that are read into -/
def FMl (g h : G2) : Prop := (∀ y, y ≠ 84 → ¬ (87 ≤ y ∧ y ≤ 95) → h y = g y) ∧ (∀ j, ¬ (j = 16 ∨ (18 ≤ j ∧ j ≤ 23)) → h 84 j = g 84 j) ∧ ∀ y, 87 ≤ y → y ≤ 95 → ∀ j, j < hfN y → h y j = g y j
theorem FMl.rf (g : G2) : FMl g g := ⟨fun _ _ _ => rfl, fun _ _ => rfl, fun _ _ _ _ _ => rfl⟩
theorem FMl.tr {g h k : G2} (h1 : FMl g h) (h2 : FMl h k) : FMl g k := ⟨fun y a b => (h2.1 y a b).trans (h1.1 y a b), fun j q => (h2.2.1 j q).trans (h1.2.1 j q), fun y a b j q => (h2.2.2 y a b j q).trans (h1.2.2 y a b j q)⟩
theorem FMl.fp {g h : G2} (F : FP g h) : FMl g h := by
  refine ⟨fun y a b => F.1 y a (by omega) (by omega), F.2.1, fun y a b j q => ?_⟩
  by_cases c1 : y = 87
  · subst c1; exact F.2.2.1 j (by have : hfN 87 = 5 := rfl
                                  omega)
  · by_cases c2 : y = 95
    · subst c2; exact F.2.2.2 j q
    · exact congrFun (F.1 y (by omega) c1 c2) j
theorem FMl.up {g : G2} {y j : Nat} {x : Int32} (h1 : 87 ≤ y) (h2 : y ≤ 95) (hj : hfN y ≤ j) : FMl g (up2 g y j x) := by
  refine ⟨fun z a b => up2_f _ _ _ _ (by omega), fun i q => up2_a _ _ _ _ (by omega) _, fun z a b i q => ?_⟩
  by_cases c : z = y
  · subst c; exact up2_k _ _ _ _ (by omega)
  · exact up2_a _ _ _ _ c _
theorem RMs.up {g : G2} {f : Nat → Nat} {n : Nat} {s : MS} {y j : Nat} {x : Int32} (hR : RMs g f n s) (h1 : y ≠ 84) (h2 : y ≠ 95) (h3 : y ≠ 98) (h4 : y = 87 → j ≠ 9) : RMs (up2 g y j x) f n s := by
  have e84 : up2 g y j x 84 = g 84 := up2_f _ _ _ _ (fun e => h1 e.symm)
  have e95 : up2 g y j x 95 = g 95 := up2_f _ _ _ _ (fun e => h2 e.symm)
  have e98 : up2 g y j x 98 = g 98 := up2_f _ _ _ _ (fun e => h3 e.symm)
  have e87 : up2 g y j x 87 9 = g 87 9 := by
    by_cases c : y = 87
    · subst c; exact up2_k _ _ _ _ (fun e => h4 rfl e.symm)
    · exact up2_a _ _ _ _ (fun e => c e.symm) _
  unfold RMs RTm Rtm
  rw [e84, e95, e98, e87]
  exact hR
theorem RWr.fp {g h : G2} {s : TxS} (hW : RWr g s) (F : FP g h) : RWr h s := by
  obtain ⟨a1, a2, a3, a4, a5, a6, a7⟩ := hW
  refine ⟨by rw [F.2.2.1 5 (by decide)]; exact a1, by rw [F.2.2.1 6 (by decide)]; exact a2, by rw [F.2.2.1 7 (by decide)]; exact a3, by rw [F.2.2.1 8 (by decide)]; exact a4, fun p hp => ?_, fun i hi => ?_, fun i hi => ?_⟩
  · rw [F.1 88 (by decide) (by decide) (by decide), F.1 89 (by decide) (by decide) (by decide), F.1 90 (by decide) (by decide) (by decide), F.1 91 (by decide) (by decide) (by decide)]; exact a5 p hp
  · rw [F.1 92 (by decide) (by decide) (by decide), F.1 93 (by decide) (by decide) (by decide)]; exact a6 i hi
  · rw [F.1 94 (by decide) (by decide) (by decide)]; exact a7 i hi
/-- what a reader of a line comes to -/
def LMq (Q : QT) (f : Nat → Nat) (n : Nat) (g : G2) (r : LR) : Prop := (∀ h, r.b = 0 → FMl g h → RMr h f n r.s → Q none h) ∧ (∀ h, r.b ≠ 0 → FMl g h → (∃ m : MS, m.bad = r.b ∧ m.bp = r.p ∧ RMs h f n m) → Q none h)
/-! with a fault, nothing more -/
theorem nmM_b {lo hi : Nat} {s : MS} (h : s.bad ≠ 0) : nmM lo hi s = s := if_neg h
theorem nmV_b {lo hi : Nat} {s : MS} (h : s.bad ≠ 0) : nmV lo hi s = 0 := by unfold nmV; rw [nmM_b h, if_neg h]
theorem adB_b {f : Nat → Nat} {n : Nat} {s : MS} (h : s.bad ≠ 0) : adB f n s = s := if_neg h
theorem rnN_b {f : Nat → Nat} {n lo hi : Nat} {s : MS} (h : s.bad ≠ 0) : rnN f n lo hi s = s := by unfold rnN; rw [nmM_b h, adB_b h]
theorem wr_b {k : Nat} {s : MS} (h : s.bad ≠ 0) : wr k s = s := if_neg h
theorem wr_z {k : Nat} {t : Tk} {c : List Int32} : wr k (t, 0, 0, c) = (t, k, t.pl, c) := if_pos rfl
theorem nmM_z {lo hi : Nat} {t : Tk} {c : List Int32} : nmM lo hi (t, 0, 0, c) = if nuC lo hi t = 0 then (t, 0, 0, c) else (t, nuC lo hi t, t.pl, c) := by
  unfold nmM nuC
  rw [if_pos (show MS.bad (t, 0, 0, c) = 0 from rfl)]
  show (if t.k = 2 then (if 4 < t.dg ∨ t.v < lo ∨ hi < t.v then wr 2 (t, 0, 0, c) else (t, 0, 0, c)) else wr 1 (t, 0, 0, c)) = _
  by_cases h1 : t.k = 2
  · rw [if_pos h1, if_pos h1]
    by_cases h2 : 4 < t.dg ∨ t.v < lo ∨ hi < t.v
    · rw [if_pos h2, if_pos h2, if_neg (by decide), wr_z]
    · rw [if_neg h2, if_neg h2, if_pos rfl]
  · rw [if_neg h1, if_neg h1, if_neg (by decide), wr_z]
theorem nmM_0 {lo hi : Nat} {t : Tk} {c : List Int32} (h : nuC lo hi t = 0) : nmM lo hi (t, 0, 0, c) = (t, 0, 0, c) := by rw [nmM_z, if_pos h]
theorem nmM_n {lo hi : Nat} {t : Tk} {c : List Int32} (h : nuC lo hi t ≠ 0) : nmM lo hi (t, 0, 0, c) = (t, nuC lo hi t, t.pl, c) := by rw [nmM_z, if_neg h]
theorem nmV_0 {lo hi : Nat} {t : Tk} {c : List Int32} (h : nuC lo hi t = 0) : nmV lo hi (t, 0, 0, c) = t.v := by unfold nmV; rw [nmM_0 h, if_pos rfl]
theorem rnN_0 {f : Nat → Nat} {n lo hi : Nat} {t : Tk} {c : List Int32} (h : nuC lo hi t = 0) : rnN f n lo hi (t, 0, 0, c) = (nxt f n t.af, 0, 0, c) := by unfold rnN; rw [nmM_0 h]; exact if_pos rfl
theorem rnN_n {f : Nat → Nat} {n lo hi : Nat} {t : Tk} {c : List Int32} (h : nuC lo hi t ≠ 0) : rnN f n lo hi (t, 0, 0, c) = (t, nuC lo hi t, t.pl, c) := by unfold rnN; rw [nmM_n h]; exact if_neg h
theorem nmV_le {lo hi : Nat} {s : MS} (f : Nat → Nat) {n : Nat} (h : isTk f n s.t) : nmV lo hi s ≤ 9999 := by
  unfold nmV; split
  · exact h.vd.2.1
  · exact Nat.zero_le _
/-- a person's number -/
def pnM (np : Nat) (s : MS) : MS := if (nmM 0 9999 s).bad = 0 ∧ np ≤ nmV 0 9999 s then wr 3 (nmM 0 9999 s) else nmM 0 9999 s
def pnV (np : Nat) (s : MS) : Nat := if (pnM np s).bad = 0 then nmV 0 9999 s else 0
theorem pnM_b {np : Nat} {s : MS} (h : s.bad ≠ 0) : pnM np s = s := by unfold pnM; rw [nmM_b h, if_neg (fun q => h q.1)]
theorem pnV_b {np : Nat} {s : MS} (h : s.bad ≠ 0) : pnV np s = 0 := by unfold pnV; rw [pnM_b h, if_neg h]
theorem pnM_0 {np : Nat} {t : Tk} {c : List Int32} (h : pnC np t = 0) : pnM np (t, 0, 0, c) = (t, 0, 0, c) := by
  obtain ⟨h1, h2⟩ := pnC_0 h
  unfold pnM
  rw [nmM_0 h1, nmV_0 h1, if_neg (by omega)]
theorem pnM_n {np : Nat} {t : Tk} {c : List Int32} (h : pnC np t ≠ 0) : pnM np (t, 0, 0, c) = (t, pnC np t, t.pl, c) := by
  unfold pnM
  by_cases h1 : nuC 0 9999 t = 0
  · have e : pnC np t = 3 := by
      unfold pnC at h ⊢
      rw [if_pos h1] at h ⊢
      split at h
      · exact absurd rfl h
      · rw [if_neg ‹_›]
    have h2 : ¬ t.v < np := fun q => h (by unfold pnC; rw [if_pos h1, if_pos q])
    rw [nmM_0 h1, nmV_0 h1, if_pos ⟨rfl, by omega⟩, wr_z, e]
  · have e : pnC np t = nuC 0 9999 t := by unfold pnC; rw [if_neg h1]
    rw [nmM_n h1, if_neg (fun q => h1 q.1), e]
theorem pnV_0 {np : Nat} {t : Tk} {c : List Int32} (h : pnC np t = 0) : pnV np (t, 0, 0, c) = t.v := by unfold pnV; rw [pnM_0 h, if_pos rfl]; exact nmV_0 (pnC_0 h).1
theorem pnV_le {np : Nat} {s : MS} (f : Nat → Nat) {n : Nat} (h : isTk f n s.t) : pnV np s ≤ 9999 := by
  unfold pnV; split
  · exact nmV_le f h
  · exact Nat.zero_le _
/-- a person's line, as the model goes through it -/
def mP3 (f : Nat → Nat) (n : Nat) (s1 : MS) : MS := nmM 1 365 (rnN f n 0 3 s1)
def mP5 (f : Nat → Nat) (n : Nat) (T : Nat → Bool) (s1 : MS) : MS := adB f n (if (mP3 f n s1).bad = 0 ∧ T (nmV 1 365 (rnN f n 0 3 s1)) = true then wr 4 (mP3 f n s1) else mP3 f n s1)
def mP6 (f : Nat → Nat) (n : Nat) (T : Nat → Bool) (s1 : MS) : MS := rnN f n 0 11 (mP5 f n T s1)
theorem lnP_M {f : Nat → Nat} {n k : Nat} {s : TxS} (h8 : ¬ 8 ≤ s.np) : ((lnP f n k s).b ≠ 0 ∧ (mP6 f n (fun v => anyN (fun i => s.H 1 i == v) s.np) (nxt f n s.t.af, 0, 0, s.c)).bad = (lnP f n k s).b ∧ (mP6 f n (fun v => anyN (fun i => s.H 1 i == v) s.np) (nxt f n s.t.af, 0, 0, s.c)).bp = (lnP f n k s).p) ∨
    ((lnP f n k s).b = 0 ∧ ∃ a b c, nmV 0 3 (nxt f n s.t.af, 0, 0, s.c) = a ∧ nmV 1 365 (rnN f n 0 3 (nxt f n s.t.af, 0, 0, s.c)) = b ∧ nmV 0 11 (mP5 f n (fun v => anyN (fun i => s.H 1 i == v) s.np) (nxt f n s.t.af, 0, 0, s.c)) = c ∧ (lnP f n k s).s = ((lnP f n k s).s.t, s.np + 1, s.nf, s.no, s.dk, s.dt, s.ds, s.c, uN (uN (uN (uN s.H 0 s.np k) 5 s.np a) 1 s.np b) 6 s.np c) ∧ mP6 f n (fun v => anyN (fun i => s.H 1 i == v) s.np) (nxt f n s.t.af, 0, 0, s.c) = ((lnP f n k s).s.t, 0, 0, s.c)) := by
  unfold lnP
  simp only
  rw [if_neg h8]
  generalize nxt f n s.t.af = t1
  unfold mP6 mP5 mP3
  by_cases c2 : nuC 0 3 t1 ≠ 0
  · rw [if_pos c2]
    left
    refine ⟨c2, ?_⟩
    have hb : MS.bad (t1, nuC 0 3 t1, t1.pl, s.c) ≠ 0 := c2
    rw [rnN_n c2, nmM_b hb, if_neg (fun q => hb q.1), adB_b hb, rnN_b hb]
    exact ⟨rfl, rfl⟩
  · have c2 := Decidable.not_not.mp c2
    rw [if_neg (Decidable.not_not.mpr c2), rnN_0 c2]
    generalize nxt f n t1.af = t2
    by_cases c3 : nuC 1 365 t2 ≠ 0
    · rw [if_pos c3]
      left
      refine ⟨c3, ?_⟩
      have hb : MS.bad (t2, nuC 1 365 t2, t2.pl, s.c) ≠ 0 := c3
      rw [nmM_n c3, if_neg (fun q => hb q.1), adB_b hb, rnN_b hb]
      exact ⟨rfl, rfl⟩
    · have c3 := Decidable.not_not.mp c3
      rw [if_neg (Decidable.not_not.mpr c3), nmM_0 c3, nmV_0 c3]
      by_cases c4 : anyN (fun i => s.H 1 i == t2.v) s.np = true
      · rw [if_pos c4, if_pos ⟨rfl, c4⟩, wr_z]
        left
        have hb : MS.bad (t2, 4, t2.pl, s.c) ≠ 0 := Nat.succ_ne_zero 3
        rw [adB_b hb, rnN_b hb]
        exact ⟨Nat.succ_ne_zero 3, rfl, rfl⟩
      · have eI : (if MS.bad (t2, 0, 0, s.c) = 0 ∧ (fun v => anyN (fun i => s.H 1 i == v) s.np) t2.v = true then wr 4 (t2, 0, 0, s.c) else (t2, 0, 0, s.c)) = (t2, 0, 0, s.c) := if_neg (fun q => c4 q.2)
        rw [if_neg c4, eI, show adB f n (t2, 0, 0, s.c) = (nxt f n t2.af, 0, 0, s.c) from if_pos rfl]
        generalize nxt f n t2.af = t3
        by_cases c5 : nuC 0 11 t3 ≠ 0
        · rw [if_pos c5]
          left
          refine ⟨c5, ?_⟩
          rw [rnN_n c5]
          exact ⟨rfl, rfl⟩
        · have c5 := Decidable.not_not.mp c5
          rw [if_neg (Decidable.not_not.mpr c5), rnN_0 c5]
          right
          exact ⟨rfl, t1.v, t2.v, t3.v, nmV_0 c2, rfl, nmV_0 c5, rfl, rfl⟩
/-- a feud's line -/
def mF4 (f : Nat → Nat) (n np : Nat) (s1 : MS) : MS := pnM np (adB f n (pnM np s1))
def mF6 (f : Nat → Nat) (n np : Nat) (T : Nat → Nat → Bool) (s1 : MS) : MS := adB f n (if (mF4 f n np s1).bad = 0 ∧ T (pnV np s1) (pnV np (adB f n (pnM np s1))) = true then wr 4 (mF4 f n np s1) else mF4 f n np s1)
theorem lnF_M {f : Nat → Nat} {n : Nat} {s : TxS} (h6 : ¬ 6 ≤ s.nf) : ((lnF f n s).b ≠ 0 ∧ (mF6 f n s.np (fun a b => (a == b) || anyN (fdN s.H a b) s.nf) (nxt f n s.t.af, 0, 0, s.c)).bad = (lnF f n s).b ∧ (mF6 f n s.np (fun a b => (a == b) || anyN (fdN s.H a b) s.nf) (nxt f n s.t.af, 0, 0, s.c)).bp = (lnF f n s).p) ∨
    ((lnF f n s).b = 0 ∧ ∃ a b, pnV s.np (nxt f n s.t.af, 0, 0, s.c) = a ∧ pnV s.np (adB f n (pnM s.np (nxt f n s.t.af, 0, 0, s.c))) = b ∧ (lnF f n s).s = ((lnF f n s).s.t, s.np, s.nf + 1, s.no, s.dk, s.dt, s.ds, s.c, uN (uN s.H 7 s.nf a) 8 s.nf b) ∧ mF6 f n s.np (fun a b => (a == b) || anyN (fdN s.H a b) s.nf) (nxt f n s.t.af, 0, 0, s.c) = ((lnF f n s).s.t, 0, 0, s.c)) := by
  unfold lnF
  simp only
  rw [if_neg h6]
  generalize nxt f n s.t.af = t1
  unfold mF6 mF4
  by_cases c2 : pnC s.np t1 ≠ 0
  · rw [if_pos c2]
    left
    refine ⟨c2, ?_⟩
    have hb : MS.bad (t1, pnC s.np t1, t1.pl, s.c) ≠ 0 := c2
    rw [pnM_n c2, adB_b hb, pnM_b hb, if_neg (fun q => hb q.1), adB_b hb]
    exact ⟨rfl, rfl⟩
  · have c2 := Decidable.not_not.mp c2
    rw [if_neg (Decidable.not_not.mpr c2), pnM_0 c2, show adB f n (t1, 0, 0, s.c) = (nxt f n t1.af, 0, 0, s.c) from if_pos rfl]
    generalize nxt f n t1.af = t2
    by_cases c3 : pnC s.np t2 ≠ 0
    · rw [if_pos c3]
      left
      refine ⟨c3, ?_⟩
      have hb : MS.bad (t2, pnC s.np t2, t2.pl, s.c) ≠ 0 := c3
      rw [pnM_n c3, if_neg (fun q => hb q.1), adB_b hb]
      exact ⟨rfl, rfl⟩
    · have c3 := Decidable.not_not.mp c3
      rw [if_neg (Decidable.not_not.mpr c3), pnM_0 c3, pnV_0 c2, pnV_0 c3]
      by_cases c4 : t1.v = t2.v ∨ anyN (fdN s.H t1.v t2.v) s.nf = true
      · rw [if_pos c4, if_pos ⟨rfl, by simp only [Bool.or_eq_true, beq_iff_eq]; exact c4⟩, wr_z]
        left
        have hb : MS.bad (t2, 4, t2.pl, s.c) ≠ 0 := Nat.succ_ne_zero 3
        rw [adB_b hb]
        exact ⟨Nat.succ_ne_zero 3, rfl, rfl⟩
      · rw [if_neg c4, if_neg (fun q => c4 (by have := q.2; simp only [Bool.or_eq_true, beq_iff_eq] at this; exact this)), show adB f n (t2, 0, 0, s.c) = (nxt f n t2.af, 0, 0, s.c) from if_pos rfl]
        right
        exact ⟨rfl, t1.v, t2.v, rfl, rfl, rfl, rfl⟩
theorem c_X12_personNow {E : En} {d : Nat} {Q : QT} {X : XT} {g : G2} {np : Nat} {f : Nat → Nat} {n : Nat} {s : MS} (hR : RMs g f n s) (h5 : g 87 5 = nI np) (h8 : np ≤ 8) (hq : ∀ h, FP g h → RMs h f n (pnM np s) → Q (some (.int (nI (pnV np s)))) h) : M E md_X12_personNow (d + 2) [.ref 84] g Q X := by
  refine M.of _ rfl rfl (Nat.le_of_ble_eq_true rfl) ?_
  refine b_aload_n dX12_personNow_0 rfl rfl ?_
  refine b_iconst (v := 0) dX12_personNow_1 (by decide +kernel) ?_
  refine b_sipush (v := 9999) dX12_personNow_2 (by decide +kernel) ?_
  refine b_callV (As := [_, _]) (st := []) dX12_personNow_5 lk_X12_242 lm_X12_numberNow lv_X12_numberNow rfl (by decide) rfl rfl rfl (Nat.le_of_ble_eq_true rfl) (Nat.le_refl _) (by decide) ?_
  refine c_X12_numberNow (lo := 0) (hi := 9999) hR (by decide) (by decide) (fun h1 F1 R1 => ?_)
  have hb6 := R1.2.2.2.2.1
  have hv := nmV_le (lo := 0) (hi := 9999) f hR.2.2.1
  refine b_istore_n (lv' := [(0, _), (1, _)]) dX12_personNow_8 rfl (by decide) rfl rfl ?_
  refine b_aload_n dX12_personNow_9 rfl rfl ?_
  refine b_getI lf_X12_214 rfl dX12_personNow_10 ?_
  refine b_topE (R1.2.2.2.1) ?_
  refine b_if_ne (tgt := 31) dX12_personNow_13 (by decide) (fun h13 => ?_) (fun h13 => ?_)
  · have e13 : ((nmM 0 9999 s).bad) ≠ 0 := fun q => h13 (by rw [q]; rfl)
    refine b_aload_n dX12_personNow_31 rfl rfl ?_
    refine b_getI lf_X12_214 rfl dX12_personNow_32 ?_
    refine b_topE (R1.2.2.2.1) ?_
    refine b_if_ne (tgt := 42) dX12_personNow_35 (by decide) (fun h35 => ?_) (fun h35 => ?_)
    · have e35 : ((nmM 0 9999 s).bad) ≠ 0 := fun q => h35 (by rw [q]; rfl)
      refine b_iconst (v := 0) dX12_personNow_42 (by decide +kernel) ?_
      refine b_iret rfl (by decide) dX12_personNow_43 ?_
      have z : pnM np s = nmM 0 9999 s := if_neg (fun q => e13 q.1)
      have z2 : pnV np s = 0 := by unfold pnV; rw [z, if_neg e13]
      rw [z, z2] at hq
      exact hq h1 F1 R1
    · have e35 : ((nmM 0 9999 s).bad) = 0 := nI_inj (b := 0) (by omega) (by decide) h35
      refine b_iload_n dX12_personNow_38 rfl rfl ?_
      refine b_goto (tgt := 43) dX12_personNow_39 (by decide) ?_
      refine b_iret rfl (by decide) dX12_personNow_43 ?_
      exact absurd e35 e13
  · have e13 : ((nmM 0 9999 s).bad) = 0 := nI_inj (b := 0) (by omega) (by decide) h13
    refine b_iload_n dX12_personNow_16 rfl rfl ?_
    refine b_aload_n dX12_personNow_17 rfl rfl ?_
    refine b_getR (b := 87) lf_X12_40 rfl rfl dX12_personNow_18 ?_
    refine b_iconst (v := 5) dX12_personNow_21 (by decide +kernel) ?_
    refine b_ildN (j := 5) dX12_personNow_22 (rfl) (by show _ < 10; omega) ?_
    refine b_topE (((F1.2.2.1 5 (by decide)).trans h5)) ?_
    refine b_icmp_lt (tgt := 31) dX12_personNow_23 (by decide) (fun h23 => ?_) (fun h23 => ?_)
    · have e23 : ((nmV 0 9999 s)) < np := nn_lt (a := ((nmV 0 9999 s))) (b := np) (by omega) (by omega) h23
      refine b_aload_n dX12_personNow_31 rfl rfl ?_
      refine b_getI lf_X12_214 rfl dX12_personNow_32 ?_
      refine b_topE (R1.2.2.2.1) ?_
      refine b_if_ne (tgt := 42) dX12_personNow_35 (by decide) (fun h35 => ?_) (fun h35 => ?_)
      · have e35 : ((nmM 0 9999 s).bad) ≠ 0 := fun q => h35 (by rw [q]; rfl)
        refine b_iconst (v := 0) dX12_personNow_42 (by decide +kernel) ?_
        refine b_iret rfl (by decide) dX12_personNow_43 ?_
        exact absurd e13 e35
      · have e35 : ((nmM 0 9999 s).bad) = 0 := nI_inj (b := 0) (by omega) (by decide) h35
        refine b_iload_n dX12_personNow_38 rfl rfl ?_
        refine b_goto (tgt := 43) dX12_personNow_39 (by decide) ?_
        refine b_iret rfl (by decide) dX12_personNow_43 ?_
        have z : pnM np s = nmM 0 9999 s := if_neg (fun q => absurd q.2 (by omega))
        have z2 : pnV np s = nmV 0 9999 s := by unfold pnV; rw [z, if_pos e13]
        rw [z, z2] at hq
        exact hq h1 F1 R1
    · have e23 : np ≤ ((nmV 0 9999 s)) := nn_nlt (a := ((nmV 0 9999 s))) (b := np) (by omega) (by omega) h23
      refine b_aload_n dX12_personNow_26 rfl rfl ?_
      refine b_iconst (v := 3) dX12_personNow_27 (by decide +kernel) ?_
      refine b_callV (As := [_]) (st := []) dX12_personNow_28 lk_X12_235 lm_X12_wrong lv_X12_wrong rfl (by decide) rfl rfl rfl (Nat.le_of_ble_eq_true rfl) (Nat.le_refl _) (by decide) ?_
      refine c_X12_wrong (k := 3) R1 (by decide) (fun h2 F2 R2 => ?_)
      have hb7 := R2.2.2.2.2.1
      refine b_aload_n dX12_personNow_31 rfl rfl ?_
      refine b_getI lf_X12_214 rfl dX12_personNow_32 ?_
      refine b_topE (R2.2.2.2.1) ?_
      refine b_if_ne (tgt := 42) dX12_personNow_35 (by decide) (fun h35 => ?_) (fun h35 => ?_)
      · have e35 : ((wr 3 (nmM 0 9999 s)).bad) ≠ 0 := fun q => h35 (by rw [q]; rfl)
        refine b_iconst (v := 0) dX12_personNow_42 (by decide +kernel) ?_
        refine b_iret rfl (by decide) dX12_personNow_43 ?_
        have z : pnM np s = wr 3 (nmM 0 9999 s) := if_pos ⟨e13, e23⟩
        have z2 : pnV np s = 0 := by unfold pnV; rw [z, if_neg e35]
        rw [z, z2] at hq
        exact hq h2 (F1.tr F2) R2
      · have e35 : ((wr 3 (nmM 0 9999 s)).bad) = 0 := nI_inj (b := 0) (by omega) (by decide) h35
        refine b_iload_n dX12_personNow_38 rfl rfl ?_
        refine b_goto (tgt := 43) dX12_personNow_39 (by decide) ?_
        refine b_iret rfl (by decide) dX12_personNow_43 ?_
        have z3 : (wr 3 (nmM 0 9999 s)).bad = 3 := by unfold wr; rw [if_pos e13]
        rw [z3] at e35
        exact absurd e35 (by decide)
theorem c_X12_another {E : En} {d : Nat} {Q : QT} {X : XT} {g : G2} {w m k : Nat} {f : Nat → Nat} {n : Nat} {s : MS} (hR : RMs g f n s) (hb : s.bad = 0) (hw : w ≤ 1) (hm : m ≤ 8) (h5 : g 87 (5 + w) = nI k) (h8 : k ≤ 8) (hy : k ≠ m → ∀ h, FP g h → RMs h f n (adv f n s) → Q (some (.int 1)) h) (hn : k = m → ∀ h, FP g h → RMs h f n (wr 2 s) → Q (some (.int 0)) h) : M E md_X12_another (d + 2) [.ref 84, .int (nI w), .int (nI m)] g Q X := by
  refine M.of _ rfl rfl (Nat.le_of_ble_eq_true rfl) ?_
  refine b_aload_n dX12_another_0 rfl rfl ?_
  refine b_getR (b := 87) lf_X12_40 rfl rfl dX12_another_1 ?_
  refine b_iconst (v := 5) dX12_another_4 (by decide +kernel) ?_
  refine b_iload_n dX12_another_5 rfl rfl ?_
  refine b_iadd dX12_another_6 ?_
  refine b_topE (nI_add 5 w) ?_
  refine b_ildN (j := (5 + w)) dX12_another_7 (rfl) (by show _ < 10; omega) ?_
  refine b_topE (h5) ?_
  refine b_iload_n dX12_another_8 rfl rfl ?_
  refine b_icmp_ne (tgt := 17) dX12_another_9 (by decide) (fun h9 => ?_) (fun h9 => ?_)
  · have e9 : k ≠ m := fun q => h9 (congrArg nI q)
    refine b_aload_n dX12_another_17 rfl rfl ?_
    refine b_getI lf_X12_214 rfl dX12_another_18 ?_
    refine b_topE (hR.2.2.2.1) ?_
    refine b_if_eq (tgt := 26) dX12_another_21 (by decide) (fun h21 => ?_) (fun h21 => ?_)
    · have e21 : s.bad = 0 := nI_inj (b := 0) (by omega) (by decide) h21
      refine b_aload_n dX12_another_26 rfl rfl ?_
      refine b_callV (As := []) (st := []) dX12_another_27 lk_X12_239 lm_X12_stepOn lv_X12_stepOn rfl (by decide) rfl rfl rfl (Nat.le_of_ble_eq_true rfl) (Nat.le_refl _) (by decide) ?_
      refine c_X12_stepOn hR.1 hR.2.1.1 hR.2.2.1.ok.1 (fun h2 F2 T2 => ?_)
      refine b_iconst (v := 1) dX12_another_30 (by decide +kernel) ?_
      refine b_zret (Or.inr rfl) rfl (by decide) dX12_another_31 ?_
      exact hy e9 h2 F2.fp (hR.adv F2 T2)
    · have e21 : s.bad ≠ 0 := fun q => h21 (by rw [q]; rfl)
      refine b_iconst (v := 0) dX12_another_24 (by decide +kernel) ?_
      refine b_zret (Or.inl rfl) rfl (by decide) dX12_another_25 ?_
      exact absurd hb e21
  · have e9 : k = m := nI_inj (a := k) (b := m) (by omega) (by omega) h9
    refine b_aload_n dX12_another_12 rfl rfl ?_
    refine b_iconst (v := 2) dX12_another_13 (by decide +kernel) ?_
    refine b_callV (As := [_]) (st := []) dX12_another_14 lk_X12_235 lm_X12_wrong lv_X12_wrong rfl (by decide) rfl rfl rfl (Nat.le_of_ble_eq_true rfl) (Nat.le_refl _) (by decide) ?_
    refine c_X12_wrong hR (by decide) (fun h2 F2 R2 => ?_)
    have z3 : (wr 2 s).bad = 2 := by unfold wr; rw [if_pos hb]
    refine b_aload_n dX12_another_17 rfl rfl ?_
    refine b_getI lf_X12_214 rfl dX12_another_18 ?_
    refine b_topE (R2.2.2.2.1) ?_
    refine b_if_eq (tgt := 26) dX12_another_21 (by decide) (fun h21 => ?_) (fun h21 => ?_)
    · have e21 : ((wr 2 s).bad) = 0 := nI_inj (b := 0) (by omega) (by decide) h21
      exact absurd e21 (by omega)
    · have e21 : ((wr 2 s).bad) ≠ 0 := fun q => h21 (by rw [q]; rfl)
      refine b_iconst (v := 0) dX12_another_24 (by decide +kernel) ?_
      refine b_zret (Or.inl rfl) rfl (by decide) dX12_another_25 ?_
      exact hn e9 h2 F2 R2
theorem up2_U (g : G2) (a k : Nat) (x : Int32) : up2 g a k x a = upd (g a) k x := up2_u g a k x
theorem per_rows {g h1 h2 h3 h4 : G2} {j : Nat} {x0 x1 x2 x3 y : Int32} (F1 : FP g h1) (F2 : FP (up2 h1 88 j x0) h2) (F3 : FP (up2 h2 89 j x1) h3) (F4 : FP (up2 h3 90 j x2) h4) : up2 (up2 h4 91 j x3) 87 5 y 88 = upd (g 88) j x0 ∧ up2 (up2 h4 91 j x3) 87 5 y 89 = upd (g 89) j x1 ∧ up2 (up2 h4 91 j x3) 87 5 y 90 = upd (g 90) j x2 ∧ up2 (up2 h4 91 j x3) 87 5 y 91 = upd (g 91) j x3 ∧ (∀ i, i ≠ 5 → i ≠ 9 → up2 (up2 h4 91 j x3) 87 5 y 87 i = g 87 i) ∧ (∀ z, 92 ≤ z → z ≤ 94 → up2 (up2 h4 91 j x3) 87 5 y z = g z) := by
  refine ⟨?_, ?_, ?_, ?_, fun i a b => ?_, fun z a b => ?_⟩
  · rw [up2_f _ _ _ _ (by decide), up2_f _ _ _ _ (by decide), F4.1 88 (by decide) (by decide) (by decide), up2_f _ _ _ _ (by decide), F3.1 88 (by decide) (by decide) (by decide), up2_f _ _ _ _ (by decide), F2.1 88 (by decide) (by decide) (by decide), up2_u, F1.1 88 (by decide) (by decide) (by decide)]
  · rw [up2_f _ _ _ _ (by decide), up2_f _ _ _ _ (by decide), F4.1 89 (by decide) (by decide) (by decide), up2_f _ _ _ _ (by decide), F3.1 89 (by decide) (by decide) (by decide), up2_u, F2.1 89 (by decide) (by decide) (by decide), up2_f _ _ _ _ (by decide), F1.1 89 (by decide) (by decide) (by decide)]
  · rw [up2_f _ _ _ _ (by decide), up2_f _ _ _ _ (by decide), F4.1 90 (by decide) (by decide) (by decide), up2_u, F3.1 90 (by decide) (by decide) (by decide), up2_f _ _ _ _ (by decide), F2.1 90 (by decide) (by decide) (by decide), up2_f _ _ _ _ (by decide), F1.1 90 (by decide) (by decide) (by decide)]
  · rw [up2_f _ _ _ _ (by decide), up2_u, F4.1 91 (by decide) (by decide) (by decide), up2_f _ _ _ _ (by decide), F3.1 91 (by decide) (by decide) (by decide), up2_f _ _ _ _ (by decide), F2.1 91 (by decide) (by decide) (by decide), up2_f _ _ _ _ (by decide), F1.1 91 (by decide) (by decide) (by decide)]
  · rw [up2_k _ _ _ _ a, up2_f _ _ _ _ (by decide), F4.2.2.1 i b, up2_f _ _ _ _ (by decide), F3.2.2.1 i b, up2_f _ _ _ _ (by decide), F2.2.2.1 i b, up2_f _ _ _ _ (by decide), F1.2.2.1 i b]
  · rw [up2_f _ _ _ _ (by omega), up2_f _ _ _ _ (by omega), F4.1 z (by omega) (by omega) (by omega), up2_f _ _ _ _ (by omega), F3.1 z (by omega) (by omega) (by omega), up2_f _ _ _ _ (by omega), F2.1 z (by omega) (by omega) (by omega), up2_f _ _ _ _ (by omega), F1.1 z (by omega) (by omega) (by omega)]
theorem upd_s (f : Nat → Int32) (k : Nat) (x : Int32) : upd f k x k = x := by simp [upd]
theorem upd_k (f : Nat → Int32) {k j : Nat} (x : Int32) (h : j ≠ k) : upd f k x j = f j := by simp [upd, h]
theorem RWr.per {g h : G2} {s : TxS} {t : Tk} {k a b c : Nat} (hW : RWr g s) (e0 : h 88 = upd (g 88) (8 + s.np) (nI k)) (e1 : h 89 = upd (g 89) (8 + s.np) (nI a)) (e2 : h 90 = upd (g 90) (8 + s.np) (nI b)) (e3 : h 91 = upd (g 91) (8 + s.np) (nI c)) (e5 : h 87 5 = nI (s.np + 1)) (e6 : ∀ i, i ≠ 5 → i ≠ 9 → h 87 i = g 87 i) (e7 : ∀ z, 92 ≤ z → z ≤ 94 → h z = g z) : RWr h (t, s.np + 1, s.nf, s.no, s.dk, s.dt, s.ds, s.c, uN (uN (uN (uN s.H 0 s.np k) 5 s.np a) 1 s.np b) 6 s.np c) := by
  obtain ⟨a1, a2, a3, a4, a5, a6, a7⟩ := hW
  have hR : ∀ r p, r ≠ 0 → r ≠ 5 → r ≠ 1 → r ≠ 6 → uN (uN (uN (uN s.H 0 s.np k) 5 s.np a) 1 s.np b) 6 s.np c r p = s.H r p := fun r p e0 e5 e1 e6 => by
    rw [uN_r _ _ _ _ e6, uN_r _ _ _ _ e1, uN_r _ _ _ _ e5, uN_r _ _ _ _ e0]
  refine ⟨e5, by rw [e6 6 (by decide) (by decide)]; exact a2, by rw [e6 7 (by decide) (by decide)]; exact a3, ?_, fun p hp => ?_, fun i hi => ?_, fun i hi => ?_⟩
  · show h 87 8 = nI (uN (uN (uN (uN s.H 0 s.np k) 5 s.np a) 1 s.np b) 6 s.np c 9 0)
    rw [hR 9 0 (by decide) (by decide) (by decide) (by decide), e6 8 (by decide) (by decide)]; exact a4
  · have hp : p < s.np + 1 := hp
    show h 88 (8 + p) = nI (uN (uN (uN (uN s.H 0 s.np k) 5 s.np a) 1 s.np b) 6 s.np c 0 p) ∧ h 89 (8 + p) = nI (uN (uN (uN (uN s.H 0 s.np k) 5 s.np a) 1 s.np b) 6 s.np c 5 p) ∧ h 90 (8 + p) = nI (uN (uN (uN (uN s.H 0 s.np k) 5 s.np a) 1 s.np b) 6 s.np c 1 p) ∧ h 91 (8 + p) = nI (uN (uN (uN (uN s.H 0 s.np k) 5 s.np a) 1 s.np b) 6 s.np c 6 p)
    rw [e0, e1, e2, e3, uN_r _ _ _ _ (show 0 ≠ 6 by decide), uN_r _ _ _ _ (show 0 ≠ 1 by decide), uN_r _ _ _ _ (show 0 ≠ 5 by decide), uN_r _ _ _ _ (show 5 ≠ 6 by decide), uN_r _ _ _ _ (show 5 ≠ 1 by decide), uN_r _ _ _ _ (show 1 ≠ 6 by decide)]
    by_cases q : p = s.np
    · rw [q, uN_s, uN_s, uN_s, uN_s, upd_s, upd_s, upd_s, upd_s]; exact ⟨rfl, rfl, rfl, rfl⟩
    · rw [uN_j _ _ _ _ q, uN_j _ _ _ _ q, uN_j _ _ _ _ q, uN_j _ _ _ _ q, uN_r _ _ _ _ (by decide), uN_r _ _ _ _ (by decide), uN_r _ _ _ _ (by decide), uN_r _ _ _ _ (by decide), uN_r _ _ _ _ (by decide), uN_r _ _ _ _ (by decide), upd_k _ _ (by omega), upd_k _ _ (by omega), upd_k _ _ (by omega), upd_k _ _ (by omega)]
      exact a5 p (by omega)
  · show h 92 (6 + i) = nI (uN (uN (uN (uN s.H 0 s.np k) 5 s.np a) 1 s.np b) 6 s.np c 7 i) ∧ h 93 (6 + i) = nI (uN (uN (uN (uN s.H 0 s.np k) 5 s.np a) 1 s.np b) 6 s.np c 8 i)
    rw [hR 7 i (by decide) (by decide) (by decide) (by decide), hR 8 i (by decide) (by decide) (by decide) (by decide), e7 92 (by decide) (by decide), e7 93 (by decide) (by decide)]
    exact a6 i hi
  · show h 94 (24 + i) = nI (uN (uN (uN (uN s.H 0 s.np k) 5 s.np a) 1 s.np b) 6 s.np c 4 i)
    rw [hR 4 i (by decide) (by decide) (by decide) (by decide), e7 94 (by decide) (by decide)]
    exact a7 i hi
theorem c_X12_sayPerson {E : En} {d : Nat} {Q : QT} {X : XT} {g : G2} {k : Nat} {f : Nat → Nat} {n : Nat} {s : TxS} (hM : RMr g f n s) (hO : okLs f n s) (hq : LMq Q f n g (lnP f n k s)) : M E md_X12_sayPerson (d + 3) [.ref 84, .int (nI k)] g Q X := by
  refine M.of _ rfl rfl (Nat.le_of_ble_eq_true rfl) ?_
  have h8 := hO.2.1
  refine b_aload_n dX12_sayPerson_0 rfl rfl ?_
  refine b_iconst (v := 0) dX12_sayPerson_1 (by decide +kernel) ?_
  refine b_bipush (v := 8) dX12_sayPerson_2 (by decide +kernel) ?_
  refine b_callV (As := [_, _]) (st := []) dX12_sayPerson_4 lk_X12_282 lm_X12_another lv_X12_another rfl (by decide) rfl rfl rfl (Nat.le_of_ble_eq_true rfl) (Nat.le_refl _) (by decide) ?_
  refine c_X12_another (s := (s.t, 0, 0, s.c)) (w := 0) (m := 8) (k := s.np) hM.1 rfl (by decide) (by decide) hM.2.1 hO.2.1 (fun c1 h1 F1 R1 => ?_) (fun c1 h1 F1 R1 => ?_)
  · have W1 := hM.2.fp F1
    have R1 : RMs h1 f n (nxt f n s.t.af, 0, 0, s.c) := R1
    have hLM := lnP_M (f := f) (n := n) (k := k) (s := s) (by omega)
    have i1 := hO.1.nx
    generalize es1 : ((nxt f n s.t.af, 0, 0, s.c) : MS) = s1 at R1 hLM
    refine b_if_ne (tgt := 11) dX12_sayPerson_7 (by decide) (fun h7 => ?_) (fun h7 => ?_)
    · refine b_bipush (v := 8) dX12_sayPerson_11 (by decide +kernel) ?_
      refine b_aload_n dX12_sayPerson_13 rfl rfl ?_
      refine b_getR (b := 87) lf_X12_40 rfl rfl dX12_sayPerson_14 ?_
      refine b_iconst (v := 5) dX12_sayPerson_17 (by decide +kernel) ?_
      refine b_ildN (j := 5) dX12_sayPerson_18 (rfl) (by show _ < 10; omega) ?_
      refine b_topE (W1.1) ?_
      refine b_iadd dX12_sayPerson_19 ?_
      refine b_topE (nI_add 8 s.np) ?_
      refine b_istore_n (lv' := [(0, _), (1, _), (2, _)]) dX12_sayPerson_20 rfl (by decide) rfl rfl ?_
      refine b_aload_n dX12_sayPerson_21 rfl rfl ?_
      refine b_getR (b := 88) lf_X12_44 rfl rfl dX12_sayPerson_22 ?_
      refine b_iload_n dX12_sayPerson_25 rfl rfl ?_
      refine b_iload_n dX12_sayPerson_26 rfl rfl ?_
      refine b_istN (j := (8 + s.np)) dX12_sayPerson_27 (rfl) (by show _ < 16; omega) ?_
      refine b_aload_n dX12_sayPerson_28 rfl rfl ?_
      refine b_getR (b := 89) lf_X12_46 rfl rfl dX12_sayPerson_29 ?_
      refine b_iload_n dX12_sayPerson_32 rfl rfl ?_
      refine b_aload_n dX12_sayPerson_33 rfl rfl ?_
      refine b_iconst (v := 0) dX12_sayPerson_34 (by decide +kernel) ?_
      refine b_iconst (v := 3) dX12_sayPerson_35 (by decide +kernel) ?_
      refine b_callV (As := [_, _]) (st := [_, _]) dX12_sayPerson_36 lk_X12_245 lm_X12_readNumber lv_X12_readNumber rfl (by decide) rfl rfl rfl (Nat.le_of_ble_eq_true rfl) (Nat.le_refl _) (by decide) ?_
      refine c_X12_readNumber (R1.up (by decide) (by decide) (by decide) (fun e => absurd e (by decide))) (by decide) (by decide) (fun h2 F2 R2 => ?_)
      refine b_istN (j := (8 + s.np)) dX12_sayPerson_39 (rfl) (by show _ < 16; omega) ?_
      refine b_aload_n dX12_sayPerson_40 rfl rfl ?_
      refine b_iconst (v := 1) dX12_sayPerson_41 (by decide +kernel) ?_
      refine b_sipush (v := 365) dX12_sayPerson_42 (by decide +kernel) ?_
      refine b_callV (As := [_, _]) (st := []) dX12_sayPerson_45 lk_X12_242 lm_X12_numberNow lv_X12_numberNow rfl (by decide) rfl rfl rfl (Nat.le_of_ble_eq_true rfl) (Nat.le_refl _) (by decide) ?_
      refine c_X12_numberNow (R2.up (by decide) (by decide) (by decide) (fun e => absurd e (by decide))) (by decide) (by decide) (fun h3 F3 R3 => ?_)
      have R3 : RMs h3 f n (mP3 f n s1) := R3
      have hv2 : (nmV 1 365 (rnN f n 0 3 s1)) ≤ 9999 := nmV_le f R2.2.2.1
      have hb6 := R3.2.2.2.2.1
      have e90 : h3 90 = g 90 := by rw [F3.1 90 (by decide) (by decide) (by decide), up2_f _ _ _ _ (by decide), F2.1 90 (by decide) (by decide) (by decide), up2_f _ _ _ _ (by decide), F1.1 90 (by decide) (by decide) (by decide)]
      refine b_istore_n (lv' := [(0, _), (1, _), (2, _), (3, _)]) dX12_sayPerson_48 rfl (by decide) rfl rfl ?_
      refine b_bipush (v := 8) dX12_sayPerson_49 (by decide +kernel) ?_
      refine b_istore (lv' := [(0, _), (1, _), (2, _), (3, _), (4, _)]) dX12_sayPerson_51 (by decide) rfl rfl ?_
      have K99 : ∀ (h : G2) (i : Nat), FP (up2 h2 89 (8 + s.np) (nI (nmV 0 3 s1))) h → RMs h f n (mP5 f n (fun v => anyN (fun i => s.H 1 i == v) s.np) s1) → B E md_X12_sayPerson (d + 3) Q X 99 [(0, .ref 84), (1, .int (nI k)), (2, .int (nI (8 + s.np))), (3, .int (nI (nmV 1 365 (rnN f n 0 3 s1)))), (4, .int (nI (8 + i)))] [] h 0 := by
          intro h i F R
          refine b_aload_n dX12_sayPerson_99 rfl rfl ?_
          refine b_getR (b := 90) lf_X12_49 rfl rfl dX12_sayPerson_100 ?_
          refine b_iload_n dX12_sayPerson_103 rfl rfl ?_
          refine b_iload_n dX12_sayPerson_104 rfl rfl ?_
          refine b_istN (j := (8 + s.np)) dX12_sayPerson_105 (rfl) (by show _ < 16; omega) ?_
          refine b_aload_n dX12_sayPerson_106 rfl rfl ?_
          refine b_getR (b := 91) lf_X12_52 rfl rfl dX12_sayPerson_107 ?_
          refine b_iload_n dX12_sayPerson_110 rfl rfl ?_
          refine b_aload_n dX12_sayPerson_111 rfl rfl ?_
          refine b_iconst (v := 0) dX12_sayPerson_112 (by decide +kernel) ?_
          refine b_bipush (v := 11) dX12_sayPerson_113 (by decide +kernel) ?_
          refine b_callV (As := [_, _]) (st := [_, _]) dX12_sayPerson_115 lk_X12_245 lm_X12_readNumber lv_X12_readNumber rfl (by decide) rfl rfl rfl (Nat.le_of_ble_eq_true rfl) (Nat.le_refl _) (by decide) ?_
          refine c_X12_readNumber (R.up (by decide) (by decide) (by decide) (fun e => absurd e (by decide))) (by decide) (by decide) (fun h6 F6 R6 => ?_)
          have e5 : h6 87 5 = nI s.np := by rw [F6.2.2.1 5 (by decide), up2_a _ _ _ _ (by decide), F.2.2.1 5 (by decide), up2_a _ _ _ _ (by decide), F2.2.2.1 5 (by decide), up2_a _ _ _ _ (by decide), F1.2.2.1 5 (by decide)]; exact hM.2.1
          refine b_istN (j := (8 + s.np)) dX12_sayPerson_118 (rfl) (by show _ < 16; omega) ?_
          refine b_aload_n dX12_sayPerson_119 rfl rfl ?_
          refine b_getR (b := 87) lf_X12_40 rfl rfl dX12_sayPerson_120 ?_
          refine b_iconst (v := 5) dX12_sayPerson_123 (by decide +kernel) ?_
          refine b_dup2 dX12_sayPerson_124 rfl rfl ?_
          refine b_ildN (j := 5) dX12_sayPerson_125 (rfl) (by show _ < 10; omega) ?_
          refine b_topE (y := nI s.np) (by rw [up2_a _ _ _ _ (by decide)]; exact e5) ?_
          refine b_iconst (v := 1) dX12_sayPerson_126 (by decide +kernel) ?_
          refine b_iadd dX12_sayPerson_127 ?_
          refine b_topE (nI_add s.np 1) ?_
          refine b_istN (j := 5) dX12_sayPerson_128 (rfl) (by show _ < 10; omega) ?_
          refine b_vret rfl (by decide) dX12_sayPerson_129 ?_
          obtain ⟨r0, r1, r2, r3, r4, r5⟩ := per_rows (j := 8 + s.np) (x3 := nI (nmV 0 11 (mP5 f n (fun v => anyN (fun i => s.H 1 i == v) s.np) s1))) (y := nI (s.np + 1)) F1 F2 F F6
          have R7 : RMs (up2 (up2 h6 91 (8 + s.np) (nI (nmV 0 11 (mP5 f n (fun v => anyN (fun i => s.H 1 i == v) s.np) s1)))) 87 5 (nI (s.np + 1))) f n (mP6 f n (fun v => anyN (fun i => s.H 1 i == v) s.np) s1) := (R6.up (by decide) (by decide) (by decide) (fun e => absurd e (by decide))).up (by decide) (by decide) (by decide) (fun _ => by decide)
          have hF : FMl g (up2 (up2 h6 91 (8 + s.np) (nI (nmV 0 11 (mP5 f n (fun v => anyN (fun i => s.H 1 i == v) s.np) s1)))) 87 5 (nI (s.np + 1))) := ((((((((FMl.fp F1).tr (FMl.up (by decide) (by decide) (Nat.le_add_right 8 _))).tr (FMl.fp F2)).tr (FMl.up (by decide) (by decide) (Nat.le_add_right 8 _))).tr (FMl.fp F)).tr (FMl.up (by decide) (by decide) (Nat.le_add_right 8 _))).tr (FMl.fp F6)).tr (FMl.up (by decide) (by decide) (Nat.le_add_right 8 _))).tr (FMl.up (by decide) (by decide) (by decide))
          rcases hLM with ⟨l1, l2, l3⟩ | ⟨l1, va, vb, vc, l2, l3, l4, l5, l6⟩
          · exact hq.2 _ l1 hF ⟨_, l2, l3, R7⟩
          · refine hq.1 _ l1 hF ?_
            rw [l5]
            rw [l6] at R7
            refine ⟨R7, ?_⟩
            rw [← l2, ← l3, ← l4]
            exact RWr.per hM.2 r0 r1 r2 r3 (up2_s _ _ _ _) r4 r5
      have K88 : ∀ (h : G2) (s4 : MS) (i : Nat), FP (up2 h2 89 (8 + s.np) (nI (nmV 0 3 s1))) h → RMs h f n s4 → adB f n s4 = (mP5 f n (fun v => anyN (fun i => s.H 1 i == v) s.np) s1) → B E md_X12_sayPerson (d + 3) Q X 88 [(0, .ref 84), (1, .int (nI k)), (2, .int (nI (8 + s.np))), (3, .int (nI (nmV 1 365 (rnN f n 0 3 s1)))), (4, .int (nI (8 + i)))] [] h 0 := by
          intro h s4 i F R e4
          have hb7 := R.2.2.2.2.1
          refine b_aload_n dX12_sayPerson_88 rfl rfl ?_
          refine b_getI lf_X12_214 rfl dX12_sayPerson_89 ?_
          refine b_topE (R.2.2.2.1) ?_
          refine b_if_ne (tgt := 99) dX12_sayPerson_92 (by decide) (fun h92 => ?_) (fun h92 => ?_)
          · have e92 : s4.bad ≠ 0 := fun q => h92 (by rw [q]; rfl)
            exact K99 h i F (by rw [← e4, adB_b e92]; exact R)
          · have e92 : s4.bad = 0 := nI_inj (b := 0) (by omega) (by decide) h92
            refine b_aload_n dX12_sayPerson_95 rfl rfl ?_
            refine b_callV (As := []) (st := []) dX12_sayPerson_96 lk_X12_239 lm_X12_stepOn lv_X12_stepOn rfl (by decide) rfl rfl rfl (Nat.le_of_ble_eq_true rfl) (Nat.le_refl _) (by decide) ?_
            refine c_X12_stepOn R.1 R.2.1.1 R.2.2.1.ok.1 (fun h5 F5 T5 => ?_)
            exact K99 h5 i (F.tr F5.fp) (by rw [← e4, show adB f n s4 = adv f n s4 from if_pos e92]; exact R.adv F5 T5)
      have K53b : ∀ (h : G2) (s4 : MS) (i : Nat), i ≤ s.np → FP (up2 h2 89 (8 + s.np) (nI (nmV 0 3 s1))) h → RMs h f n s4 → s4.bad ≠ 0 → adB f n s4 = (mP5 f n (fun v => anyN (fun i => s.H 1 i == v) s.np) s1) → B E md_X12_sayPerson (d + 3) Q X 53 [(0, .ref 84), (1, .int (nI k)), (2, .int (nI (8 + s.np))), (3, .int (nI (nmV 1 365 (rnN f n 0 3 s1)))), (4, .int (nI (8 + i)))] [] h 0 := by
          intro h s4 i hi F R hb4 e4
          have hb7 := R.2.2.2.2.1
          refine b_aload_n dX12_sayPerson_53 rfl rfl ?_
          refine b_getI lf_X12_214 rfl dX12_sayPerson_54 ?_
          refine b_topE (R.2.2.2.1) ?_
          refine b_if_ne (tgt := 88) dX12_sayPerson_57 (by decide) (fun h57 => ?_) (fun h57 => ?_)
          · have e57 : s4.bad ≠ 0 := fun q => h57 (by rw [q]; rfl)
            exact K88 h s4 i F R e4
          · have e57 : s4.bad = 0 := nI_inj (b := 0) (by omega) (by decide) h57
            exact absurd e57 hb4
      have L : ∀ i, i ≤ s.np → anyN (fun i => s.H 1 i == (nmV 1 365 (rnN f n 0 3 s1))) i = false → B E md_X12_sayPerson (d + 3) Q X 53 [(0, .ref 84), (1, .int (nI k)), (2, .int (nI (8 + s.np))), (3, .int (nI (nmV 1 365 (rnN f n 0 3 s1)))), (4, .int (nI (8 + i)))] [] h3 0 := by
          refine lp_up (fun i hi ih hA => ?_)
          refine b_aload_n dX12_sayPerson_53 rfl rfl ?_
          refine b_getI lf_X12_214 rfl dX12_sayPerson_54 ?_
          refine b_topE (R3.2.2.2.1) ?_
          refine b_if_ne (tgt := 88) dX12_sayPerson_57 (by decide) (fun h57 => ?_) (fun h57 => ?_)
          · have e57 : ((mP3 f n s1).bad) ≠ 0 := fun q => h57 (by rw [q]; rfl)
            exact K88 h3 _ i F3 R3 (by unfold mP5; rw [if_neg (fun q => e57 q.1)])
          · have e57 : ((mP3 f n s1).bad) = 0 := nI_inj (b := 0) (by omega) (by decide) h57
            refine b_iload dX12_sayPerson_60 rfl ?_
            refine b_iload_n dX12_sayPerson_62 rfl rfl ?_
            refine b_icmp_ge (tgt := 88) dX12_sayPerson_63 (by decide) (fun h63 => ?_) (fun h63 => ?_)
            · have e63 : ((8 + s.np)) ≤ ((8 + i)) := nn_le (a := ((8 + s.np))) (b := ((8 + i))) (by omega) (by omega) h63
              have z : i = s.np := by omega
              subst z
              exact K88 h3 _ _ F3 R3 (by unfold mP5; rw [if_neg (fun q => by rw [show (fun v => anyN (fun i => s.H 1 i == v) s.np) (nmV 1 365 (rnN f n 0 3 s1)) = false from hA] at q; cases q.2)])
            · have e63 : ((8 + i)) < ((8 + s.np)) := nn_nle (a := ((8 + s.np))) (b := ((8 + i))) (by omega) (by omega) h63
              refine b_aload_n dX12_sayPerson_66 rfl rfl ?_
              refine b_getR (b := 90) lf_X12_49 rfl rfl dX12_sayPerson_67 ?_
              refine b_iload dX12_sayPerson_70 rfl ?_
              refine b_ildN (j := (8 + i)) dX12_sayPerson_72 (rfl) (by show _ < 16; omega) ?_
              refine b_topE (y := nI ((s.H 1 i))) (by rw [e90]; exact (hM.2.2.2.2.2.1 i (by omega)).2.2.1) ?_
              refine b_iload_n dX12_sayPerson_73 rfl rfl ?_
              have hb1 := (hO.2.2.2.2.1 i (by omega)).2.2.2.1
              refine b_icmp_ne (tgt := 82) dX12_sayPerson_74 (by decide) (fun h74 => ?_) (fun h74 => ?_)
              · have e74 : ((s.H 1 i)) ≠ ((nmV 1 365 (rnN f n 0 3 s1))) := fun q => h74 (congrArg nI q)
                refine b_incN (j := (8 + i)) (lv' := [(0, _), (1, _), (2, _), (3, _), (4, _)]) dX12_sayPerson_82 rfl rfl (by decide) rfl rfl ?_
                refine b_goto (tgt := 53) dX12_sayPerson_85 (by decide) ?_
                exact ih (i + 1) (by omega) (by omega) (anyN_f hA (beq_eq_false_iff_ne.mpr e74))
              · have e74 : ((s.H 1 i)) = ((nmV 1 365 (rnN f n 0 3 s1))) := nI_inj (a := ((s.H 1 i))) (b := ((nmV 1 365 (rnN f n 0 3 s1)))) (by omega) (by omega) h74
                refine b_aload_n dX12_sayPerson_77 rfl rfl ?_
                refine b_iconst (v := 4) dX12_sayPerson_78 (by decide +kernel) ?_
                refine b_callV (As := [_]) (st := []) dX12_sayPerson_79 lk_X12_235 lm_X12_wrong lv_X12_wrong rfl (by decide) rfl rfl rfl (Nat.le_of_ble_eq_true rfl) (Nat.le_refl _) (by decide) ?_
                refine c_X12_wrong R3 (by decide) (fun h4 F4 R4 => ?_)
                refine b_incN (j := (8 + i)) (lv' := [(0, _), (1, _), (2, _), (3, _), (4, _)]) dX12_sayPerson_82 rfl rfl (by decide) rfl rfl ?_
                refine b_goto (tgt := 53) dX12_sayPerson_85 (by decide) ?_
                refine K53b h4 (wr 4 (mP3 f n s1)) (i + 1) (by omega) (F3.tr F4) R4 (by unfold wr; rw [if_pos e57]; exact Nat.succ_ne_zero 3) ?_
                unfold mP5
                rw [if_pos ⟨e57, anyN_t (i := i) (by omega) (by rw [e74]; exact beq_self_eq_true _)⟩]
      exact L 0 (Nat.zero_le _) rfl
    · exact absurd h7 (by decide)
  · have z : lnP f n k s = (2, s.t.pl, s) := by unfold lnP; rw [if_pos (by omega)]
    rw [z] at hq
    rw [wr_z] at R1
    refine b_if_ne (tgt := 11) dX12_sayPerson_7 (by decide) (fun h7 => ?_) (fun h7 => ?_)
    · exact absurd rfl h7
    · refine b_vret rfl (by decide) dX12_sayPerson_10 ?_
      exact hq.2 h1 (Nat.succ_ne_zero 1) (FMl.fp F1) ⟨_, rfl, rfl, R1⟩
