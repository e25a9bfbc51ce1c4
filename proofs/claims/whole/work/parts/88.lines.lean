/-! a text's lines: what both readers do with each.
TxS: token; people, feuds, length of the other tune; whether key, other, sings have been; codes (the latest first); rows as a town's -/
abbrev TxS : Type := Tk × Nat × Nat × Nat × Bool × Bool × Bool × List Int32 × (Nat → Nat → Nat)
abbrev TxS.t (s : TxS) : Tk := s.1
abbrev TxS.np (s : TxS) : Nat := s.2.1
abbrev TxS.nf (s : TxS) : Nat := s.2.2.1
abbrev TxS.no (s : TxS) : Nat := s.2.2.2.1
abbrev TxS.dk (s : TxS) : Bool := s.2.2.2.2.1
abbrev TxS.dt (s : TxS) : Bool := s.2.2.2.2.2.1
abbrev TxS.ds (s : TxS) : Bool := s.2.2.2.2.2.2.1
abbrev TxS.c (s : TxS) : List Int32 := s.2.2.2.2.2.2.2.1
abbrev TxS.H (s : TxS) : Nat → Nat → Nat := s.2.2.2.2.2.2.2.2
def uN (H : Nat → Nat → Nat) (r i v : Nat) : Nat → Nat → Nat := fun a j => if a = r ∧ j = i then v else H a j
theorem uN_s (H : Nat → Nat → Nat) (r i v : Nat) : uN H r i v r i = v := if_pos ⟨rfl, rfl⟩
theorem uN_r (H : Nat → Nat → Nat) (r i v : Nat) {a : Nat} (h : a ≠ r) (j : Nat) : uN H r i v a j = H a j := if_neg (fun q => h q.1)
theorem uN_j (H : Nat → Nat → Nat) (r i v : Nat) {j : Nat} (h : j ≠ i) : uN H r i v r j = H r j := if_neg (fun q => h q.2)
abbrev tkL (s : TxS) (t : Tk) : TxS := (t, s.np, s.nf, s.no, s.dk, s.dt, s.ds, s.c, s.H)
abbrev LR : Type := Nat × Nat × TxS
abbrev LR.b (r : LR) : Nat := r.1
abbrev LR.p (r : LR) : Nat := r.2.1
abbrev LR.s (r : LR) : TxS := r.2.2
/-- a number of a person told -/
def pnC (np : Nat) (t : Tk) : Nat := if nuC 0 9999 t = 0 then (if t.v < np then 0 else 3) else nuC 0 9999 t
section Lines
variable (f : Nat → Nat) (n : Nat)
def lnP (k : Nat) (s : TxS) : LR :=
  if 8 ≤ s.np then (2, s.t.pl, s) else
  let t1 := nxt f n s.t.af
  if nuC 0 3 t1 ≠ 0 then (nuC 0 3 t1, t1.pl, s) else
  let t2 := nxt f n t1.af
  if nuC 1 365 t2 ≠ 0 then (nuC 1 365 t2, t2.pl, s) else
  if anyN (fun i => s.H 1 i == t2.v) s.np = true then (4, t2.pl, s) else
  let t3 := nxt f n t2.af
  if nuC 0 11 t3 ≠ 0 then (nuC 0 11 t3, t3.pl, s) else
  (0, 0, nxt f n t3.af, s.np + 1, s.nf, s.no, s.dk, s.dt, s.ds, s.c, uN (uN (uN (uN s.H 0 s.np k) 5 s.np t1.v) 1 s.np t2.v) 6 s.np t3.v)
def lnK (s : TxS) : LR :=
  if s.dk = true then (5, s.t.pl, s) else
  let t1 := nxt f n s.t.af
  if nuC 0 11 t1 ≠ 0 then (nuC 0 11 t1, t1.pl, s) else
  (0, 0, nxt f n t1.af, s.np, s.nf, s.no, true, s.dt, s.ds, s.c, uN s.H 9 0 t1.v)
def fdN (H : Nat → Nat → Nat) (a b i : Nat) : Bool := (H 7 i == a && H 8 i == b) || (H 7 i == b && H 8 i == a)
def lnF (s : TxS) : LR :=
  if 6 ≤ s.nf then (2, s.t.pl, s) else
  let t1 := nxt f n s.t.af
  if pnC s.np t1 ≠ 0 then (pnC s.np t1, t1.pl, s) else
  let t2 := nxt f n t1.af
  if pnC s.np t2 ≠ 0 then (pnC s.np t2, t2.pl, s) else
  if t1.v = t2.v ∨ anyN (fdN s.H t1.v t2.v) s.nf = true then (4, t2.pl, s) else
  (0, 0, nxt f n t2.af, s.np, s.nf + 1, s.no, s.dk, s.dt, s.ds, s.c, uN (uN s.H 7 s.nf t1.v) 8 s.nf t2.v)
/-- the numbers of the other tune; i have been -/
def otL : Nat → TxS → LR
  | 0, s => (0, 0, s)
  | F + 1, s => if s.no = 0 ∨ s.t.k = 2 then (if nuC 0 12 s.t ≠ 0 then (nuC 0 12 s.t, s.t.pl, s) else if s.no = 24 then (2, s.t.pl, s) else
      otL F (nxt f n s.t.af, s.np, s.nf, s.no + 1, s.dk, s.dt, s.ds, s.c, uN s.H 4 s.no s.t.v)) else (0, 0, s)
def lnO (s : TxS) : LR :=
  if s.dt = true then (5, s.t.pl, s) else
  otL f n 25 (nxt f n s.t.af, s.np, s.nf, s.no, s.dk, true, s.ds, s.c, s.H)
def lnS (s : TxS) : LR :=
  if s.ds = true then (5, s.t.pl, s) else
  let r := rE f n 6 (nxt f n s.t.af, 0, 0, [])
  if r.bad ≠ 0 then (r.bad, r.bp, s) else (0, 0, r.t, s.np, s.nf, s.no, s.dk, s.dt, true, r.c, s.H)
def enL (r : LR) : LR := if r.b ≠ 0 then r else if r.s.t.k = 59 then (0, 0, tkL r.s (nxt f n r.s.t.af)) else (1, r.s.t.pl, r.s)
/-- a line -/
def ln (s : TxS) : LR :=
  if 100 ≤ s.t.k ∧ s.t.k ≤ 103 then enL f n (lnP f n (s.t.k - 100) s)
  else if s.t.k = 110 then enL f n (lnK f n s)
  else if s.t.k = 104 then enL f n (lnF f n s)
  else if s.t.k = 105 then enL f n (lnO f n s)
  else if s.t.k = 106 then enL f n (lnS f n s)
  else (1, s.t.pl, s)
def lns : Nat → TxS → LR
  | 0, s => (0, 0, s)
  | F + 1, s => if s.t.k = 0 then (0, 0, s) else if (ln f n s).b = 0 then lns F (ln f n s).s else ln f n s
def s0L : TxS := (nxt f n 0, 0, 0, 0, false, false, false, [], fun _ _ => 0)
/-- a text -/
def twL : LR := lns f n 600 (s0L f n)
end Lines
/-- what is true of the lines read so far -/
def okLs (f : Nat → Nat) (n : Nat) (s : TxS) : Prop :=
  isTk f n s.t ∧ s.np ≤ 8 ∧ s.nf ≤ 6 ∧ s.no ≤ 24 ∧ (∀ p, p < s.np → s.H 0 p ≤ 3 ∧ s.H 5 p ≤ 3 ∧ 1 ≤ s.H 1 p ∧ s.H 1 p ≤ 365 ∧ s.H 6 p ≤ 11) ∧
  (∀ p q, p < s.np → q < s.np → s.H 1 p = s.H 1 q → p = q) ∧ (∀ i, i < s.nf → s.H 7 i < s.np ∧ s.H 8 i < s.np) ∧ (∀ i, i < s.no → s.H 4 i ≤ 12) ∧ s.H 9 0 ≤ 11 ∧
  (s.ds = false → s.c = []) ∧ (s.ds = true → hgt s.c = some 1) ∧ (∀ x ∈ s.c, okC x) ∧ s.c.length ≤ 600 ∧ (s.dt = false → s.no = 0)
theorem nuC_0 {lo hi : Nat} {t : Tk} (h : nuC lo hi t = 0) : t.k = 2 ∧ t.dg ≤ 4 ∧ lo ≤ t.v ∧ t.v ≤ hi := by
  unfold nuC at h
  split at h
  · split at h
    · cases h
    · omega
  · cases h
theorem pnC_0 {np : Nat} {t : Tk} (h : pnC np t = 0) : nuC 0 9999 t = 0 ∧ t.v < np := by
  unfold pnC at h
  split at h
  · split at h
    · exact ⟨‹_›, ‹_›⟩
    · cases h
  · exact absurd h ‹_›
theorem runC_inv {f : Nat → Nat} {n : Nat} : ∀ (F : Nat) {s s' : PS}, InvP f n s → runC f n F s = (0, s') → InvP f n s'
  | 0, s, s', h, e => by cases e; exact h
  | F + 1, s, s', h, e => by
    simp only [runC] at e
    split at e
    · cases e; exact h
    · split at e
      · exact runC_inv F (h.step ‹_›) e
      · rename_i q; exact absurd (by rw [e]) q
theorem InvP.z {f : Nat → Nat} {n : Nat} {t : Tk} (h : isTk f n t) : InvP f n ⟨true, t, 0, [], []⟩ := ⟨trivial, rfl, Or.inl (Nat.zero_le 5), rfl, Nat.zero_le _, h, fun x hx => by cases hx⟩
/-- what a rule that was read is -/
theorem rule_ok {f : Nat → Nat} {n : Nat} (hn : n ≤ 600) {t : Tk} (ht : isTk f n t) (h1 : 1 ≤ t.pl) (hb : (rE f n 6 ⟨t, 0, 0, []⟩).bad = 0) (hk : (rE f n 6 ⟨t, 0, 0, []⟩).t.k = 59) : isTk f n (rE f n 6 ⟨t, 0, 0, []⟩).t ∧ hgt (rE f n 6 ⟨t, 0, 0, []⟩).c = some 1 ∧ (∀ x ∈ (rE f n 6 ⟨t, 0, 0, []⟩).c, okC x) ∧ (rE f n 6 ⟨t, 0, 0, []⟩).c.length ≤ 600 ∧ t.pl < (rE f n 6 ⟨t, 0, 0, []⟩).t.pl := by
  obtain ⟨-, h2⟩ := rule_eq (f := f) hn ht.ok h1
  obtain ⟨a1, a2, a3, -⟩ := h2 hb
  obtain ⟨o, c, e1, e2⟩ := a3 hk
  have hI := runC_inv 600 (InvP.z ht) e1
  have hl := hI.len
  obtain ⟨i1, i2, i3, i4, i5, i6, i7⟩ := hI
  have i4 : hgt c = some (binO o + 1) := i4
  obtain ⟨b1, b2, b3, b4, b5⟩ := clsTo_inv 0 o c i1 i4 i7
  rw [e2] at b2 b4 b5
  refine ⟨i6, b2, b5, ?_, a2⟩
  have b4 : (rE f n 6 ⟨t, 0, 0, []⟩).c.length + 0 = c.length + o.length := b4
  have hl : c.length + o.length ≤ n := hl.2.2
  omega
theorem isTk.up {f : Nat → Nat} {n : Nat} {t : Tk} (h : isTk f n t) : t.pl ≤ (nxt f n t.af).pl := Nat.le_trans h.pa (nxt_pl_ge h.ok.1)
theorem isTk.lt {f : Nat → Nat} {n : Nat} {t : Tk} (h : isTk f n t) (hk : t.k ≠ 0) : t.pl < (nxt f n t.af).pl := (h.ok.adv (f := f) hk).2
theorem lnP_ok {f : Nat → Nat} {n k : Nat} {s : TxS} (h : okLs f n s) (hk : s.t.k ≠ 0) (h3 : k ≤ 3) (hb : (lnP f n k s).b = 0) : okLs f n (lnP f n k s).s ∧ s.t.pl < (lnP f n k s).s.t.pl := by
  obtain ⟨a1, a2, a3, a4, a5, a6, a7, a8, a9, a10, a11, a12, a13, a14⟩ := h
  unfold lnP at hb ⊢
  simp only at hb ⊢
  by_cases c1 : 8 ≤ s.np
  · rw [if_pos c1] at hb; cases hb
  · rw [if_neg c1] at hb ⊢
    have i1 := a1.nx
    have l1 := a1.lt hk
    generalize nxt f n s.t.af = t1 at hb i1 l1 ⊢
    by_cases c2 : nuC 0 3 t1 ≠ 0
    · rw [if_pos c2] at hb; exact absurd hb c2
    · rw [if_neg c2] at hb ⊢
      have v1 := nuC_0 (Decidable.not_not.mp c2)
      have i2 := i1.nx
      have l2 := i1.up
      generalize nxt f n t1.af = t2 at hb i2 l2 ⊢
      by_cases c3 : nuC 1 365 t2 ≠ 0
      · rw [if_pos c3] at hb; exact absurd hb c3
      · rw [if_neg c3] at hb ⊢
        have v2 := nuC_0 (Decidable.not_not.mp c3)
        by_cases c4 : anyN (fun i => s.H 1 i == t2.v) s.np = true
        · rw [if_pos c4] at hb; cases hb
        · rw [if_neg c4] at hb ⊢
          have i3 := i2.nx
          have l3 := i2.up
          generalize nxt f n t2.af = t3 at hb i3 l3 ⊢
          by_cases c5 : nuC 0 11 t3 ≠ 0
          · rw [if_pos c5] at hb; exact absurd hb c5
          · rw [if_neg c5]
            have v3 := nuC_0 (Decidable.not_not.mp c5)
            have l4 := i3.up
            have hno : ∀ p, p < s.np → s.H 1 p ≠ t2.v := fun p hp e => c4 (anyN_t hp (by rw [e]; exact beq_self_eq_true _))
            have hH : ∀ r p, p ≠ s.np → uN (uN (uN (uN s.H 0 s.np k) 5 s.np t1.v) 1 s.np t2.v) 6 s.np t3.v r p = s.H r p := fun r p hp => by
              simp only [uN]; rw [if_neg (fun q => hp q.2), if_neg (fun q => hp q.2), if_neg (fun q => hp q.2), if_neg (fun q => hp q.2)]
            have hR : ∀ r p, r ≠ 0 → r ≠ 5 → r ≠ 1 → r ≠ 6 → uN (uN (uN (uN s.H 0 s.np k) 5 s.np t1.v) 1 s.np t2.v) 6 s.np t3.v r p = s.H r p := fun r p e0 e5 e1 e6 => by
              rw [uN_r _ _ _ _ e6, uN_r _ _ _ _ e1, uN_r _ _ _ _ e5, uN_r _ _ _ _ e0]
            have e0 : uN (uN (uN (uN s.H 0 s.np k) 5 s.np t1.v) 1 s.np t2.v) 6 s.np t3.v 0 s.np = k := by
              rw [uN_r _ _ _ _ (by decide), uN_r _ _ _ _ (by decide), uN_r _ _ _ _ (by decide), uN_s]
            have e5 : uN (uN (uN (uN s.H 0 s.np k) 5 s.np t1.v) 1 s.np t2.v) 6 s.np t3.v 5 s.np = t1.v := by
              rw [uN_r _ _ _ _ (by decide), uN_r _ _ _ _ (by decide), uN_s]
            have e1 : uN (uN (uN (uN s.H 0 s.np k) 5 s.np t1.v) 1 s.np t2.v) 6 s.np t3.v 1 s.np = t2.v := by
              rw [uN_r _ _ _ _ (by decide), uN_s]
            have e6 : uN (uN (uN (uN s.H 0 s.np k) 5 s.np t1.v) 1 s.np t2.v) 6 s.np t3.v 6 s.np = t3.v := uN_s _ _ _ _
            generalize uN (uN (uN (uN s.H 0 s.np k) 5 s.np t1.v) 1 s.np t2.v) 6 s.np t3.v = H at hH hR e0 e5 e1 e6
            refine ⟨⟨i3.nx, ?_, a3, a4, ?_, ?_, ?_, ?_, ?_, a10, a11, a12, a13, a14⟩, ?_⟩
            · show s.np + 1 ≤ 8; omega
            · intro p hp
              show H 0 p ≤ 3 ∧ H 5 p ≤ 3 ∧ 1 ≤ H 1 p ∧ H 1 p ≤ 365 ∧ H 6 p ≤ 11
              have hp : p < s.np + 1 := hp
              by_cases q : p = s.np
              · rw [q, e0, e5, e1, e6]; omega
              · rw [hH _ _ q, hH _ _ q, hH _ _ q, hH _ _ q]; exact a5 p (by omega)
            · intro p q hp hq e
              have e : H 1 p = H 1 q := e
              have hp : p < s.np + 1 := hp
              have hq : q < s.np + 1 := hq
              by_cases z1 : p = s.np
              · by_cases z2 : q = s.np
                · omega
                · rw [z1, e1, hH _ _ z2] at e; exact absurd e.symm (hno q (by omega))
              · by_cases z2 : q = s.np
                · rw [z2, e1, hH _ _ z1] at e; exact absurd e (hno p (by omega))
                · rw [hH _ _ z1, hH _ _ z2] at e; exact a6 p q (by omega) (by omega) e
            · intro i hi
              show H 7 i < s.np + 1 ∧ H 8 i < s.np + 1
              rw [hR 7 i (by decide) (by decide) (by decide) (by decide), hR 8 i (by decide) (by decide) (by decide) (by decide)]
              have := a7 i hi
              omega
            · intro i hi
              show H 4 i ≤ 12
              rw [hR 4 i (by decide) (by decide) (by decide) (by decide)]; exact a8 i hi
            · show H 9 0 ≤ 11
              rw [hR 9 0 (by decide) (by decide) (by decide) (by decide)]; exact a9
            · show s.t.pl < (nxt f n t3.af).pl
              omega
theorem lnK_ok {f : Nat → Nat} {n : Nat} {s : TxS} (h : okLs f n s) (hk : s.t.k ≠ 0) (hb : (lnK f n s).b = 0) : okLs f n (lnK f n s).s ∧ s.t.pl < (lnK f n s).s.t.pl := by
  obtain ⟨a1, a2, a3, a4, a5, a6, a7, a8, a9, a10, a11, a12, a13, a14⟩ := h
  unfold lnK at hb ⊢
  simp only at hb ⊢
  by_cases c1 : s.dk = true
  · rw [if_pos c1] at hb; cases hb
  · rw [if_neg c1] at hb ⊢
    have i1 := a1.nx
    have l1 := a1.lt hk
    generalize nxt f n s.t.af = t1 at hb i1 l1 ⊢
    by_cases c2 : nuC 0 11 t1 ≠ 0
    · rw [if_pos c2] at hb; exact absurd hb c2
    · rw [if_neg c2]
      have v1 := nuC_0 (Decidable.not_not.mp c2)
      have l2 := i1.up
      have hR : ∀ r p, r ≠ 9 → uN s.H 9 0 t1.v r p = s.H r p := fun r p e => uN_r _ _ _ _ e _
      have e9 : uN s.H 9 0 t1.v 9 0 = t1.v := uN_s _ _ _ _
      generalize uN s.H 9 0 t1.v = H at hR e9
      refine ⟨⟨i1.nx, a2, a3, a4, ?_, ?_, ?_, ?_, ?_, a10, a11, a12, a13, a14⟩, ?_⟩
      · intro p hp
        show H 0 p ≤ 3 ∧ H 5 p ≤ 3 ∧ 1 ≤ H 1 p ∧ H 1 p ≤ 365 ∧ H 6 p ≤ 11
        rw [hR _ _ (by decide), hR _ _ (by decide), hR _ _ (by decide), hR _ _ (by decide)]; exact a5 p hp
      · intro p q hp hq e
        have e : H 1 p = H 1 q := e
        rw [hR _ _ (by decide), hR _ _ (by decide)] at e; exact a6 p q hp hq e
      · intro i hi
        show H 7 i < s.np ∧ H 8 i < s.np
        rw [hR _ _ (by decide), hR _ _ (by decide)]; exact a7 i hi
      · intro i hi
        show H 4 i ≤ 12
        rw [hR _ _ (by decide)]; exact a8 i hi
      · show H 9 0 ≤ 11
        rw [e9]; omega
      · show s.t.pl < (nxt f n t1.af).pl
        omega
theorem lnF_ok {f : Nat → Nat} {n : Nat} {s : TxS} (h : okLs f n s) (hk : s.t.k ≠ 0) (hb : (lnF f n s).b = 0) : okLs f n (lnF f n s).s ∧ s.t.pl < (lnF f n s).s.t.pl := by
  obtain ⟨a1, a2, a3, a4, a5, a6, a7, a8, a9, a10, a11, a12, a13, a14⟩ := h
  unfold lnF at hb ⊢
  simp only at hb ⊢
  by_cases c1 : 6 ≤ s.nf
  · rw [if_pos c1] at hb; cases hb
  · rw [if_neg c1] at hb ⊢
    have i1 := a1.nx
    have l1 := a1.lt hk
    generalize nxt f n s.t.af = t1 at hb i1 l1 ⊢
    by_cases c2 : pnC s.np t1 ≠ 0
    · rw [if_pos c2] at hb; exact absurd hb c2
    · rw [if_neg c2] at hb ⊢
      have v1 := pnC_0 (Decidable.not_not.mp c2)
      have i2 := i1.nx
      have l2 := i1.up
      generalize nxt f n t1.af = t2 at hb i2 l2 ⊢
      by_cases c3 : pnC s.np t2 ≠ 0
      · rw [if_pos c3] at hb; exact absurd hb c3
      · rw [if_neg c3] at hb ⊢
        have v2 := pnC_0 (Decidable.not_not.mp c3)
        by_cases c4 : t1.v = t2.v ∨ anyN (fdN s.H t1.v t2.v) s.nf = true
        · rw [if_pos c4] at hb; cases hb
        · rw [if_neg c4]
          have l3 := i2.up
          have hR : ∀ r p, r ≠ 7 → r ≠ 8 → uN (uN s.H 7 s.nf t1.v) 8 s.nf t2.v r p = s.H r p := fun r p e e2 => by rw [uN_r _ _ _ _ e2, uN_r _ _ _ _ e]
          have hH : ∀ r p, p ≠ s.nf → uN (uN s.H 7 s.nf t1.v) 8 s.nf t2.v r p = s.H r p := fun r p hp => by
            simp only [uN]; rw [if_neg (fun q => hp q.2), if_neg (fun q => hp q.2)]
          have e7 : uN (uN s.H 7 s.nf t1.v) 8 s.nf t2.v 7 s.nf = t1.v := by rw [uN_r _ _ _ _ (by decide), uN_s]
          have e8 : uN (uN s.H 7 s.nf t1.v) 8 s.nf t2.v 8 s.nf = t2.v := uN_s _ _ _ _
          generalize uN (uN s.H 7 s.nf t1.v) 8 s.nf t2.v = H at hH hR e7 e8
          refine ⟨⟨i2.nx, a2, ?_, a4, ?_, ?_, ?_, ?_, ?_, a10, a11, a12, a13, a14⟩, ?_⟩
          · show s.nf + 1 ≤ 6; omega
          · intro p hp
            show H 0 p ≤ 3 ∧ H 5 p ≤ 3 ∧ 1 ≤ H 1 p ∧ H 1 p ≤ 365 ∧ H 6 p ≤ 11
            rw [hR _ _ (by decide) (by decide), hR _ _ (by decide) (by decide), hR _ _ (by decide) (by decide), hR _ _ (by decide) (by decide)]; exact a5 p hp
          · intro p q hp hq e
            have e : H 1 p = H 1 q := e
            rw [hR _ _ (by decide) (by decide), hR _ _ (by decide) (by decide)] at e; exact a6 p q hp hq e
          · intro i hi
            show H 7 i < s.np ∧ H 8 i < s.np
            have hi : i < s.nf + 1 := hi
            by_cases q : i = s.nf
            · rw [q, e7, e8]; exact ⟨v1.2, v2.2⟩
            · rw [hH _ _ q, hH _ _ q]; exact a7 i (by omega)
          · intro i hi
            show H 4 i ≤ 12
            rw [hR _ _ (by decide) (by decide)]; exact a8 i hi
          · show H 9 0 ≤ 11
            rw [hR _ _ (by decide) (by decide)]; exact a9
          · show s.t.pl < (nxt f n t2.af).pl
            omega
theorem otL_ok {f : Nat → Nat} {n : Nat} : ∀ (F : Nat) {s : TxS}, okLs f n s → s.dt = true → (otL f n F s).b = 0 → okLs f n (otL f n F s).s ∧ s.t.pl ≤ (otL f n F s).s.t.pl
  | 0, s, h, _, _ => ⟨h, Nat.le_refl _⟩
  | F + 1, s, h, hd, hb => by
    simp only [otL] at hb ⊢
    by_cases c1 : s.no = 0 ∨ s.t.k = 2
    · rw [if_pos c1] at hb ⊢
      by_cases c2 : nuC 0 12 s.t ≠ 0
      · rw [if_pos c2] at hb; exact absurd hb c2
      · rw [if_neg c2] at hb ⊢
        have v1 := nuC_0 (Decidable.not_not.mp c2)
        by_cases c3 : s.no = 24
        · rw [if_pos c3] at hb; cases hb
        · rw [if_neg c3] at hb ⊢
          obtain ⟨a1, a2, a3, a4, a5, a6, a7, a8, a9, a10, a11, a12, a13, a14⟩ := h
          have l1 := a1.up
          have hR : ∀ r p, r ≠ 4 → uN s.H 4 s.no s.t.v r p = s.H r p := fun r p e => uN_r _ _ _ _ e _
          have hH : ∀ p, p ≠ s.no → uN s.H 4 s.no s.t.v 4 p = s.H 4 p := fun p hp => uN_j _ _ _ _ hp
          have e4 : uN s.H 4 s.no s.t.v 4 s.no = s.t.v := uN_s _ _ _ _
          generalize uN s.H 4 s.no s.t.v = H at hR hH e4 hb ⊢
          have hk : okLs f n (nxt f n s.t.af, s.np, s.nf, s.no + 1, s.dk, s.dt, s.ds, s.c, H) := by
            refine ⟨a1.nx, a2, a3, ?_, ?_, ?_, ?_, ?_, ?_, a10, a11, a12, a13, ?_⟩
            · show s.no + 1 ≤ 24; omega
            · intro p hp
              show H 0 p ≤ 3 ∧ H 5 p ≤ 3 ∧ 1 ≤ H 1 p ∧ H 1 p ≤ 365 ∧ H 6 p ≤ 11
              rw [hR _ _ (by decide), hR _ _ (by decide), hR _ _ (by decide), hR _ _ (by decide)]; exact a5 p hp
            · intro p q hp hq e
              have e : H 1 p = H 1 q := e
              rw [hR _ _ (by decide), hR _ _ (by decide)] at e; exact a6 p q hp hq e
            · intro i hi
              show H 7 i < s.np ∧ H 8 i < s.np
              rw [hR _ _ (by decide), hR _ _ (by decide)]; exact a7 i hi
            · intro i hi
              show H 4 i ≤ 12
              have hi : i < s.no + 1 := hi
              by_cases q : i = s.no
              · rw [q, e4]; omega
              · rw [hH _ q]; exact a8 i (by omega)
            · show H 9 0 ≤ 11
              rw [hR _ _ (by decide)]; exact a9
            · intro q; rw [show s.dt = false from q] at hd; cases hd
          obtain ⟨r1, r2⟩ := otL_ok F hk hd hb
          exact ⟨r1, Nat.le_trans l1 r2⟩
    · rw [if_neg c1]; exact ⟨h, Nat.le_refl _⟩
theorem lnO_ok {f : Nat → Nat} {n : Nat} {s : TxS} (h : okLs f n s) (hk : s.t.k ≠ 0) (hb : (lnO f n s).b = 0) : okLs f n (lnO f n s).s ∧ s.t.pl < (lnO f n s).s.t.pl := by
  unfold lnO at hb ⊢
  by_cases c1 : s.dt = true
  · rw [if_pos c1] at hb; cases hb
  · rw [if_neg c1] at hb ⊢
    have l1 := h.1.lt hk
    obtain ⟨r1, r2⟩ := otL_ok 25 (s := (nxt f n s.t.af, s.np, s.nf, s.no, s.dk, true, s.ds, s.c, s.H)) ⟨h.1.nx, h.2.1, h.2.2.1, h.2.2.2.1, h.2.2.2.2.1, h.2.2.2.2.2.1, h.2.2.2.2.2.2.1, h.2.2.2.2.2.2.2.1, h.2.2.2.2.2.2.2.2.1, h.2.2.2.2.2.2.2.2.2.1, h.2.2.2.2.2.2.2.2.2.2.1, h.2.2.2.2.2.2.2.2.2.2.2.1, h.2.2.2.2.2.2.2.2.2.2.2.2.1, fun q => by cases q⟩ rfl hb
    exact ⟨r1, Nat.lt_of_lt_of_le l1 r2⟩
theorem lnS_ok {f : Nat → Nat} {n : Nat} {s : TxS} (hn : n ≤ 600) (h : okLs f n s) (hk : s.t.k ≠ 0) (hb : (lnS f n s).b = 0) (h59 : (lnS f n s).s.t.k = 59) : okLs f n (lnS f n s).s ∧ s.t.pl < (lnS f n s).s.t.pl := by
  unfold lnS at hb h59 ⊢
  simp only at hb h59 ⊢
  by_cases c1 : s.ds = true
  · rw [if_pos c1] at hb; cases hb
  · rw [if_neg c1] at hb h59 ⊢
    have l1 := h.1.lt hk
    by_cases c2 : (rE f n 6 (nxt f n s.t.af, 0, 0, [])).bad ≠ 0
    · rw [if_pos c2] at hb; exact absurd hb c2
    · rw [if_neg c2] at h59 ⊢
      obtain ⟨r1, r2, r3, r4, r5⟩ := rule_ok hn h.1.nx (by omega) (Decidable.not_not.mp c2) h59
      exact ⟨⟨r1, h.2.1, h.2.2.1, h.2.2.2.1, h.2.2.2.2.1, h.2.2.2.2.2.1, h.2.2.2.2.2.2.1, h.2.2.2.2.2.2.2.1, h.2.2.2.2.2.2.2.2.1, fun q => (by cases q), fun _ => r2, r3, r4, h.2.2.2.2.2.2.2.2.2.2.2.2.2⟩, Nat.lt_trans l1 r5⟩
theorem enL_ok {f : Nat → Nat} {n : Nat} {s : TxS} {r : LR} (h : r.b = 0 → r.s.t.k = 59 → okLs f n r.s ∧ s.t.pl < r.s.t.pl) (hb : (enL f n r).b = 0) : okLs f n (enL f n r).s ∧ s.t.pl < (enL f n r).s.t.pl := by
  unfold enL at hb ⊢
  by_cases c1 : r.b ≠ 0
  · rw [if_pos c1] at hb; exact absurd hb c1
  · rw [if_neg c1] at hb ⊢
    by_cases c2 : r.s.t.k = 59
    · rw [if_pos c2]
      obtain ⟨r1, r2⟩ := h (Decidable.not_not.mp c1) c2
      exact ⟨⟨r1.1.nx, r1.2⟩, Nat.lt_of_lt_of_le r2 r1.1.up⟩
    · rw [if_neg c2] at hb; cases hb
theorem ln_ok {f : Nat → Nat} {n : Nat} {s : TxS} (hn : n ≤ 600) (h : okLs f n s) (hb : (ln f n s).b = 0) : okLs f n (ln f n s).s ∧ s.t.pl < (ln f n s).s.t.pl := by
  unfold ln at hb ⊢
  by_cases c1 : 100 ≤ s.t.k ∧ s.t.k ≤ 103
  · rw [if_pos c1] at hb ⊢; exact enL_ok (fun q _ => lnP_ok h (by omega) (by omega) q) hb
  · rw [if_neg c1] at hb ⊢
    by_cases c2 : s.t.k = 110
    · rw [if_pos c2] at hb ⊢; exact enL_ok (fun q _ => lnK_ok h (by omega) q) hb
    · rw [if_neg c2] at hb ⊢
      by_cases c3 : s.t.k = 104
      · rw [if_pos c3] at hb ⊢; exact enL_ok (fun q _ => lnF_ok h (by omega) q) hb
      · rw [if_neg c3] at hb ⊢
        by_cases c4 : s.t.k = 105
        · rw [if_pos c4] at hb ⊢; exact enL_ok (fun q _ => lnO_ok h (by omega) q) hb
        · rw [if_neg c4] at hb ⊢
          by_cases c5 : s.t.k = 106
          · rw [if_pos c5] at hb ⊢; exact enL_ok (fun q w => lnS_ok hn h (by omega) q w) hb
          · rw [if_neg c5] at hb; cases hb
theorem s0L_ok (f : Nat → Nat) (n : Nat) : okLs f n (s0L f n) := ⟨⟨0, Nat.zero_le _, rfl⟩, Nat.zero_le _, Nat.zero_le _, Nat.zero_le _, fun p hp => absurd hp (Nat.not_lt_zero _), fun p q hp => absurd hp (Nat.not_lt_zero _), fun p hp => absurd hp (Nat.not_lt_zero _), fun p hp => absurd hp (Nat.not_lt_zero _), by show 0 ≤ 11; decide, fun _ => rfl, fun q => (by cases q), fun x hx => (by cases hx), by show 0 ≤ 600; decide, fun _ => rfl⟩
theorem lns_ok {f : Nat → Nat} {n : Nat} (hn : n ≤ 600) : ∀ (F : Nat) {s : TxS}, okLs f n s → 600 ≤ F + s.t.pl → (lns f n F s).b = 0 → okLs f n (lns f n F s).s
  | 0, s, h, _, _ => h
  | F + 1, s, h, hF, hb => by
    simp only [lns] at hb ⊢
    by_cases c1 : s.t.k = 0
    · rw [if_pos c1]; exact h
    · rw [if_neg c1] at hb ⊢
      by_cases c2 : (ln f n s).b = 0
      · rw [if_pos c2] at hb ⊢
        obtain ⟨r1, r2⟩ := ln_ok hn h c2
        exact lns_ok hn F r1 (by omega) hb
      · rw [if_neg c2] at hb; exact absurd hb c2
