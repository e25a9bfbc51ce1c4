/-! the rule of a text: the class's automaton (PS, runC), the model's descent (MS, rE); they come to the same -/
abbrev PS : Type := Bool × Tk × Nat × List Nat × List Int32
abbrev PS.w (s : PS) : Bool := s.1
abbrev PS.t (s : PS) : Tk := s.2.1
abbrev PS.ne (s : PS) : Nat := s.2.2.1
abbrev PS.op (s : PS) : List Nat := s.2.2.2.1
abbrev PS.c (s : PS) : List Int32 := s.2.2.2.2
abbrev MS : Type := Tk × Nat × Nat × List Int32
abbrev MS.t (s : MS) : Tk := s.1
abbrev MS.bad (s : MS) : Nat := s.2.1
abbrev MS.bp (s : MS) : Nat := s.2.2.1
abbrev MS.c (s : MS) : List Int32 := s.2.2.2
def bnd (k : Nat) : Nat := if k = 107 then 1 else if k = 108 then 2 else if k = 109 then 3 else if k = 60 ∨ k = 61 then 4 else if k = 43 ∨ k = 45 then 5 else if k = 42 ∨ k = 47 then 6 else 0
def lastO : List Nat → Nat
  | [] => 40
  | x :: _ => x
def clsTo (b : Nat) : List Nat → List Int32 → List Nat × List Int32
  | [], c => ([], c)
  | x :: r, c => if x ≠ 40 ∧ b ≤ bnd x then clsTo b r (-(nI x) :: c) else (x :: r, c)
def ntsO : List Nat → Nat
  | [] => 0
  | x :: r => if x = 109 then ntsO r + 1 else 0
abbrev mbN (o : List Nat) : Prop := lastO o = 40 ∨ lastO o = 107 ∨ lastO o = 108 ∨ lastO o = 109
def tkP (s : PS) : Nat × PS :=
  if ¬ s.t.k = 2 ∧ ¬ s.t.k = 40 ∧ ¬ 99 ≤ s.t.k then (1, s)
  else if lastO s.op = 40 ∧ 5 < s.ne then (2, s)
  else if s.t.k = 2 then (if 4 < s.t.dg then (2, s) else (0, ⟨s.w, s.t, s.ne, s.op, nI s.t.v :: s.c⟩))
  else if s.t.k = 40 then (0, ⟨s.w, s.t, s.ne + 1, 40 :: s.op, s.c⟩)
  else if s.t.k = 109 ∧ mbN s.op then (if 6 ≤ ntsO s.op then (2, s) else (0, ⟨s.w, s.t, s.ne, 109 :: s.op, s.c⟩))
  else if 110 ≤ s.t.k then (0, ⟨s.w, s.t, s.ne, s.op, -(nI s.t.k) :: s.c⟩) else (3, s)
def opL (k : Nat) : Nat := if k = 60 ∨ k = 61 then bnd k + 1 else bnd k
def tkO (s : PS) : Nat × PS :=
  if s.t.k = 41 ∧ 0 < s.ne then (0, ⟨s.w, s.t, s.ne - 1, (clsTo 0 s.op s.c).1.tail, (clsTo 0 s.op s.c).2⟩)
  else if bnd s.t.k = 0 ∨ s.t.k = 109 then (1, s)
  else if (s.t.k = 60 ∨ s.t.k = 61) ∧ (lastO (clsTo (opL s.t.k) s.op s.c).1 = 60 ∨ lastO (clsTo (opL s.t.k) s.op s.c).1 = 61) then (1, ⟨s.w, s.t, s.ne, (clsTo (opL s.t.k) s.op s.c).1, (clsTo (opL s.t.k) s.op s.c).2⟩)
  else (0, ⟨s.w, s.t, s.ne, s.t.k :: (clsTo (opL s.t.k) s.op s.c).1, (clsTo (opL s.t.k) s.op s.c).2⟩)
def isPt (k : Nat) : Bool := k == 2 || decide (110 ≤ k) || k == 41
def tkX (s : PS) : Nat × PS := if s.w = true then tkP s else tkO s
def stepP (f : Nat → Nat) (n : Nat) (s : PS) : PS := ⟨!isPt s.t.k, nxt f n s.t.af, (tkX s).2.ne, (tkX s).2.op, (tkX s).2.c⟩
abbrev endP (s : PS) : Prop := s.w = false ∧ s.ne = 0 ∧ s.t.k = 59
def runC (f : Nat → Nat) (n : Nat) : Nat → PS → Nat × PS
  | 0, s => (0, s)
  | F + 1, s => if endP s then (0, s) else if (tkX s).1 = 0 then runC f n F (stepP f n s) else tkX s
theorem tkP_t (s : PS) : (tkP s).2.t = s.t := by unfold tkP; repeat' split <;> try rfl
theorem tkO_t (s : PS) : (tkO s).2.t = s.t := by unfold tkO; repeat' split <;> try rfl
theorem tkX_t (s : PS) : (tkX s).2.t = s.t := by unfold tkX; split; exact tkP_t s; exact tkO_t s
def okTk (n : Nat) (t : Tk) : Prop := t.af ≤ n ∧ t.pl ≤ n ∧ (t.k ≠ 0 → t.pl < t.af)
theorem nxt_ok {f : Nat → Nat} {n p : Nat} (h : p ≤ n) : okTk n (nxt f n p) := by
  obtain ⟨a, b, c, e⟩ := nxt_af (f := f) h
  exact ⟨a, b, fun q => e.resolve_left q⟩
theorem nxt_pl_ge {f : Nat → Nat} {n p : Nat} (h : p ≤ n) : p ≤ (nxt f n p).pl := (nxt_af (f := f) h).2.2.1
section Run
variable {f : Nat → Nat} {n : Nat}
def Rch (f : Nat → Nat) (n m : Nat) (s s' : PS) : Prop := ∀ F, runC f n (m + F) s = runC f n F s'
def Flt (f : Nat → Nat) (n m : Nat) (s : PS) (why pl : Nat) : Prop := ∀ F, ∃ s', runC f n (m + 1 + F) s = (why, s') ∧ s'.t.pl = pl
theorem Rch.rf (s : PS) : Rch f n 0 s s := fun F => by rw [Nat.zero_add]
theorem Rch.tr {m m' : Nat} {s s' s'' : PS} (h1 : Rch f n m s s') (h2 : Rch f n m' s' s'') : Rch f n (m + m') s s'' := fun F => by rw [Nat.add_assoc, h1, h2]
theorem Rch.flt {m m' : Nat} {s s' : PS} {w p : Nat} (h1 : Rch f n m s s') (h2 : Flt f n m' s' w p) : Flt f n (m + m') s w p := fun F => by
  obtain ⟨x, a, b⟩ := h2 F
  exact ⟨x, by rw [show m + m' + 1 + F = m + (m' + 1 + F) by omega, h1, a], b⟩
theorem Rch.one {s s' : PS} (h0 : ¬ endP s) (h1 : (tkX s).1 = 0) (h2 : stepP f n s = s') : Rch f n 1 s s' := fun F => by
  rw [Nat.add_comm 1 F]; simp only [runC]; rw [if_neg h0, if_pos h1, h2]
theorem Flt.one {s : PS} {w : Nat} (h0 : ¬ endP s) (h1 : (tkX s).1 = w) (hw : w ≠ 0) : Flt f n 0 s w s.t.pl := fun F => by
  refine ⟨(tkX s).2, ?_, by rw [tkX_t]⟩
  rw [Nat.zero_add, Nat.add_comm 1 F]; simp only [runC]; rw [if_neg h0, if_neg (by rw [h1]; exact hw), ← h1]
end Run
theorem clsTo_stop {b : Nat} {o : List Nat} {c : List Int32} (h : lastO o = 40 ∨ bnd (lastO o) < b) : clsTo b o c = (o, c) := by
  cases o with
  | nil => rfl
  | cons x r => simp only [lastO] at h; simp only [clsTo]; rw [if_neg]; omega
theorem clsTo_tr {L L' : Nat} (hL : L ≤ L') : ∀ {o : List Nat} {c : List Int32} {o1 : List Nat} {c1 : List Int32}, clsTo L' o c = (o1, c1) → clsTo L o c = clsTo L o1 c1
  | [], c, o1, c1, h => by simp only [clsTo] at h; cases h; rfl
  | x :: r, c, o1, c1, h => by
    simp only [clsTo] at h
    split at h
    · rename_i h1
      rw [← clsTo_tr hL h]
      simp only [clsTo]
      rw [if_pos ⟨h1.1, Nat.le_trans hL h1.2⟩]
    · cases h; rfl
theorem clsTo_40 {b : Nat} {o : List Nat} {c : List Int32} : clsTo b (40 :: o) c = (40 :: o, c) := clsTo_stop (Or.inl rfl)
def stp (L : Nat) (o : List Nat) : Prop := lastO o = 40 ∨ bnd (lastO o) < L
def finT (L : Nat) (o : List Nat) (c : List Int32) (k : Nat) : Prop := L ≤ bnd k → k = 109 ∨ ((k = 60 ∨ k = 61) ∧ (lastO (clsTo 5 o c).1 = 60 ∨ lastO (clsTo 5 o c).1 = 61))
/-! the model -/
def wr (k : Nat) (s : MS) : MS := if s.bad = 0 then ⟨s.t, k, s.t.pl, s.c⟩ else s
def adv (f : Nat → Nat) (n : Nat) (s : MS) : MS := ⟨nxt f n s.t.af, s.bad, s.bp, s.c⟩
def adB (f : Nat → Nat) (n : Nat) (s : MS) : MS := if s.bad = 0 then adv f n s else s
def layM (x : Int32) (s : MS) : MS := if s.bad = 0 then ⟨s.t, s.bad, s.bp, x :: s.c⟩ else s
def mkM (f : Nat → Nat) (n k : Nat) (s : MS) : MS := adB f n (if s.t.k = k then s else wr 1 s)
def lpW (f : Nat → Nat) (n : Nat) (P : Nat → Bool) (body : MS → MS) : Nat → MS → MS
  | 0, s => s
  | F + 1, s => if s.bad = 0 ∧ P s.t.k = true then lpW f n P body F (layM (-(nI s.t.k)) (body (adv f n s))) else s
def rPart (f : Nat → Nat) (n : Nat) (rE : MS → MS) (s : MS) : MS :=
  if s.bad = 0 then
    if s.t.k = 2 then (if 4 < s.t.dg then wr 2 s else layM (nI s.t.v) (adv f n s))
    else if 99 ≤ s.t.k then (if 110 ≤ s.t.k then adv f n (layM (-(nI s.t.k)) s) else wr 3 s)
    else mkM f n 41 (rE (mkM f n 40 s))
  else s
def P42 (k : Nat) : Bool := k == 42 || k == 47
def P43 (k : Nat) : Bool := k == 43 || k == 45
def P60 (k : Nat) : Bool := k == 60 || k == 61
def P108 (k : Nat) : Bool := k == 108
def P107 (k : Nat) : Bool := k == 107
def rLev (f : Nat → Nat) (n : Nat) (P : Nat → Bool) (body : MS → MS) (s : MS) : MS := lpW f n P body 601 (body s)
def ntL (f : Nat → Nat) (n : Nat) : Nat → Nat → MS → Nat × MS
  | 0, m, s => (m, s)
  | F + 1, m, s => if s.bad = 0 ∧ s.t.k = 109 then ntL f n F (m + 1) (adB f n (if m = 6 then wr 2 s else s)) else (m, s)
def layN (x : Int32) : Nat → MS → MS
  | 0, s => s
  | m + 1, s => layN x m (layM x s)
def rTst (f : Nat → Nat) (n : Nat) (sum : MS → MS) (s : MS) : MS := if s.bad = 0 ∧ P60 s.t.k = true then layM (-(nI s.t.k)) (sum (adv f n s)) else s
def rNot (f : Nat → Nat) (n : Nat) (sum : MS → MS) (s : MS) : MS := layN (-109) (ntL f n 8 0 s).1 (rTst f n sum (sum (ntL f n 8 0 s).2))
/-- an expression, with 6 - a parentheses around -/
def rE (f : Nat → Nat) (n : Nat) : Nat → MS → MS
  | 0, s => if s.bad = 0 then (if s.t.k = 2 ∨ 99 ≤ s.t.k ∨ s.t.k = 40 then wr 2 s else wr 1 s) else s
  | a + 1, s => if s.bad = 0 then (if s.t.k = 2 ∨ 99 ≤ s.t.k ∨ s.t.k = 40 then rLev f n P107 (rLev f n P108 (rNot f n (rLev f n P43 (rLev f n P42 (rPart f n (rE f n a)))))) s else wr 1 s) else s
/-! the descent and the automaton come to the same -/
section Desc
variable {f : Nat → Nat} {n : Nat}
/-- from S0 (at place p0) the automaton comes to where the descent stands -/
def PostR (f : Nat → Nat) (n ne L : Nat) (o : List Nat) (S0 : PS) (p0 : Nat) (s' : MS) : Prop :=
  (s'.bad ≠ 0 → ∃ m, m + p0 ≤ s'.bp ∧ s'.bp ≤ n ∧ Flt f n m S0 s'.bad s'.bp) ∧
  (s'.bad = 0 → okTk n s'.t ∧ ∃ m τ c', 0 < m ∧ m + p0 ≤ s'.t.pl ∧ Rch f n m S0 ⟨false, s'.t, ne, τ ++ o, c'⟩ ∧ clsTo L (τ ++ o) c' = (o, s'.c) ∧ finT L (τ ++ o) c' s'.t.k)
/-- where a not may stand -/
def cN (N : Bool) (k : Nat) (o : List Nat) : Prop := (N = true → k = 109 → ¬ mbN o) ∧ (N = false → mbN o)
/-- a reader of the descent, at a level -/
def Bdy (f : Nat → Nat) (n ne L : Nat) (N : Bool) (body : MS → MS) : Prop :=
  (∀ s, s.bad ≠ 0 → body s = s) ∧
  ∀ (s : MS) (o : List Nat), s.bad = 0 → okTk n s.t → stp L o → cN N s.t.k o → PostR f n ne L o ⟨true, s.t, ne, o, s.c⟩ s.t.pl (body s)
theorem layM_bad {x : Int32} {s : MS} (h : s.bad ≠ 0) : layM x s = s := if_neg h
theorem layM_ok {x : Int32} {s : MS} (h : s.bad = 0) : layM x s = ⟨s.t, s.bad, s.bp, x :: s.c⟩ := if_pos h
theorem lpW_bad {P : Nat → Bool} {body : MS → MS} {F : Nat} {s : MS} (h : s.bad ≠ 0) : lpW f n P body F s = s := by
  cases F with
  | zero => rfl
  | succ F => simp only [lpW]; rw [if_neg (fun q => h q.1)]
theorem bnd_le (k : Nat) : bnd k ≤ 6 := by unfold bnd; (repeat' split) <;> omega
theorem okTk.adv {t : Tk} (h : okTk n t) (hk : t.k ≠ 0) : okTk n (nxt f n t.af) ∧ t.pl < (nxt f n t.af).pl := ⟨nxt_ok h.1, Nat.lt_of_lt_of_le (h.2.2 hk) (nxt_pl_ge h.1)⟩
theorem stepP_of {s r : PS} {b : Bool} (h : tkX s = (0, r)) (hb : isPt s.t.k = b) : stepP f n s = ⟨!b, nxt f n s.t.af, r.ne, r.op, r.c⟩ := by unfold stepP; rw [h, hb]
/-- an operator of a level that goes on -/
theorem tkO_op {s : PS} {k L : Nat} {o : List Nat} {c : List Int32} (hw : s.w = false) (hk : s.t.k = k) (hb : bnd k = L) (hL : 0 < L) (h109 : k ≠ 109) (h60 : ¬ (k = 60 ∨ k = 61)) (hc : clsTo L s.op s.c = (o, c)) : tkX s = (0, ⟨s.w, s.t, s.ne, k :: o, c⟩) := by
  have h41 : k ≠ 41 := fun e => by rw [e] at hb; exact absurd (hb.symm.trans (show bnd 41 = 0 by decide)) (by omega)
  unfold tkX tkO
  rw [hw, if_neg (by decide), hk, if_neg (fun q => h41 q.1), if_neg (by omega), if_neg (fun q => h60 q.1)]
  have : opL k = L := by unfold opL; rw [if_neg h60, hb]
  rw [this, hc]
theorem endP_no {s : PS} (h : s.t.k ≠ 59) : ¬ endP s := fun q => h q.2.2
theorem bnd_3 {k : Nat} (h : bnd k = 3) : k = 109 := by unfold bnd at h; (repeat' split at h) <;> omega
theorem bnd_4 {k : Nat} (h : bnd k = 4) : k = 60 ∨ k = 61 := by unfold bnd at h; (repeat' split at h) <;> omega
theorem bnd_59 {k : Nat} (h : 0 < bnd k) : k ≠ 59 ∧ k ≠ 0 ∧ k ≠ 41 ∧ k ≠ 2 ∧ k < 110 := by
  have : ¬ k < 110 → bnd k = 0 := by intro q; unfold bnd; (repeat' split) <;> omega
  refine ⟨?_, ?_, ?_, ?_, ?_⟩
  · rintro rfl; revert h; decide
  · rintro rfl; revert h; decide
  · rintro rfl; revert h; decide
  · rintro rfl; revert h; decide
  · omega
theorem isPt_op {k : Nat} (h : 0 < bnd k) : isPt k = false := by
  obtain ⟨a, b, c, d, e⟩ := bnd_59 h
  simp [isPt, c, d, e]
theorem lpW_ok {ne L : Nat} {N : Bool} {P : Nat → Bool} {body : MS → MS} (hB : Bdy f n ne (L + 1) N body) (hL : 0 < L) (hL3 : L ≠ 3) (hL4 : L ≠ 4) (hP : ∀ k, P k = true ↔ bnd k = L) (hN : N = true → ∀ k, bnd k = L → ¬ mbN [k]) (hN' : N = false → ∀ k, bnd k = L → mbN [k]) {S0 : PS} {p0 : Nat} {o : List Nat} (ho : stp L o) :
    ∀ (F : Nat) (s : MS) (m0 : Nat) (τ : List Nat) (c' : List Int32), s.bad = 0 → okTk n s.t → n < F + s.t.pl → 0 < m0 → m0 + p0 ≤ s.t.pl → Rch f n m0 S0 ⟨false, s.t, ne, τ ++ o, c'⟩ → clsTo L (τ ++ o) c' = (o, s.c) → finT (L + 1) (τ ++ o) c' s.t.k → PostR f n ne L o S0 p0 (lpW f n P body F s) := by
  intro F
  induction F with
  | zero => intro s m0 τ c' hb ht hF; have := ht.2.1; omega
  | succ F ih =>
    intro s m0 τ c' hb ht hF hm0 hm hR hc hf
    simp only [lpW]
    by_cases hp : P s.t.k = true
    · rw [if_pos ⟨hb, hp⟩]
      have hk := (hP _).mp hp
      have hkp : 0 < bnd s.t.k := by omega
      obtain ⟨k59, k0, k41, k2, k110⟩ := bnd_59 hkp
      have h109 : s.t.k ≠ 109 := fun e => by rw [e] at hk; exact hL3 (hk.symm.trans (by decide))
      have h60 : ¬ (s.t.k = 60 ∨ s.t.k = 61) := by
        rintro (e | e)
        · rw [e] at hk; exact hL4 (hk.symm.trans (by decide))
        · rw [e] at hk; exact hL4 (hk.symm.trans (by decide))
      have hx := tkO_op (s := ⟨false, s.t, ne, τ ++ o, c'⟩) rfl rfl hk hL h109 h60 hc
      obtain ⟨ht1, hpl⟩ := ht.adv (f := f) k0
      have hst : Rch f n 1 ⟨false, s.t, ne, τ ++ o, c'⟩ ⟨true, nxt f n s.t.af, ne, s.t.k :: o, s.c⟩ := by
        refine Rch.one (endP_no k59) (by rw [hx]) ?_
        unfold stepP
        rw [hx]
        simp only [isPt_op hkp, Bool.not_false]
      have hR1 := hR.tr hst
      obtain ⟨b1, b2⟩ := hB.2 (adv f n s) (s.t.k :: o) hb ht1 (Or.inr (by show bnd s.t.k < L + 1; omega)) ⟨fun hN1 _ => hN hN1 _ hk, fun hN1 => hN' hN1 _ hk⟩
      by_cases hb2 : (body (adv f n s)).bad = 0
      · obtain ⟨ht2, m1, τ2, c2, q0, q1, q2, q3, q4⟩ := b2 hb2
        have e1 : (adv f n s).t = nxt f n s.t.af := rfl
        rw [e1] at q1
        have hm2 : m0 + 1 + m1 + p0 ≤ (body (adv f n s)).t.pl := by omega
        rw [layM_ok hb2]
        refine ih _ (m0 + 1 + m1) (τ2 ++ [s.t.k]) c2 hb2 ht2 (by show n < F + (body (adv f n s)).t.pl; omega) (by omega) hm2 ?_ ?_ ?_
        · rw [List.append_assoc]; exact hR1.tr q2
        · rw [List.append_assoc]
          show clsTo L (τ2 ++ (s.t.k :: o)) c2 = _
          rw [clsTo_tr (Nat.le_succ L) q3]
          simp only [clsTo]
          rw [if_pos ⟨fun e => by rw [e] at hk; exact absurd (hk.symm.trans (show bnd 40 = 0 by decide)) (by omega), by omega⟩]
          exact clsTo_stop ho
        · rw [List.append_assoc]; exact q4
      · rw [layM_bad hb2, lpW_bad hb2]
        obtain ⟨m1, q1, q2, q3⟩ := b1 hb2
        have e1 : (adv f n s).t = nxt f n s.t.af := rfl
        rw [e1] at q1
        exact ⟨fun _ => ⟨m0 + 1 + m1, by omega, q2, hR1.flt q3⟩, fun q => absurd q hb2⟩
    · rw [if_neg (fun q => hp q.2)]
      refine ⟨fun q => absurd hb q, fun _ => ⟨ht, m0, τ, c', hm0, hm, hR, hc, ?_⟩⟩
      intro hl
      rcases Nat.eq_or_lt_of_le hl with e | e
      · exact absurd ((hP _).mpr e.symm) hp
      · exact hf e
theorem Bdy.lev {ne L : Nat} {N : Bool} {P : Nat → Bool} {body : MS → MS} (hn : n ≤ 600) (hB : Bdy f n ne (L + 1) N body) (hL : 0 < L) (hL3 : L ≠ 3) (hL4 : L ≠ 4) (hP : ∀ k, P k = true ↔ bnd k = L) (hN : N = true → ∀ k, bnd k = L → ¬ mbN [k]) (hN' : N = false → ∀ k, bnd k = L → mbN [k]) : Bdy f n ne L N (rLev f n P body) := by
  refine ⟨fun s hs => ?_, fun s o hb ht ho hN1 => ?_⟩
  · unfold rLev; rw [hB.1 s hs, lpW_bad hs]
  · unfold rLev
    have ho1 : stp (L + 1) o := ho.elim Or.inl (fun h => Or.inr (by omega))
    obtain ⟨b1, b2⟩ := hB.2 s o hb ht ho1 hN1
    by_cases hb2 : (body s).bad = 0
    · obtain ⟨ht2, m1, τ2, c2, q0, q1, q2, q3, q4⟩ := b2 hb2
      exact lpW_ok hB hL hL3 hL4 hP hN hN' ho 601 _ m1 τ2 c2 hb2 ht2 (by omega) q0 q1 q2 (by rw [clsTo_tr (Nat.le_succ L) q3]; exact clsTo_stop ho) q4
    · rw [lpW_bad hb2]; exact ⟨b1, fun q => absurd q hb2⟩
theorem tkO_err {t : Tk} {ne : Nat} {o : List Nat} {c : List Int32} (h41 : ¬ (t.k = 41 ∧ 0 < ne)) (hf : finT 1 o c t.k) : (tkX ⟨false, t, ne, o, c⟩).1 = 1 := by
  unfold tkX tkO
  rw [if_neg Bool.false_ne_true, if_neg h41]
  by_cases hb : bnd t.k = 0 ∨ t.k = 109
  · rw [if_pos hb]
  · rw [if_neg hb]
    rcases hf (by omega) with e | ⟨e1, e2⟩
    · exact absurd (Or.inr e) hb
    · have : opL t.k = 5 := by unfold opL; rw [if_pos e1]; rcases e1 with e | e <;> rw [e] <;> decide
      rw [this, if_pos ⟨e1, e2⟩]
/-- a part -/
theorem wr_ok {k : Nat} {s : MS} (h : s.bad = 0) : wr k s = ⟨s.t, k, s.t.pl, s.c⟩ := if_pos h
theorem Bdy.part {ne : Nat} {rE : MS → MS} (hn : n ≤ 600) (hne : ne ≤ 5) (hE0 : ∀ s, s.bad ≠ 0 → rE s = s) (hE : ∀ (s : MS) (o : List Nat), s.bad = 0 → okTk n s.t → PostR f n (ne + 1) 1 (40 :: o) ⟨true, s.t, ne + 1, 40 :: o, s.c⟩ s.t.pl (rE s)) : Bdy f n ne 7 true (rPart f n rE) := by
  refine ⟨fun s hs => if_neg hs, fun s o hb ht ho hN => ?_⟩
  unfold rPart
  rw [if_pos hb]
  by_cases h2 : s.t.k = 2
  · rw [if_pos h2]
    have hX : tkX ⟨true, s.t, ne, o, s.c⟩ = if 4 < s.t.dg then (2, ⟨true, s.t, ne, o, s.c⟩) else (0, ⟨true, s.t, ne, o, nI s.t.v :: s.c⟩) := by
      unfold tkX tkP
      rw [if_pos rfl, if_neg (fun q => q.1 h2), if_neg (fun q => absurd q.2 (by show ¬ 5 < ne; omega)), if_pos h2]
    by_cases h4 : 4 < s.t.dg
    · rw [if_pos h4] at hX ⊢
      rw [wr_ok hb]
      exact ⟨fun _ => ⟨0, by simp, ht.2.1, Flt.one (endP_no (by show s.t.k ≠ 59; rw [h2]; decide)) (by rw [hX]) (fun e => by cases e)⟩, fun q => by cases q⟩
    · rw [if_neg h4] at hX ⊢
      obtain ⟨ht1, hpl⟩ := ht.adv (f := f) (by rw [h2]; decide)
      rw [layM_ok (s := adv f n s) hb]
      refine ⟨fun q => absurd hb q, fun _ => ⟨ht1, 1, [], nI s.t.v :: s.c, by decide, ?_, ?_, ?_, fun q => absurd q (by have := bnd_le (nxt f n s.t.af).k; exact Nat.not_le.mpr (Nat.lt_of_le_of_lt this (by decide)))⟩⟩
      · show 1 + s.t.pl ≤ (nxt f n s.t.af).pl; omega
      · refine Rch.one (endP_no (by show s.t.k ≠ 59; rw [h2]; decide)) (by rw [hX]) ?_
        exact stepP_of hX (b := true) (by show isPt s.t.k = true; rw [h2]; rfl)
      · exact clsTo_stop (Or.inr (Nat.lt_of_le_of_lt (bnd_le _) (by decide)))
  · rw [if_neg h2]
    by_cases h99 : 99 ≤ s.t.k
    · rw [if_pos h99]
      have h40 : ¬ s.t.k = 40 := by omega
      have hX : tkX ⟨true, s.t, ne, o, s.c⟩ = if 110 ≤ s.t.k then (0, ⟨true, s.t, ne, o, -(nI s.t.k) :: s.c⟩) else (3, ⟨true, s.t, ne, o, s.c⟩) := by
        unfold tkX tkP
        rw [if_pos rfl, if_neg (fun q => q.2.2 h99), if_neg (fun q => absurd q.2 (by show ¬ 5 < ne; omega)), if_neg h2, if_neg h40, if_neg (fun q => hN.1 rfl q.1 q.2)]
      have hend : ¬ endP ⟨true, s.t, ne, o, s.c⟩ := fun q => by cases q.1
      by_cases h110 : 110 ≤ s.t.k
      · rw [if_pos h110] at hX ⊢
        obtain ⟨ht1, hpl⟩ := ht.adv (f := f) (by omega)
        rw [layM_ok hb]
        refine ⟨fun q => absurd hb q, fun _ => ⟨ht1, 1, [], -(nI s.t.k) :: s.c, by decide, ?_, ?_, ?_, fun q => absurd q (Nat.not_le.mpr (Nat.lt_of_le_of_lt (bnd_le _) (by decide)))⟩⟩
        · show 1 + s.t.pl ≤ (nxt f n s.t.af).pl; omega
        · refine Rch.one hend (by rw [hX]) ?_
          exact stepP_of hX (b := true) (by simp [isPt, h110])
        · exact clsTo_stop (Or.inr (Nat.lt_of_le_of_lt (bnd_le _) (by decide)))
      · rw [if_neg h110] at hX ⊢
        rw [wr_ok hb]
        exact ⟨fun _ => ⟨0, by simp, ht.2.1, Flt.one hend (by rw [hX]) (fun e => by cases e)⟩, fun q => by cases q⟩
    · rw [if_neg h99]
      have hend : ¬ endP ⟨true, s.t, ne, o, s.c⟩ := fun q => by cases q.1
      by_cases h40 : s.t.k = 40
      · have hX : tkX ⟨true, s.t, ne, o, s.c⟩ = (0, ⟨true, s.t, ne + 1, 40 :: o, s.c⟩) := by
          unfold tkX tkP
          rw [if_pos rfl, if_neg (fun q => q.2.1 h40), if_neg (fun q => absurd q.2 (by show ¬ 5 < ne; omega)), if_neg h2, if_pos h40]
        obtain ⟨ht1, hpl⟩ := ht.adv (f := f) (by omega)
        have hmk : mkM f n 40 s = adv f n s := by unfold mkM adB; rw [if_pos h40, if_pos hb]
        rw [hmk]
        have hst : Rch f n 1 ⟨true, s.t, ne, o, s.c⟩ ⟨true, nxt f n s.t.af, ne + 1, 40 :: o, s.c⟩ := by
          refine Rch.one hend (by rw [hX]) ?_
          exact stepP_of hX (b := false) (by show isPt s.t.k = false; rw [h40]; rfl)
        obtain ⟨b1, b2⟩ := hE (adv f n s) o hb ht1
        have e1 : (adv f n s).t = nxt f n s.t.af := rfl
        rw [e1] at b1 b2
        by_cases hb2 : (rE (adv f n s)).bad = 0
        · obtain ⟨ht2, m1, τ2, c2, q0, q1, q2, q3, q4⟩ := b2 hb2
          have hR := hst.tr q2
          by_cases h41 : (rE (adv f n s)).t.k = 41
          · have hmk2 : mkM f n 41 (rE (adv f n s)) = adv f n (rE (adv f n s)) := by unfold mkM adB; rw [if_pos h41, if_pos hb2]
            rw [hmk2]
            obtain ⟨ht3, hpl3⟩ := ht2.adv (f := f) (by omega)
            have hc0 : clsTo 0 (τ2 ++ 40 :: o) c2 = (40 :: o, (rE (adv f n s)).c) := by rw [clsTo_tr (Nat.zero_le 1) q3]; exact clsTo_40
            have hX2 : tkX ⟨false, (rE (adv f n s)).t, ne + 1, τ2 ++ 40 :: o, c2⟩ = (0, ⟨false, (rE (adv f n s)).t, ne, o, (rE (adv f n s)).c⟩) := by
              unfold tkX tkO
              rw [if_neg Bool.false_ne_true, if_pos ⟨h41, Nat.succ_pos ne⟩]
              show (0, false, (rE (adv f n s)).t, ne + 1 - 1, (clsTo 0 (τ2 ++ 40 :: o) c2).1.tail, (clsTo 0 (τ2 ++ 40 :: o) c2).2) = _
              rw [hc0]
              rfl
            refine ⟨fun q => absurd hb2 q, fun _ => ⟨ht3, 1 + m1 + 1, [], (rE (adv f n s)).c, by omega, ?_, ?_, ?_, fun q => absurd q (Nat.not_le.mpr (Nat.lt_of_le_of_lt (bnd_le _) (by decide)))⟩⟩
            · show 1 + m1 + 1 + s.t.pl ≤ (nxt f n (rE (adv f n s)).t.af).pl; omega
            · refine hR.tr (Rch.one (endP_no (by show (rE (adv f n s)).t.k ≠ 59; rw [h41]; decide)) (by rw [hX2]) ?_)
              exact stepP_of hX2 (b := true) (by show isPt (rE (adv f n s)).t.k = true; rw [h41]; rfl)
            · exact clsTo_stop (Or.inr (Nat.lt_of_le_of_lt (bnd_le _) (by decide)))
          · have hmk2 : mkM f n 41 (rE (adv f n s)) = ⟨(rE (adv f n s)).t, 1, (rE (adv f n s)).t.pl, (rE (adv f n s)).c⟩ := by unfold mkM adB; rw [if_neg h41, wr_ok hb2]; rfl
            rw [hmk2]
            refine ⟨fun _ => ⟨1 + m1, ?_, ht2.2.1, hR.flt (Flt.one (fun q => by have := q.2.1; simp at this) (w := 1) ?_ (fun e => by cases e))⟩, fun q => by cases q⟩
            · show 1 + m1 + s.t.pl ≤ (rE (adv f n s)).t.pl; omega
            · exact tkO_err (fun q => h41 q.1) q4
        · have hmk2 : mkM f n 41 (rE (adv f n s)) = rE (adv f n s) := by
            unfold mkM adB wr
            split <;> simp [hb2]
          rw [hmk2]
          obtain ⟨m1, q1, q2, q3⟩ := b1 hb2
          exact ⟨fun _ => ⟨1 + m1, by omega, q2, hst.flt q3⟩, fun q => absurd q hb2⟩
      · have hX : tkX ⟨true, s.t, ne, o, s.c⟩ = (1, ⟨true, s.t, ne, o, s.c⟩) := by
          unfold tkX tkP
          rw [if_pos rfl, if_pos ⟨h2, h40, h99⟩]
        have hmk : mkM f n 40 s = ⟨s.t, 1, s.t.pl, s.c⟩ := by unfold mkM adB; rw [if_neg h40, wr_ok hb]; rfl
        rw [hmk, hE0 _ (fun e => by cases e)]
        have hmk2 : mkM f n 41 ⟨s.t, 1, s.t.pl, s.c⟩ = ⟨s.t, 1, s.t.pl, s.c⟩ := by
          unfold mkM adB wr
          split <;> rfl
        rw [hmk2]
        exact ⟨fun _ => ⟨0, by simp, ht.2.1, Flt.one hend (by rw [hX]) (fun e => by cases e)⟩, fun q => by cases q⟩
theorem ntL_bad {F m : Nat} {s : MS} (h : s.bad ≠ 0) : ntL f n F m s = (m, s) := by
  cases F with
  | zero => rfl
  | succ F => simp only [ntL]; rw [if_neg (fun q => h q.1)]
theorem layN_bad {x : Int32} : ∀ {m : Nat} {s : MS}, s.bad ≠ 0 → layN x m s = s
  | 0, s, h => rfl
  | m + 1, s, h => by simp only [layN]; rw [layM_bad h]; exact layN_bad h
theorem layN_ok {x : Int32} : ∀ {m : Nat} {s : MS}, s.bad = 0 → layN x m s = ⟨s.t, s.bad, s.bp, List.replicate m x ++ s.c⟩
  | 0, s, h => rfl
  | m + 1, s, h => by
    simp only [layN]
    rw [layM_ok h, layN_ok (s := ⟨s.t, s.bad, s.bp, x :: s.c⟩) h]
    show ((s.t, s.bad, s.bp, List.replicate m x ++ x :: s.c) : MS) = _
    rw [List.replicate_succ', List.append_assoc]
    rfl
theorem ntsO_stp {o : List Nat} (h : stp 3 o) : ∀ m, ntsO (List.replicate m 109 ++ o) = m
  | 0 => by
    cases o with
    | nil => rfl
    | cons x r =>
      show (if x = 109 then ntsO r + 1 else 0) = 0
      rw [if_neg]
      rintro rfl
      rcases h with h | h
      · exact absurd h (by show ¬ 109 = 40; decide)
      · exact absurd h (by show ¬ bnd 109 < 3; decide)
  | m + 1 => by
    rw [List.replicate_succ]
    show (if 109 = 109 then ntsO (List.replicate m 109 ++ o) + 1 else 0) = m + 1
    rw [if_pos rfl, ntsO_stp h m]
theorem mbN_rep {o : List Nat} (h : mbN o) : ∀ m, mbN (List.replicate m 109 ++ o)
  | 0 => h
  | m + 1 => Or.inr (Or.inr (Or.inr rfl))
theorem stp_rep {o : List Nat} {L : Nat} (h : stp 3 o) (hL : 3 < L) : ∀ m, stp L (List.replicate m 109 ++ o)
  | 0 => h.elim Or.inl (fun q => Or.inr (by exact Nat.lt_trans q hL))
  | m + 1 => Or.inr (by show bnd 109 < L; have : bnd 109 = 3 := by decide
                        omega)
theorem clsTo_rep {o : List Nat} (h : stp 3 o) : ∀ m c, clsTo 3 (List.replicate m 109 ++ o) c = (o, List.replicate m (-109) ++ c)
  | 0, c => clsTo_stop h
  | m + 1, c => by
    rw [List.replicate_succ]
    show (if (109 : Nat) ≠ 40 ∧ 3 ≤ bnd 109 then clsTo 3 (List.replicate m 109 ++ o) (-(nI 109) :: c) else _) = _
    rw [if_pos (by decide), clsTo_rep h m]
    rw [List.replicate_succ', List.append_assoc]
    rfl
theorem ntL_ok {ne : Nat} {o : List Nat} (hne : ne ≤ 5) (ho : stp 3 o) (hm : mbN o) {S0 : PS} {p0 : Nat} : ∀ (F m : Nat) (s : MS) (m0 : Nat), s.bad = 0 → okTk n s.t → m ≤ 6 → 7 < F + m → m0 + p0 ≤ s.t.pl → Rch f n m0 S0 ⟨true, s.t, ne, List.replicate m 109 ++ o, s.c⟩ →
    ((ntL f n F m s).2.bad ≠ 0 → ∃ k, k + p0 ≤ (ntL f n F m s).2.bp ∧ (ntL f n F m s).2.bp ≤ n ∧ Flt f n k S0 (ntL f n F m s).2.bad (ntL f n F m s).2.bp) ∧
    ((ntL f n F m s).2.bad = 0 → okTk n (ntL f n F m s).2.t ∧ (ntL f n F m s).2.t.k ≠ 109 ∧ (ntL f n F m s).2.c = s.c ∧ ∃ k, k + p0 ≤ (ntL f n F m s).2.t.pl ∧ Rch f n k S0 ⟨true, (ntL f n F m s).2.t, ne, List.replicate (ntL f n F m s).1 109 ++ o, s.c⟩) := by
  intro F
  induction F with
  | zero => intro m s m0 hb ht h6 h7; omega
  | succ F ih =>
    intro m s m0 hb ht h6 h7 hp hR
    simp only [ntL]
    by_cases hk : s.t.k = 109
    · rw [if_pos ⟨hb, hk⟩]
      have hend : ¬ endP ⟨true, s.t, ne, List.replicate m 109 ++ o, s.c⟩ := fun q => by cases q.1
      have hX : tkX ⟨true, s.t, ne, List.replicate m 109 ++ o, s.c⟩ = if 6 ≤ m then (2, ⟨true, s.t, ne, List.replicate m 109 ++ o, s.c⟩) else (0, ⟨true, s.t, ne, 109 :: (List.replicate m 109 ++ o), s.c⟩) := by
        unfold tkX tkP
        rw [if_pos rfl, if_neg (fun q => q.2.2 (by show 99 ≤ s.t.k; omega)), if_neg (fun q => absurd q.2 (by show ¬ 5 < ne; omega)), if_neg (by show ¬ s.t.k = 2; omega), if_neg (by show ¬ s.t.k = 40; omega), if_pos ⟨hk, mbN_rep hm m⟩]
        simp only [ntsO_stp ho m]
      by_cases h66 : m = 6
      · rw [if_pos (by omega)] at hX
        rw [if_pos h66, wr_ok hb]
        have : adB f n ⟨s.t, 2, s.t.pl, s.c⟩ = ⟨s.t, 2, s.t.pl, s.c⟩ := rfl
        rw [this, ntL_bad (fun e => by cases e)]
        exact ⟨fun _ => ⟨m0, hp, ht.2.1, hR.flt (Flt.one hend (by rw [hX]) (fun e => by cases e))⟩, fun q => by cases q⟩
      · rw [if_neg (by omega)] at hX
        rw [if_neg h66]
        have : adB f n s = adv f n s := if_pos hb
        rw [this]
        obtain ⟨ht1, hpl⟩ := ht.adv (f := f) (by omega)
        refine ih (m + 1) (adv f n s) (m0 + 1) hb ht1 (by omega) (by omega) ?_ ?_
        · show m0 + 1 + p0 ≤ (nxt f n s.t.af).pl; omega
        · refine hR.tr (Rch.one hend (by rw [hX]) ?_)
          rw [stepP_of hX (b := false) (by show isPt s.t.k = false; rw [hk]; rfl), List.replicate_succ]
          rfl
    · rw [if_neg (fun q => hk q.2)]
      exact ⟨fun q => absurd hb q, fun _ => ⟨ht, hk, rfl, m0, hp, hR⟩⟩
theorem mbN_no {k : Nat} (h : 3 < bnd k) : ¬ mbN [k] := by
  rintro (e | e | e | e) <;> (have e : k = _ := e; subst e; revert h; decide)
theorem Bdy.not {ne : Nat} {sum : MS → MS} (hne : ne ≤ 5) (hB : Bdy f n ne 5 true sum) : Bdy f n ne 3 false (rNot f n sum) := by
  refine ⟨fun s hs => ?_, fun s o hb ht ho hN => ?_⟩
  · unfold rNot rTst
    rw [ntL_bad hs]
    simp only
    rw [hB.1 s hs, if_neg (fun q => hs q.1)]
    rfl
  · unfold rNot
    obtain ⟨n1, n2⟩ := ntL_ok hne ho (hN.2 rfl) (S0 := ⟨true, s.t, ne, o, s.c⟩) (p0 := s.t.pl) 8 0 s 0 hb ht (by decide) (by decide) (by omega) (Rch.rf (f := f) (n := n) _)
    generalize ntL f n 8 0 s = q at n1 n2
    obtain ⟨m, s1⟩ := q
    simp only at n1 n2 ⊢
    by_cases hb1 : s1.bad = 0
    · obtain ⟨ht1, hk1, hc1, k0, hp0, hR0⟩ := n2 hb1
      obtain ⟨b1, b2⟩ := hB.2 s1 (List.replicate m 109 ++ o) hb1 ht1 (stp_rep ho (by decide) m) ⟨fun _ q => absurd q hk1, fun q => by cases q⟩
      rw [hc1] at b1 b2
      by_cases hb2 : (sum s1).bad = 0
      · obtain ⟨ht2, m1, τ2, c2, q0, q1, q2, q3, q4⟩ := b2 hb2
        have hR1 := hR0.tr q2
        unfold rTst
        by_cases h60 : P60 (sum s1).t.k = true
        · rw [if_pos ⟨hb2, h60⟩]
          have hT : (sum s1).t.k = 60 ∨ (sum s1).t.k = 61 := by simpa [P60] using h60
          have hbd : bnd (sum s1).t.k = 4 := by rcases hT with e | e <;> rw [e] <;> decide
          obtain ⟨k59, k0', k41, k2, k110⟩ := bnd_59 (k := (sum s1).t.k) (by omega)
          have hlo : ¬ (lastO (List.replicate m 109 ++ o) = 60 ∨ lastO (List.replicate m 109 ++ o) = 61) := by
            rcases stp_rep ho (L := 4) (by decide) m with e | e
            · rw [e]; decide
            · rintro (e2 | e2) <;> rw [e2] at e <;> revert e <;> decide
          have hX : tkX ⟨false, (sum s1).t, ne, τ2 ++ (List.replicate m 109 ++ o), c2⟩ = (0, ⟨false, (sum s1).t, ne, (sum s1).t.k :: (List.replicate m 109 ++ o), (sum s1).c⟩) := by
            unfold tkX tkO
            have h5 : opL (sum s1).t.k = 5 := by unfold opL; rw [if_pos hT, hbd]
            show (if false = true then _ else if (sum s1).t.k = 41 ∧ 0 < ne then _ else if bnd (sum s1).t.k = 0 ∨ (sum s1).t.k = 109 then _ else if ((sum s1).t.k = 60 ∨ (sum s1).t.k = 61) ∧ (lastO (clsTo (opL (sum s1).t.k) (τ2 ++ (List.replicate m 109 ++ o)) c2).1 = 60 ∨ lastO (clsTo (opL (sum s1).t.k) (τ2 ++ (List.replicate m 109 ++ o)) c2).1 = 61) then _ else _) = _
            rw [h5, q3, if_neg Bool.false_ne_true, if_neg (fun q => k41 q.1), if_neg (by omega), if_neg (fun q => hlo q.2)]
          obtain ⟨ht3, hpl⟩ := ht2.adv (f := f) k0'
          have hR2 := hR1.tr (Rch.one (f := f) (n := n) (endP_no k59) (by rw [hX]) (stepP_of hX (b := false) (isPt_op (k := (sum s1).t.k) (by omega))))
          obtain ⟨e1, e2⟩ := hB.2 (adv f n (sum s1)) ((sum s1).t.k :: (List.replicate m 109 ++ o)) hb2 ht3 (Or.inr (by show bnd (sum s1).t.k < 5; rw [hbd]; decide)) ⟨fun _ _ => mbN_no (k := (sum s1).t.k) (by omega), fun q => by cases q⟩
          by_cases hb3 : (sum (adv f n (sum s1))).bad = 0
          · obtain ⟨ht4, m2, τ3, c3, w0, w1, w2, w3, w4⟩ := e2 hb3
            rw [layM_ok hb3, layN_ok (s := ⟨(sum (adv f n (sum s1))).t, (sum (adv f n (sum s1))).bad, (sum (adv f n (sum s1))).bp, -(nI (sum s1).t.k) :: (sum (adv f n (sum s1))).c⟩) hb3]
            have e9 : (adv f n (sum s1)).t.pl = (nxt f n (sum s1).t.af).pl := rfl
            rw [e9] at w1
            refine ⟨fun q => absurd hb3 q, fun _ => ⟨ht4, k0 + m1 + 1 + m2, τ3 ++ (sum s1).t.k :: List.replicate m 109, c3, by omega, by show _ ≤ (sum (adv f n (sum s1))).t.pl; omega, ?_, ?_, ?_⟩⟩
            · have := hR2.tr w2
              simpa [List.append_assoc] using this
            · have h4 := clsTo_tr (L := 3) (by decide) w3
              rw [show τ3 ++ (sum s1).t.k :: List.replicate m 109 ++ o = τ3 ++ (sum s1).t.k :: (List.replicate m 109 ++ o) by simp, h4]
              show (if (sum s1).t.k ≠ 40 ∧ 3 ≤ bnd (sum s1).t.k then clsTo 3 (List.replicate m 109 ++ o) (-(nI (sum s1).t.k) :: _) else _) = _
              rw [if_pos ⟨by omega, by omega⟩, clsTo_rep ho m]
            · rw [show τ3 ++ (sum s1).t.k :: List.replicate m 109 ++ o = τ3 ++ (sum s1).t.k :: (List.replicate m 109 ++ o) by simp]
              intro h3
              rcases Nat.lt_or_ge 4 (bnd (sum (adv f n (sum s1))).t.k) with h5 | h5
              · exact w4 h5
              · have : bnd (sum (adv f n (sum s1))).t.k = 3 ∨ bnd (sum (adv f n (sum s1))).t.k = 4 := by
                  have h3 : 3 ≤ bnd (sum (adv f n (sum s1))).t.k := h3
                  omega
                rcases this with h | h
                · exact Or.inl (bnd_3 h)
                · refine Or.inr ⟨bnd_4 h, ?_⟩
                  rw [w3]; exact hT
          · rw [layM_bad hb3, layN_bad hb3]
            obtain ⟨m2, w1, w2, w3⟩ := e1 hb3
            have e9 : (adv f n (sum s1)).t.pl = (nxt f n (sum s1).t.af).pl := rfl
            rw [e9] at w1
            exact ⟨fun _ => ⟨k0 + m1 + 1 + m2, by omega, w2, hR2.flt w3⟩, fun q => absurd q hb3⟩
        · rw [if_neg (fun q => h60 q.2), layN_ok hb2]
          refine ⟨fun q => absurd hb2 q, fun _ => ⟨ht2, k0 + m1, τ2 ++ List.replicate m 109, c2, by omega, by show _ ≤ (sum s1).t.pl; omega, ?_, ?_, ?_⟩⟩
          · simpa [List.append_assoc] using hR1
          · rw [List.append_assoc, clsTo_tr (L := 3) (by decide) q3, clsTo_rep ho m]
          · rw [List.append_assoc]
            intro h3
            rcases Nat.lt_or_ge 4 (bnd (sum s1).t.k) with h5 | h5
            · exact q4 h5
            · have : bnd (sum s1).t.k = 3 ∨ bnd (sum s1).t.k = 4 := by
                have h3 : 3 ≤ bnd (sum s1).t.k := h3
                omega
              rcases this with h | h
              · exact Or.inl (bnd_3 h)
              · exact absurd (by simpa [P60] using bnd_4 h) h60
      · have : rTst f n sum (sum s1) = sum s1 := by unfold rTst; rw [if_neg (fun q => hb2 q.1)]
        rw [this, layN_bad hb2]
        obtain ⟨m1, w1, w2, w3⟩ := b1 hb2
        exact ⟨fun _ => ⟨k0 + m1, by omega, w2, hR0.flt w3⟩, fun q => absurd q hb2⟩
    · have h1 : sum s1 = s1 := hB.1 s1 hb1
      have h2 : rTst f n sum s1 = s1 := by unfold rTst; rw [if_neg (fun q => hb1 q.1)]
      rw [h1, h2, layN_bad hb1]
      obtain ⟨k, w1, w2, w3⟩ := n1 hb1
      exact ⟨fun _ => ⟨k, w1, w2, w3⟩, fun q => absurd q hb1⟩
theorem P_42 (k : Nat) : P42 k = true ↔ bnd k = 6 := by unfold P42 bnd; simp only [Bool.or_eq_true, beq_iff_eq]; (repeat' split) <;> omega
theorem P_43 (k : Nat) : P43 k = true ↔ bnd k = 5 := by unfold P43 bnd; simp only [Bool.or_eq_true, beq_iff_eq]; (repeat' split) <;> omega
theorem P_108 (k : Nat) : P108 k = true ↔ bnd k = 2 := by unfold P108 bnd; simp only [beq_iff_eq]; (repeat' split) <;> omega
theorem P_107 (k : Nat) : P107 k = true ↔ bnd k = 1 := by unfold P107 bnd; simp only [beq_iff_eq]; (repeat' split) <;> omega
theorem mbN_yes {k : Nat} (h : bnd k = 1 ∨ bnd k = 2) : mbN [k] := by
  rcases h with h | h
  · exact Or.inr (Or.inl (by show k = 107; have := (P_107 k).mpr h; simpa [P107] using this))
  · exact Or.inr (Or.inr (Or.inl (by show k = 108; have := (P_108 k).mpr h; simpa [P108] using this)))
/-- an expression, with 6 - a parentheses around -/
theorem rE_ok (hn : n ≤ 600) : ∀ (a : Nat), a ≤ 6 → (∀ s : MS, s.bad ≠ 0 → rE f n a s = s) ∧ ∀ (s : MS) (o : List Nat), s.bad = 0 → okTk n s.t → lastO o = 40 → PostR f n (6 - a) 1 o ⟨true, s.t, 6 - a, o, s.c⟩ s.t.pl (rE f n a s)
  | 0, _ => by
    refine ⟨fun s hs => by simp only [rE]; rw [if_neg hs], fun s o hb ht ho => ?_⟩
    simp only [rE]
    rw [if_pos hb]
    have hend : ¬ endP ⟨true, s.t, 6 - 0, o, s.c⟩ := fun q => by cases q.1
    by_cases h : s.t.k = 2 ∨ 99 ≤ s.t.k ∨ s.t.k = 40
    · rw [if_pos h, wr_ok hb]
      have hX : tkX ⟨true, s.t, 6 - 0, o, s.c⟩ = (2, ⟨true, s.t, 6 - 0, o, s.c⟩) := by
        unfold tkX tkP
        rw [if_pos rfl, if_neg (by show ¬ (¬ s.t.k = 2 ∧ ¬ s.t.k = 40 ∧ ¬ 99 ≤ s.t.k); omega), if_pos ⟨ho, by show 5 < 6 - 0; decide⟩]
      exact ⟨fun _ => ⟨0, by simp, ht.2.1, Flt.one hend (by rw [hX]) (fun e => by cases e)⟩, fun q => by cases q⟩
    · rw [if_neg h, wr_ok hb]
      have hX : tkX ⟨true, s.t, 6 - 0, o, s.c⟩ = (1, ⟨true, s.t, 6 - 0, o, s.c⟩) := by
        unfold tkX tkP
        rw [if_pos rfl, if_pos (by show ¬ s.t.k = 2 ∧ ¬ s.t.k = 40 ∧ ¬ 99 ≤ s.t.k; omega)]
      exact ⟨fun _ => ⟨0, by simp, ht.2.1, Flt.one hend (by rw [hX]) (fun e => by cases e)⟩, fun q => by cases q⟩
  | a + 1, ha => by
    refine ⟨fun s hs => by simp only [rE]; rw [if_neg hs], fun s o hb ht ho => ?_⟩
    simp only [rE]
    rw [if_pos hb]
    by_cases h : s.t.k = 2 ∨ 99 ≤ s.t.k ∨ s.t.k = 40
    · rw [if_pos h]
      obtain ⟨i1, i2⟩ := rE_ok hn a (by omega)
      have hne : 6 - (a + 1) ≤ 5 := by omega
      have e6 : 6 - a = 6 - (a + 1) + 1 := by omega
      have h7 := Bdy.part (f := f) hn hne i1 (fun s o h1 h2 => by have := i2 s (40 :: o) h1 h2 rfl; rw [e6] at this; exact this)
      have h6 := Bdy.lev (L := 6) hn h7 (by decide) (by decide) (by decide) P_42 (fun _ k hk => mbN_no (by omega)) (fun q => by cases q)
      have h5 := Bdy.lev (L := 5) hn h6 (by decide) (by decide) (by decide) P_43 (fun _ k hk => mbN_no (by omega)) (fun q => by cases q)
      have h3 := Bdy.not hne h5
      have h2 := Bdy.lev (L := 2) hn h3 (by decide) (by decide) (by decide) P_108 (fun q => by cases q) (fun _ k hk => mbN_yes (Or.inr hk))
      have h1 := Bdy.lev (L := 1) hn h2 (by decide) (by decide) (by decide) P_107 (fun q => by cases q) (fun _ k hk => mbN_yes (Or.inl hk))
      exact h1.2 s o hb ht (Or.inl ho) ⟨(fun q => by cases q), fun _ => Or.inl ho⟩
    · rw [if_neg h, wr_ok hb]
      have hend : ¬ endP ⟨true, s.t, 6 - (a + 1), o, s.c⟩ := fun q => by cases q.1
      have hX : tkX ⟨true, s.t, 6 - (a + 1), o, s.c⟩ = (1, ⟨true, s.t, 6 - (a + 1), o, s.c⟩) := by
        unfold tkX tkP
        rw [if_pos rfl, if_pos (by show ¬ s.t.k = 2 ∧ ¬ s.t.k = 40 ∧ ¬ 99 ≤ s.t.k; omega)]
      exact ⟨fun _ => ⟨0, by simp, ht.2.1, Flt.one hend (by rw [hX]) (fun e => by cases e)⟩, fun q => by cases q⟩
/-- THE RULE: what the automaton comes to, by the descent -/
theorem rule_eq (hn : n ≤ 600) {t : Tk} (ht : okTk n t) (h1 : 1 ≤ t.pl) : let s' := rE f n 6 ⟨t, 0, 0, []⟩
    (s'.bad ≠ 0 → ∃ x, runC f n 600 ⟨true, t, 0, [], []⟩ = (s'.bad, x) ∧ x.t.pl = s'.bp) ∧
    (s'.bad = 0 → okTk n s'.t ∧ t.pl < s'.t.pl ∧ (s'.t.k = 59 → ∃ o c, runC f n 600 ⟨true, t, 0, [], []⟩ = (0, ⟨false, s'.t, 0, o, c⟩) ∧ clsTo 0 o c = ([], s'.c)) ∧
      (s'.t.k ≠ 59 → ∃ x, runC f n 600 ⟨true, t, 0, [], []⟩ = (1, x) ∧ x.t.pl = s'.t.pl)) := by
  intro s'
  obtain ⟨a, b⟩ := (rE_ok (f := f) hn 6 (by decide)).2 ⟨t, 0, 0, []⟩ [] rfl ht rfl
  have e : (6 - 6 : Nat) = 0 := rfl
  rw [e] at a b
  refine ⟨fun hb => ?_, fun hb => ?_⟩
  · obtain ⟨m, m1, m2, m3⟩ := a hb
    have m1 : m + t.pl ≤ s'.bp := m1
    obtain ⟨x, y1, y2⟩ := m3 (600 - (m + 1))
    rw [show m + 1 + (600 - (m + 1)) = 600 by have : s'.bp ≤ n := m2
                                              omega] at y1
    exact ⟨x, y1, y2⟩
  · obtain ⟨ht2, m, τ, c', m0, m1, m2, m3, m4⟩ := b hb
    have m1 : m + t.pl ≤ s'.t.pl := m1
    have hpl : s'.t.pl ≤ n := ht2.2.1
    rw [List.append_nil] at m2 m3 m4
    refine ⟨ht2, by omega, fun h59 => ?_, fun h59 => ?_⟩
    · refine ⟨τ, c', ?_, ?_⟩
      · have := m2 (600 - m)
        rw [show m + (600 - m) = 600 by omega] at this
        rw [this, show 600 - m = (599 - m) + 1 by omega]
        simp only [runC]
        rw [if_pos ⟨rfl, rfl, h59⟩]
      · rw [clsTo_tr (Nat.zero_le 1) m3]; rfl
    · have hflt := m2.flt (Flt.one (f := f) (n := n) (endP_no h59) (tkO_err (fun q => absurd q.2 (by decide)) m4) (by decide))
      obtain ⟨x, y1, y2⟩ := hflt (600 - (m + 0 + 1))
      rw [show m + 0 + 1 + (600 - (m + 0 + 1)) = 600 by omega] at y1
      exact ⟨x, y1, y2⟩
end Desc
