/-! what holds of the automaton at every step -/
def par : List Nat → Nat
  | [] => 0
  | x :: r => par r + (if x = 40 then 1 else 0)
/-- how many wait that take two values -/
def binO : List Nat → Nat
  | [] => 0
  | x :: r => binO r + (if x = 40 ∨ x = 109 then 0 else 1)
def capN (b k : Nat) : Nat := if b = 1 then 1 else if b = 2 then 2 else if b = 3 then 2 + k else if b = 4 then 9 else if b = 5 then 10 else 11
def capK (b : Nat) : Nat := if b = 1 then 1 else if b = 2 then 2 else if b = 3 then 2 else if b = 4 then 3 else if b = 5 then 4 else 5
def LB : List Nat → Prop
  | [] => True
  | x :: r => LB r ∧ ntsO (x :: r) ≤ 6 ∧ (x = 40 ∨ 0 < bnd x) ∧ (x ≠ 40 → r.length + 1 ≤ 12 * par r + capN (bnd x) (ntsO (x :: r)) ∧ binO (x :: r) ≤ 5 * par r + capK (bnd x)) ∧ (x = 40 → r.length + 1 ≤ 12 * (par r + 1) ∧ binO r ≤ 5 * (par r + 1))
theorem bnd_40 : bnd 40 = 0 := by decide
theorem capN_le {b k : Nat} (h : k ≤ 6) : capN b k ≤ 11 := by unfold capN; (repeat' split) <;> omega
theorem capK_le (b : Nat) : capK b ≤ 5 := by unfold capK; (repeat' split) <;> omega
theorem LB.len {o : List Nat} (h : LB o) : o.length ≤ 12 * par o + 11 ∧ binO o ≤ 5 * par o + 5 := by
  cases o with
  | nil => exact ⟨Nat.zero_le _, Nat.zero_le _⟩
  | cons x r =>
    obtain ⟨h1, h2, h3, h4, h5⟩ := h
    by_cases hx : x = 40
    · have := h5 hx
      simp only [List.length_cons, par, binO, if_pos hx, if_pos (Or.inl hx : x = 40 ∨ x = 109)]
      omega
    · obtain ⟨a, b⟩ := h4 hx
      have c1 := capN_le (b := bnd x) h2
      have c2 := capK_le (bnd x)
      simp only [List.length_cons, par, if_neg hx]
      omega
theorem ntsO_no {o : List Nat} (h : lastO o ≠ 109) : ntsO o = 0 := by
  cases o with
  | nil => rfl
  | cons x r => exact if_neg h
/-- below the top, by what it binds -/
theorem LB.top {o : List Nat} (h : LB o) {b : Nat} (hb : lastO o = 40 ∨ bnd (lastO o) < b) (h3 : 0 < b) (h6 : b ≤ 6) (hn : b = 3 → lastO o ≠ 109) : o.length + 1 ≤ 12 * par o + capN b 1 ∧ binO o + (if b = 3 then 0 else 1) ≤ 5 * par o + capK b := by
  cases o with
  | nil =>
    refine ⟨?_, ?_⟩
    · show 0 + 1 ≤ 12 * 0 + capN b 1
      unfold capN; (repeat' split) <;> omega
    · show 0 + (if b = 3 then 0 else 1) ≤ 5 * 0 + capK b
      unfold capK; (repeat' split) <;> omega
  | cons x r =>
    obtain ⟨h1, h2, h33, h4, h5⟩ := h
    by_cases hx : x = 40
    · have := h5 hx
      simp only [List.length_cons, par, binO, if_pos hx, if_pos (Or.inl hx : x = 40 ∨ x = 109)]
      constructor
      · unfold capN; (repeat' split) <;> omega
      · unfold capK; (repeat' split) <;> omega
    · obtain ⟨a, c⟩ := h4 hx
      have hb2 : bnd x < b := hb.resolve_left hx
      have hbp : 0 < bnd x := h33.resolve_left hx
      have hnt : bnd x ≠ 3 → ntsO (x :: r) = 0 := fun q => ntsO_no (fun e => q (by rw [show x = 109 from e]; decide))
      simp only [List.length_cons, par, if_neg hx]
      constructor
      · unfold capN at a ⊢
        (repeat' split) <;> (repeat' split at a) <;> omega
      · unfold capK at c ⊢
        (repeat' split) <;> (repeat' split at c) <;> omega
theorem LB.push {o : List Nat} (h : LB o) {k : Nat} (hk : 0 < bnd k) (hb : lastO o = 40 ∨ bnd (lastO o) < bnd k) : LB (k :: o) := by
  have h40 : k ≠ 40 := fun e => by rw [e, bnd_40] at hk; cases hk
  have hno : lastO o ≠ 109 ∨ bnd k ≠ 3 := by
    rcases hb with e | e
    · exact Or.inl (by rw [e]; decide)
    · by_cases q : lastO o = 109
      · right; rw [q] at e; have : bnd 109 = 3 := by decide
        omega
      · exact Or.inl q
  have h9 : k = 109 ↔ bnd k = 3 := ⟨fun e => by rw [e]; decide, bnd_3⟩
  have hnt : ntsO (k :: o) = if k = 109 then 1 else 0 := by
    show (if k = 109 then ntsO o + 1 else 0) = _
    split
    · rename_i e; rw [ntsO_no (hno.resolve_right (fun q => q (h9.mp e)))]
    · rfl
  obtain ⟨a, c⟩ := h.top hb hk (bnd_le k) (fun e => hno.resolve_right (fun q => q e))
  refine ⟨h, by rw [hnt]; split <;> omega, Or.inr hk, fun _ => ⟨?_, ?_⟩, fun e => absurd e h40⟩
  · rw [hnt]
    by_cases e : k = 109
    · rw [if_pos e]; exact a
    · rw [if_neg e]
      have : bnd k ≠ 3 := fun q => e (h9.mpr q)
      unfold capN at a ⊢
      (repeat' split) <;> (repeat' split at a) <;> omega
  · show binO o + (if k = 40 ∨ k = 109 then 0 else 1) ≤ _
    by_cases e : k = 109
    · rw [if_pos (Or.inr e)]; rw [if_pos (h9.mp e)] at c; exact c
    · rw [if_neg (by omega)]; rw [if_neg (fun q => e (h9.mpr q))] at c; exact c
theorem LB.push40 {o : List Nat} (h : LB o) : LB (40 :: o) := by
  obtain ⟨a, b⟩ := h.len
  exact ⟨h, by show (if (40 : Nat) = 109 then ntsO o + 1 else 0) ≤ 6; rw [if_neg (by decide)]; omega, Or.inl rfl, fun e => absurd rfl e, fun _ => ⟨by omega, by omega⟩⟩
theorem LB.push109 {o : List Nat} (h : LB o) (hm : mbN o) (hn : ntsO o < 6) : LB (109 :: o) := by
  by_cases e : lastO o = 109
  · cases o with
    | nil => exact absurd e (by decide)
    | cons x r =>
      have e : x = 109 := e
      subst e
      have h0 := h
      obtain ⟨h1, h2, h3, h4, h5⟩ := h
      obtain ⟨a, b⟩ := h4 (by decide)
      have hb : bnd 109 = 3 := by decide
      have n1 : ntsO (109 :: r) = ntsO r + 1 := rfl
      have n2 : ntsO (109 :: 109 :: r) = ntsO (109 :: r) + 1 := rfl
      refine ⟨h0, by omega, Or.inr (by decide), fun _ => ⟨?_, ?_⟩, fun q => absurd q (by decide)⟩
      · rw [hb] at a ⊢
        rw [n2]
        show r.length + 1 + 1 ≤ 12 * (par r + 0) + (2 + (ntsO (109 :: r) + 1))
        have a : r.length + 1 ≤ 12 * par r + (2 + ntsO (109 :: r)) := a
        omega
      · exact b
  · refine h.push (by decide) ?_
    rcases hm with q | q | q | q
    · exact Or.inl q
    · right; rw [q]; decide
    · right; rw [q]; decide
    · exact absurd q e
/-- the height of the evaluation; none if it would fall short or run over -/
def hgt : List Int32 → Option Nat
  | [] => some 0
  | x :: r => match hgt r with
    | none => none
    | some h => if 0 ≤ x ∨ x ≤ -110 then (if h < 64 then some (h + 1) else none) else if x = -109 then (if 1 ≤ h then some h else none) else if 2 ≤ h then some (h - 1) else none
theorem op_all {x : Nat} (h : 0 < bnd x) : x = 107 ∨ x = 108 ∨ x = 109 ∨ x = 60 ∨ x = 61 ∨ x = 43 ∨ x = 45 ∨ x = 42 ∨ x = 47 := by
  unfold bnd at h
  (repeat' split at h) <;> omega
theorem op_code {x : Nat} (h : 0 < bnd x) : okC (-(nI x)) ∧ ¬ (0 ≤ -(nI x) ∨ -(nI x) ≤ -110) ∧ (-(nI x) = -109 ↔ x = 109) := by
  rcases op_all h with rfl | rfl | rfl | rfl | rfl | rfl | rfl | rfl | rfl <;> exact ⟨by unfold okC; decide +kernel, by decide +kernel, by decide +kernel⟩
theorem wd_code {k : Nat} (h1 : 110 ≤ k) (h2 : k ≤ 116) : okC (-(nI k)) ∧ -(nI k) ≤ -110 := by
  have h3 : k = 110 ∨ k = 111 ∨ k = 112 ∨ k = 113 ∨ k = 114 ∨ k = 115 ∨ k = 116 := by omega
  rcases h3 with rfl | rfl | rfl | rfl | rfl | rfl | rfl <;> exact ⟨by unfold okC; decide +kernel, by decide +kernel⟩
theorem clsTo_stp (b : Nat) : ∀ (o : List Nat) (c : List Int32), lastO (clsTo b o c).1 = 40 ∨ bnd (lastO (clsTo b o c).1) < b
  | [], c => Or.inl rfl
  | x :: r, c => by
    simp only [clsTo]
    by_cases h : x ≠ 40 ∧ b ≤ bnd x
    · rw [if_pos h]; exact clsTo_stp b r _
    · rw [if_neg h]
      show x = 40 ∨ bnd x < b
      by_cases q : x = 40
      · exact Or.inl q
      · exact Or.inr (Nat.not_le.mp (fun z => h ⟨q, z⟩))
theorem clsTo_inv (b : Nat) : ∀ (o : List Nat) (c : List Int32), LB o → hgt c = some (binO o + 1) → (∀ x ∈ c, okC x) → LB (clsTo b o c).1 ∧ hgt (clsTo b o c).2 = some (binO (clsTo b o c).1 + 1) ∧ par (clsTo b o c).1 = par o ∧ (clsTo b o c).2.length + (clsTo b o c).1.length = c.length + o.length ∧ ∀ x ∈ (clsTo b o c).2, okC x
  | [], c, h1, h2, h3 => ⟨h1, h2, rfl, rfl, h3⟩
  | x :: r, c, h1, h2, h3 => by
    simp only [clsTo]
    by_cases h : x ≠ 40 ∧ b ≤ bnd x
    · rw [if_pos h]
      have hb : 0 < bnd x := h1.2.2.1.resolve_left h.1
      obtain ⟨o1, o2, o3⟩ := op_code hb
      have hh : hgt (-(nI x) :: c) = some (binO r + 1) := by
        simp only [hgt, h2]
        rw [if_neg o2]
        by_cases q : x = 109
        · rw [if_pos (o3.mpr q), if_pos (by omega)]
          simp only [binO, if_pos (Or.inr q : x = 40 ∨ x = 109)]
          try rfl
        · rw [if_neg (fun z => q (o3.mp z))]
          simp only [binO, if_neg (show ¬ (x = 40 ∨ x = 109) from fun z => z.elim h.1 q)]
          rw [if_pos (by omega)]
          try rfl
      obtain ⟨a1, a2, a3, a4, a5⟩ := clsTo_inv b r (-(nI x) :: c) h1.1 hh (fun y hy => by rcases List.mem_cons.mp hy with e | e; rw [e]; exact o1; exact h3 y e)
      refine ⟨a1, a2, ?_, ?_, a5⟩
      · rw [a3]; simp only [par, if_neg h.1]; rfl
      · rw [a4]; simp only [List.length_cons]; omega
    · rw [if_neg h]; exact ⟨h1, h2, rfl, rfl, h3⟩
/-- what holds of the automaton at every step -/
def InvP (f : Nat → Nat) (n : Nat) (s : PS) : Prop := LB s.op ∧ par s.op = s.ne ∧ (s.ne ≤ 5 ∨ (s.ne = 6 ∧ s.w = true ∧ lastO s.op = 40)) ∧ hgt s.c = some (binO s.op + (if s.w = true then 0 else 1)) ∧ s.c.length + s.op.length ≤ s.t.pl ∧ isTk f n s.t ∧ ∀ x ∈ s.c, okC x
theorem InvP.len {f : Nat → Nat} {n : Nat} {s : PS} (h : InvP f n s) : s.op.length ≤ 83 ∧ binO s.op ≤ 35 ∧ s.c.length + s.op.length ≤ n := by
  obtain ⟨h1, h2, h3, h4, h5, h6, h7⟩ := h
  have := h1.len
  have := h6.ok.2.1
  refine ⟨by omega, by omega, by omega⟩
theorem InvP.step {f : Nat → Nat} {n : Nat} {s : PS} (h : InvP f n s) (h0 : (tkX s).1 = 0) : InvP f n (stepP f n s) := by
  have hlen := h.len
  obtain ⟨h1, h2, h3, h4, h5, h6, h7⟩ := h
  have hnx : ∀ (h : s.t.k ≠ 0), s.t.pl < (nxt f n s.t.af).pl := fun h => (h6.ok.adv (f := f) h).2
  have hcs := h6.cs
  unfold InvP stepP
  unfold tkX at h0 ⊢
  rcases Bool.eq_false_or_eq_true s.w with hw | hw
  · rw [hw, if_pos rfl] at h0 ⊢
    rw [hw, if_pos rfl, Nat.add_zero] at h4
    unfold tkP at h0 ⊢
    by_cases c1 : ¬ s.t.k = 2 ∧ ¬ s.t.k = 40 ∧ ¬ 99 ≤ s.t.k
    · rw [if_pos c1] at h0; cases h0
    · rw [if_neg c1] at h0 ⊢
      have hp := hnx (by omega)
      by_cases c2 : lastO s.op = 40 ∧ 5 < s.ne
      · rw [if_pos c2] at h0; cases h0
      · rw [if_neg c2] at h0 ⊢
        have hne : s.ne ≤ 5 := by
          rcases h3 with q | q
          · exact q
          · exact absurd ⟨q.2.2, by omega⟩ c2
        by_cases c3 : s.t.k = 2
        · rw [if_pos c3] at h0 ⊢
          by_cases c4 : 4 < s.t.dg
          · rw [if_pos c4] at h0; cases h0
          · rw [if_neg c4]
            have hv : s.t.v ≤ 9999 := by rcases hcs with q | q | q | q | q <;> first | exact q.2.2.1 | omega
            have hn0 : (0 : Int32) ≤ nI s.t.v := nI_pos' (by omega)
            refine ⟨h1, h2, Or.inl hne, ?_, ?_, h6.nx, ?_⟩
            · show hgt (nI s.t.v :: s.c) = some (binO s.op + (if (!isPt s.t.k) = true then 0 else 1))
              rw [show isPt s.t.k = true by rw [c3]; rfl]
              simp only [hgt, h4]
              rw [if_pos (Or.inl hn0), if_pos (by omega)]
              rfl
            · show s.c.length + 1 + s.op.length ≤ (nxt f n s.t.af).pl; omega
            · intro x hx
              rcases List.mem_cons.mp hx with e | e
              · rw [e]; exact Or.inl hn0
              · exact h7 x e
        · rw [if_neg c3] at h0 ⊢
          by_cases c4 : s.t.k = 40
          · rw [if_pos c4]
            refine ⟨h1.push40, ?_, ?_, ?_, ?_, h6.nx, h7⟩
            · show par s.op + (if (40 : Nat) = 40 then 1 else 0) = s.ne + 1
              rw [if_pos rfl, h2]
            · show s.ne + 1 ≤ 5 ∨ (s.ne + 1 = 6 ∧ (!isPt s.t.k) = true ∧ (40 : Nat) = 40)
              rcases Nat.lt_or_ge s.ne 5 with q | q
              · exact Or.inl q
              · exact Or.inr ⟨by omega, by rw [c4]; rfl, rfl⟩
            · show hgt s.c = some (binO s.op + (if (40 : Nat) = 40 ∨ (40 : Nat) = 109 then 0 else 1) + (if (!isPt s.t.k) = true then 0 else 1))
              rw [c4, h4]; rfl
            · show s.c.length + (s.op.length + 1) ≤ (nxt f n s.t.af).pl; omega
          · rw [if_neg c4] at h0 ⊢
            by_cases c5 : s.t.k = 109 ∧ mbN s.op
            · rw [if_pos c5] at h0 ⊢
              by_cases c6 : 6 ≤ ntsO s.op
              · rw [if_pos c6] at h0; cases h0
              · rw [if_neg c6]
                refine ⟨h1.push109 c5.2 (by omega), ?_, Or.inl hne, ?_, ?_, h6.nx, h7⟩
                · show par s.op + (if (109 : Nat) = 40 then 1 else 0) = s.ne
                  rw [if_neg (by decide), h2, Nat.add_zero]
                · show hgt s.c = some (binO s.op + (if (109 : Nat) = 40 ∨ (109 : Nat) = 109 then 0 else 1) + (if (!isPt s.t.k) = true then 0 else 1))
                  rw [c5.1, h4]; rfl
                · show s.c.length + (s.op.length + 1) ≤ (nxt f n s.t.af).pl; omega
            · rw [if_neg c5] at h0 ⊢
              by_cases c6 : 110 ≤ s.t.k
              · rw [if_pos c6]
                have h116 : s.t.k ≤ 116 := by omega
                obtain ⟨w1, w2⟩ := wd_code c6 h116
                refine ⟨h1, h2, Or.inl hne, ?_, ?_, h6.nx, ?_⟩
                · show hgt (-(nI s.t.k) :: s.c) = some (binO s.op + (if (!isPt s.t.k) = true then 0 else 1))
                  rw [show isPt s.t.k = true by simp [isPt, c6]]
                  simp only [hgt, h4]
                  rw [if_pos (Or.inr w2), if_pos (by omega)]
                  rfl
                · show s.c.length + 1 + s.op.length ≤ (nxt f n s.t.af).pl; omega
                · intro x hx
                  rcases List.mem_cons.mp hx with e | e
                  · rw [e]; exact w1
                  · exact h7 x e
              · rw [if_neg c6] at h0; cases h0
  · rw [hw, if_neg Bool.false_ne_true] at h0 ⊢
    rw [hw, if_neg Bool.false_ne_true] at h4
    have hne : s.ne ≤ 5 := by
      rcases h3 with q | q
      · exact q
      · rw [hw] at q; cases q.2.1
    unfold tkO at h0 ⊢
    by_cases c1 : s.t.k = 41 ∧ 0 < s.ne
    · rw [if_pos c1]
      have hp := hnx (by omega)
      obtain ⟨a1, a2, a3, a4, a5⟩ := clsTo_inv 0 s.op s.c h1 h4 h7
      have a6 := clsTo_stp 0 s.op s.c
      generalize clsTo 0 s.op s.c = q at a1 a2 a3 a4 a5 a6
      obtain ⟨o, c⟩ := q
      simp only at a1 a2 a3 a4 a5 a6
      cases o with
      | nil => exact absurd (a3.trans h2) (by show ¬ 0 = s.ne; omega)
      | cons x r =>
        have hx : x = 40 := a6.resolve_right (Nat.not_lt_zero _)
        subst hx
        have a3 : par r + 1 = par s.op := a3
        refine ⟨a1.1, ?_, Or.inl ?_, ?_, ?_, h6.nx, a5⟩
        · show par r = s.ne - 1; omega
        · show s.ne - 1 ≤ 5; omega
        · show hgt c = some (binO r + (if (!isPt s.t.k) = true then 0 else 1))
          rw [show isPt s.t.k = true by rw [c1.1]; rfl, a2]; rfl
        · show c.length + r.length ≤ (nxt f n s.t.af).pl
          have a4 : c.length + (r.length + 1) = s.c.length + s.op.length := a4
          omega
    · rw [if_neg c1] at h0 ⊢
      by_cases c2 : bnd s.t.k = 0 ∨ s.t.k = 109
      · rw [if_pos c2] at h0; cases h0
      · rw [if_neg c2] at h0 ⊢
        have hbp : 0 < bnd s.t.k := by omega
        obtain ⟨k59, k0, k41, k2, k110⟩ := bnd_59 hbp
        have hp := hnx k0
        obtain ⟨a1, a2, a3, a4, a5⟩ := clsTo_inv (opL s.t.k) s.op s.c h1 h4 h7
        have a6 := clsTo_stp (opL s.t.k) s.op s.c
        by_cases c3 : (s.t.k = 60 ∨ s.t.k = 61) ∧ (lastO (clsTo (opL s.t.k) s.op s.c).1 = 60 ∨ lastO (clsTo (opL s.t.k) s.op s.c).1 = 61)
        · rw [if_pos c3] at h0; cases h0
        · rw [if_neg c3]
          have hst : lastO (clsTo (opL s.t.k) s.op s.c).1 = 40 ∨ bnd (lastO (clsTo (opL s.t.k) s.op s.c).1) < bnd s.t.k := by
            by_cases hT : s.t.k = 60 ∨ s.t.k = 61
            · have hb4 : bnd s.t.k = 4 := by rcases hT with e | e <;> rw [e] <;> decide
              rcases a6 with q | q
              · exact Or.inl q
              · right
                have h5 : opL s.t.k = 5 := by unfold opL; rw [if_pos hT, hb4]
                rw [h5] at q c3 ⊢
                have : bnd (lastO (clsTo 5 s.op s.c).1) ≠ 4 := fun z => c3 ⟨hT, bnd_4 z⟩
                omega
            · have h5 : opL s.t.k = bnd s.t.k := by unfold opL; rw [if_neg hT]
              rw [h5] at a6 ⊢
              exact a6
          have hk40 : s.t.k ≠ 40 := fun e => by rw [e, bnd_40] at hbp; cases hbp
          have hk109 : s.t.k ≠ 109 := fun e => c2 (Or.inr e)
          generalize clsTo (opL s.t.k) s.op s.c = q at a1 a2 a3 a4 a5 hst
          obtain ⟨o, c⟩ := q
          simp only at a1 a2 a3 a4 a5 hst
          refine ⟨a1.push hbp hst, ?_, Or.inl hne, ?_, ?_, h6.nx, a5⟩
          · show par o + (if s.t.k = 40 then 1 else 0) = s.ne
            rw [if_neg hk40, a3, h2]; rfl
          · show hgt c = some (binO o + (if s.t.k = 40 ∨ s.t.k = 109 then 0 else 1) + (if (!isPt s.t.k) = true then 0 else 1))
            rw [if_neg (by omega), isPt_op hbp, a2]; rfl
          · show c.length + (o.length + 1) ≤ (nxt f n s.t.af).pl
            omega
