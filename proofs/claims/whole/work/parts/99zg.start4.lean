/-- the heap's numbers behind the constructors -/
def g0 : G2 := fun i k =>
  if i = 0 then (if k = 2 then nI 18 else 0)
  else if i = 1 then (if k = 0 then nI 5 else if k = 3 then -1 else 0)
  else if i = 31 then (if k = 10 then -1 else 0)
  else if i = 41 then (if k = 10 then -1 else 0)
  else if i = 51 then (if k = 10 then -1 else 0)
  else if i = 84 then (if k = 24 then -1 else if k = 44 then -1 else 0)
  else 0
/-- no town yet -/
def tw0 : TD := (0, 0, 0, 0, fun _ _ => 0)
def lf0 : LfS := (0, 0, fun _ _ => 0)
def fs0 : FS := (lf0, 0, fun _ => lf0, 0, fun _ _ => 0)
def st0W : WS := (tw0, fs0, false, fs0, 0, fun _ => 0, -1)
theorem CR_0 : CR g0 st0W := by
  refine ⟨18, 5, Or.inr rfl, Or.inl rfl, by decide, by decide +kernel, by decide +kernel, ?_, ⟨?_, ⟨by decide +kernel, fun i h => absurd h (Nat.not_lt_zero _)⟩, ⟨by decide +kernel, fun i h => absurd h (Nat.not_lt_zero _), fun i h => absurd h (Nat.not_lt_zero _)⟩, ?_⟩, by decide +kernel, (fun h => by cases h), ⟨by decide +kernel, fun i h => absurd h (Nat.not_lt_zero _)⟩, by decide +kernel⟩
  · exact ⟨by decide +kernel, by decide, fun i h => absurd h (Nat.not_lt_zero _), fun i h => absurd h (Nat.not_lt_zero _), fun i h => absurd h (Nat.not_lt_zero _), fun i h => absurd h (Nat.not_lt_zero _), by decide +kernel, by decide, fun i h => absurd h (Nat.not_lt_zero _), by decide +kernel, by decide, fun i h => absurd h (Nat.not_lt_zero _), fun i h => absurd h (Nat.not_lt_zero _)⟩
  · have h5 : ∀ j, j < 5 → g0 31 (4 + j) = 0 := by decide +kernel
    exact ⟨by decide +kernel, by decide, fun i h => absurd h (Nat.not_lt_zero _), fun i h => absurd h (Nat.not_lt_zero _), fun i h => absurd h (Nat.not_lt_zero _), h5, fun i h => absurd h (Nat.not_lt_zero _), fun i h => absurd h (Nat.not_lt_zero _), by decide +kernel, by decide, fun i h => absurd h (Nat.not_lt_zero _), fun i h => absurd h (Nat.not_lt_zero _), by decide +kernel, fun i h => absurd h (Nat.not_lt_zero _), fun i h => absurd h (Nat.not_lt_zero _)⟩
  · have h3 : ∀ j, j < 3 → g0 71 j = 0 := by decide +kernel
    exact h3
theorem MR_0 : MR g0 st0W := by
  have h3 : ∀ j, j < 3 → g0 96 j = 0 := by decide +kernel
  refine ⟨?_, ⟨?_, by decide +kernel, fun i h => absurd h (Nat.not_lt_zero _), by decide +kernel, ⟨fun i h => absurd h (Nat.not_lt_zero _), fun i h => absurd h (Nat.not_lt_zero _)⟩, h3⟩, by decide +kernel, by decide +kernel, (fun h => by cases h), ⟨by decide +kernel, fun i h => absurd h (Nat.not_lt_zero _)⟩, by decide +kernel⟩
  · exact ⟨by decide +kernel, by decide, by decide +kernel, by decide, by decide +kernel, by decide, fun i h => absurd h (Nat.not_lt_zero _), fun i h => absurd h (Nat.not_lt_zero _), fun i h => absurd h (Nat.not_lt_zero _), fun i h => absurd h (Nat.not_lt_zero _), fun i h => absurd h (Nat.not_lt_zero _)⟩
  · exact ⟨by decide +kernel, by decide, fun i h => absurd h (Nat.not_lt_zero _), fun i h => absurd h (Nat.not_lt_zero _), fun i h => absurd h (Nat.not_lt_zero _), by decide +kernel, by decide +kernel, by decide +kernel, by decide +kernel, by decide +kernel, fun i h => absurd h (Nat.not_lt_zero _), fun i h => absurd h (Nat.not_lt_zero _), by decide +kernel, by decide, fun i h => absurd h (Nat.not_lt_zero _), fun i h => absurd h (Nat.not_lt_zero _)⟩
theorem OKs_0 : OKs st0W := by
  have hL : okL tw0 lf0 := ⟨⟨by decide, fun i h => absurd h (Nat.not_lt_zero _), fun i h => absurd h (Nat.not_lt_zero _), fun i h => absurd h (Nat.not_lt_zero _)⟩, fun i h => absurd h (Nat.not_lt_zero _), ⟨0, by decide, by decide +kernel⟩, ⟨0, by decide, by decide +kernel⟩, by decide⟩
  refine ⟨⟨by decide, fun ask => ⟨fun k h => absurd h (Nat.not_lt_zero _), fun h => absurd h (Nat.not_lt_zero _)⟩, fun i h => absurd h (Nat.not_lt_zero _)⟩, ⟨by decide, by decide, fun i h => ?_, fun i h => absurd h (Nat.not_lt_zero _), fun i h => absurd h (Nat.not_lt_zero _)⟩, (fun h => by cases h), by decide⟩
  have hi : i = 0 := Nat.le_zero.mp h
  rw [hi]
  exact hL
