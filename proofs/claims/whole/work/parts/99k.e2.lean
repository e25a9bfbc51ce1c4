theorem owL_e2 {P : Nat → Bool} {f : Nat → Int32} : ∀ (k i j : Nat), (owL P f k i j).1 ≠ 2 := by
  intro k
  induction k with
  | zero => intro i j; unfold owL; intro q; cases q
  | succ k ih => intro i j; unfold owL; (repeat' split) <;> first | exact ih _ _ | (intro q; cases q)
theorem e2_count {T : TD} {S : LfS} {a b c : Int32} {u : Nat → Int32} {w : Int32} : (couM T S a b c u w).1 ≠ 2 := by
  have i2 : ∀ {c : Prop} [Decidable c] {a b : Nat × Int32}, a.1 ≠ 2 → b.1 ≠ 2 → (if c then a else b).1 ≠ 2 := fun {c} _ {a b} h1 h2 => by
    by_cases q : c
    · rw [if_pos q]; exact h1
    · rw [if_neg q]; exact h2
  unfold couM
  repeat (refine i2 (fun q => by cases q) ?_)
  intro q; cases q
theorem e2_person {T : TD} {S : LfS} {x w : Int32} : (perM T S x w).1 ≠ 2 := by
  unfold perM
  (repeat' split) <;> (intro q; cases q)
theorem e2_feud {S : LfS} {x w : Int32} : (feuM S x w).1 ≠ 2 := by
  unfold feuM
  (repeat' split) <;> (intro q; cases q)
theorem e2_sign {S : LfS} {x w : Int32} : (sigM S x w).1 ≠ 2 := by
  unfold sigM
  (repeat' split) <;> (intro q; cases q)
theorem e2_other {T : TD} {x : Int32} : (othM T x).1 ≠ 2 := by
  unfold othM
  (repeat' split) <;> (intro q; cases q)
theorem e2_away {T : TD} {F : FS} {p : Int32} {b : Bool} : (awaM T F p b).1 ≠ 2 := by
  unfold awaM
  (repeat' split) <;> (intro q; cases q)
theorem e2_dies {T : TD} {F : FS} {p : Int32} : (dieM T F p).1 ≠ 2 := by
  unfold dieM
  (repeat' split) <;> (intro q; cases q)
theorem e2_marry {T : TD} {F : FS} {p q : Int32} : (marM T F p q).1 ≠ 2 := by
  unfold marM
  (repeat' split) <;> (intro q; cases q)
theorem e2_quarrel {T : TD} {F : FS} {p q : Int32} : (quaM T F p q).1 ≠ 2 := by
  unfold quaM
  (repeat' split) <;> (intro q; cases q)
theorem e2_again {S : LfS} {w : Int32} : (agaM S w).1 ≠ 2 := by
  unfold agaM
  (repeat' split) <;> (intro q; cases q)
theorem e2_interval {S : LfS} {w : Int32} : (itvM S w).1 ≠ 2 := by
  unfold itvM
  (repeat' split) <;> (intro q; cases q)
theorem e2_breath {S : LfS} {w : Int32} : (breM S w).1 ≠ 2 := by
  unfold breM
  (repeat' split) <;> (intro q; cases q)
theorem e2_like {T : TD} {S : LfS} {w : Int32} : (likM T S w).1 ≠ 2 := by
  unfold likM
  (repeat' split) <;> (intro q; cases q)
theorem e2_then {T : TD} {S : LfS} {w : Int32} : (theM T S w).1 ≠ 2 := by
  unfold theM
  (repeat' split) <;> (intro q; cases q)
theorem e2_when {T : TD} {S : LfS} {x w : Int32} : (wheM T S x w).1 ≠ 2 := by
  unfold wheM
  (repeat' split) <;> (intro q; cases q)
theorem e2_quiet {T : TD} {S : LfS} {w : Int32} : (quiM T S w).1 ≠ 2 := by
  unfold quiM
  (repeat' split) <;> (intro q; cases q)
theorem e2_spy {T : TD} {F : FS} {w : Int32} : (spyM T F w).1 ≠ 2 := by
  unfold spyM
  (repeat' split) <;> (intro q; cases q)
theorem e2_listen {T : TD} {F : FS} {w : Int32} : (lisM T F w).1 ≠ 2 := by
  unfold lisM
  (repeat' split) <;> (intro q; cases q)
theorem e2_own {T : TD} {S : LfS} {p i : Int32} : (ownM T S p i).1 ≠ 2 := by
  unfold ownM
  (repeat' split) <;> first | exact owL_e2 _ _ _ | (intro q; cases q)
theorem e2_town {s : WS} {x : Int32} : (twO s x).1 ≠ 2 := by
  unfold twO
  (repeat' split) <;> (intro q; cases q)
theorem KQ.mk {g : G2} {r : OR} {n1 : String} : KQ (fun w g' => w = some (.int r.2.1) ∧ r.1 = 0 ∧ CR g' r.2.2 ∧ HF g g') (fun Ex g' => ((Ex = n1 ∧ r.1 = 1) ∨ (Ex = iaN ∧ r.1 = 2)) ∧ CR g' r.2.2 ∧ HF g g') g r n1 :=
  ⟨fun h a b c => ⟨rfl, c, a, b⟩, fun h a b c => ⟨Or.inl ⟨rfl, c⟩, a, b⟩, fun h a b c => ⟨Or.inr ⟨rfl, c⟩, a, b⟩⟩
