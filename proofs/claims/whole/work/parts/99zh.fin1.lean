/-- n facts from i on -/
def allP (P : Nat → Prop) : Nat → Nat → Prop
  | 0, _ => True
  | n + 1, i => P i ∧ allP P n (i + 1)
theorem allP_at {P : Nat → Prop} : ∀ (n i : Nat), allP P n i → ∀ j, i ≤ j → j < i + n → P j
  | 0, i, _, j, h1, h2 => absurd h2 (by omega)
  | n + 1, i, h, j, h1, h2 => by
    by_cases e : j = i
    · rw [e]; exact h.1
    · exact allP_at n (i + 1) h.2 j (by omega) (by omega)
def posL : List Nat := [0, 1, 17, 15, 16, 2, 3, 4, 5, 6, 7, 8, 9, 10, 11, 12, 13, 14, 18, 19, 20, 21, 22, 23, 24, 25, 26, 27, 28, 29, 30, 31, 32, 33, 34, 35, 36, 37, 38, 39, 40, 64, 65, 66, 67, 68, 69, 70, 71, 72, 73, 48, 49, 50, 51, 52, 53, 54, 55, 56, 57, 41, 42, 58, 59, 43, 44, 45, 60, 61, 62, 46, 47, 63, 74, 75, 76, 77, 78, 79, 80, 81, 82, 83, 84, 85, 86, 87, 88, 89, 90, 91, 92, 93, 94, 95, 96, 97, 98, 99, 100, 101, 102, 103, 104, 105, 106, 107, 108, 109, 110, 111, 112, 113, 114, 115, 116, 117, 118, 119, 120, 121, 122, 123, 124, 125, 126]
def invL : List Nat := [0, 1, 5, 6, 7, 8, 9, 10, 11, 12, 13, 14, 15, 16, 17, 3, 4, 2, 18, 19, 20, 21, 22, 23, 24, 25, 26, 27, 28, 29, 30, 31, 32, 33, 34, 35, 36, 37, 38, 39, 40, 61, 62, 65, 66, 67, 71, 72, 51, 52, 53, 54, 55, 56, 57, 58, 59, 60, 63, 64, 68, 69, 70, 73, 41, 42, 43, 44, 45, 46, 47, 48, 49, 50, 74, 75, 76, 77, 78, 79, 80, 81, 82, 83, 84, 85, 86, 87, 88, 89, 90, 91, 92, 93, 94, 95, 96, 97, 98, 99, 100, 101, 102, 103, 104, 105, 106, 107, 108, 109, 110, 111, 112, 113, 114, 115, 116, 117, 118, 119, 120, 121, 122, 123, 124, 125, 126]
theorem posL_ok : ∀ i, i < 127 → nthN invL (nthN posL i 0) 0 = i ∧ nthN posL i 0 < 127 := by decide +kernel
theorem at_str {D : va_G} {cl : List vw_C} {a n : Nat} {cA : ClassId} {f f' : Nat → Option Nat} {H : Heap} (h : va_at D cl (a, .inl (cA, n, .inr (.inr (.inr (.inr f))))) H) (hf : ∀ j, j < n → f j = f' j) : va_at D cl (a, .inl (cA, n, .inr (.inr (.inr (.inr f'))))) H := by
  have e : vp_cell cA (n, .inr (.inr (.inr (.inr f)))) = vp_cell cA (n, .inr (.inr (.inr (.inr f')))) := by
    rw [vp_cell_q, vp_cell_q]
    unfold arrV
    congr 2
    funext j
    show va_rf (f j.val) = va_rf (f' j.val)
    rw [hf j.val j.isLt]
  show H[a]? = some (vp_cell cA (n, .inr (.inr (.inr (.inr f')))))
  rw [← e]
  exact h
/-- the addresses, in the order of the ids -/
def adE (E : En) (f1 f2 : Nat → Nat) : En := (fun i => if i < 84 then f1 (nthN posL i 0) else if i < 127 then f2 (nthN posL i 0 - 84) else E.1 i, E.2)
theorem adE_s {E : En} {f1 f2 : Nat → Nat} : ∀ n, 1000 ≤ n → (adE E f1 f2).1 n = E.1 n := fun n hn => by
  show (if n < 84 then f1 (nthN posL n 0) else if n < 127 then f2 (nthN posL n 0 - 84) else E.1 n) = E.1 n
  rw [if_neg (by omega), if_neg (by omega)]
abbrev wsA (E : En) (o : Nat) (cL : ClassId) (v : Nat → Int64) (f1 f2 : Nat → Nat) : va_W := ([] ++ t11 E f1) ++ t12 E f2 ++ [outC o cL v]
theorem fin_0 {E : En} {f1 f2 : Nat → Nat} {o : Nat} {cL : ClassId} {v : Nat → Int64} {H : Heap} (hP : va_P E.2.1 clsL (wsA E o cL v f1 f2) H) : allP (fun i => (∃ e, (wsA E o cL v f1 f2)[nthN posL i 0]? = some ((adE E f1 f2).1 i, e)) ∧ va_at E.2.1 clsL ((adE E f1 f2).1 i, cel (adE E f1 f2) g0 i) H) 16 0 := by
  refine ⟨⟨⟨_, rfl⟩, hP 0 _ rfl⟩, ⟨⟨_, rfl⟩, hP 1 _ rfl⟩, ⟨⟨_, rfl⟩, hP 17 _ rfl⟩, ⟨⟨_, rfl⟩, hP 15 _ rfl⟩, ⟨⟨_, rfl⟩, hP 16 _ rfl⟩, ⟨⟨_, rfl⟩, hP 2 _ rfl⟩, ⟨⟨_, rfl⟩, hP 3 _ rfl⟩, ⟨⟨_, rfl⟩, hP 4 _ rfl⟩, ⟨⟨_, rfl⟩, hP 5 _ rfl⟩, ⟨⟨_, rfl⟩, hP 6 _ rfl⟩, ⟨⟨_, rfl⟩, hP 7 _ rfl⟩, ⟨⟨_, rfl⟩, hP 8 _ rfl⟩, ⟨⟨_, rfl⟩, hP 9 _ rfl⟩, ⟨⟨_, rfl⟩, hP 10 _ rfl⟩, ⟨⟨_, rfl⟩, hP 11 _ rfl⟩, ⟨⟨_, rfl⟩, hP 12 _ rfl⟩, trivial⟩
