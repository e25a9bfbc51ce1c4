/-! THE STATE that acts change: a life, how many acts, the lives ahead of them, what was heard (rows 0 places, 1 signs), the status (row 2) -/
abbrev FS : Type := LfS × Nat × (Nat → LfS) × Nat × G2
abbrev f_S (F : FS) : LfS := F.1
abbrev f_na (F : FS) : Nat := F.2.1
abbrev f_A (F : FS) : Nat → LfS := F.2.2.1
abbrev f_nh (F : FS) : Nat := F.2.2.2.1
abbrev f_g (F : FS) : G2 := F.2.2.2.2
def f_at (F : FS) (i : Nat) : LfS := if i = f_na F then f_S F else f_A F i
def actR (T : TD) (r : Nat → Int32) (S0 S1 : LfS) : Prop := okA T r S1 ∧ eqS T (unM r S1) S0
def RCa (g : G2) (b : Nat) (T : TD) (F : FS) : Prop := g b 1 = nI (f_na F) ∧ ∀ i, i < f_na F → actR T (fun j => g (b + 1) (4 * i + j)) (f_A F i) (f_at F (i + 1))
def RCh (g : G2) (c : Nat) (F : FS) : Prop := g c 2 = nI (f_nh F) ∧ (∀ i, i < f_nh F → g (c + 1) i = f_g F 0 i) ∧ (∀ i, i < f_nh F → g (c + 2) i = f_g F 1 i)
def RCu (g : G2) (z : Nat) (F : FS) : Prop := ∀ i, i < 3 → g z i = f_g F 2 i
def RCf (g : G2) (a b c z : Nat) (T : TD) (F : FS) : Prop := RLf g a T (-1) (f_S F) ∧ RCa g b T F ∧ RCh g c F ∧ RCu g z F
def preL (S R : LfS) : Prop := l_n S ≤ l_n R ∧ ∀ c, c < 3 → ∀ i, i < l_n S → l_g S c i = l_g R c i
theorem preL.rf (S : LfS) : preL S S := ⟨Nat.le_refl _, fun _ _ _ _ => rfl⟩
theorem preL.tr {S R K : LfS} (h1 : preL S R) (h2 : preL R K) : preL S K := ⟨Nat.le_trans h1.1 h2.1, fun c hc i hi => (h1.2 c hc i hi).trans (h2.2 c hc i (Nat.lt_of_lt_of_le hi h1.1))⟩
def okL (T : TD) (S : LfS) : Prop := okS T S ∧ baOK T S ∧ (∃ k, k < 12 ∧ l_g S 3 1 = nI k) ∧ (∃ m, m < 2 ^ t_n T ∧ l_g S 3 3 = nI m) ∧ l_fn S ≤ 6
def okF (T : TD) (F : FS) : Prop := f_na F ≤ 40 ∧ f_nh F ≤ 8 ∧ (∀ i, i ≤ f_na F → okL T (f_at F i)) ∧ (∀ i, i < f_na F → preL (f_at F i) (f_at F (i + 1))) ∧ (∀ i, i < f_nh F → ∃ p, p < 400 ∧ f_g F 0 i = nI p)
theorem f_at_S (F : FS) : f_at F (f_na F) = f_S F := if_pos rfl
theorem f_at_A {F : FS} {i : Nat} (h : i < f_na F) : f_at F i = f_A F i := if_neg (by omega)
theorem okF.S {T : TD} {F : FS} (h : okF T F) : okL T (f_S F) := by have := h.2.2.1 (f_na F) (Nat.le_refl _); rwa [f_at_S] at this
theorem okF.A {T : TD} {F : FS} (h : okF T F) {i : Nat} (hi : i < f_na F) : okL T (f_A F i) := by have := h.2.2.1 i (by omega); rwa [f_at_A hi] at this
theorem okF.pre {T : TD} {F : FS} (h : okF T F) : ∀ k i, i + k ≤ f_na F → preL (f_at F i) (f_at F (i + k))
  | 0, i, _ => preL.rf _
  | k + 1, i, hi => (okF.pre h k i (by omega)).tr (h.2.2.2.1 (i + k) (by omega))
def shF (F : FS) : Nat := if f_na F < 40 then 0 else 1
def pushF (F : FS) (R : LfS) : FS := (R, f_na F + 1 - shF F, (fun i => f_at F (i + shF F)), f_nh F, f_g F)
def refF (F : FS) (k : Nat) : FS := (f_S F, f_na F, f_A F, f_nh F, up2 (f_g F) 2 k (f_g F 2 k + 1))
def popF (F : FS) : FS := (f_A F (f_na F - 1), f_na F - 1, f_A F, f_nh F, f_g F)
theorem shF_ok {F : FS} (h : f_na F ≤ 40) : shF F ≤ f_na F ∧ f_na F + 1 - shF F ≤ 40 := by unfold shF; split <;> omega
theorem push_at {F : FS} {R : LfS} (h : f_na F ≤ 40) {i : Nat} (hi : i < f_na F + 1 - shF F) : f_at (pushF F R) i = f_at F (i + shF F) := if_neg (by show ¬ i = f_na F + 1 - shF F; omega)
theorem push_top (F : FS) (R : LfS) : f_at (pushF F R) (f_na F + 1 - shF F) = R := if_pos rfl
theorem actR_cg {T : TD} {r r2 : Nat → Int32} {S0 S1 : LfS} (h : actR T r S0 S1) (e : ∀ j, j < 4 → r2 j = r j) : actR T r2 S0 S1 := by
  unfold actR okA unM at *
  rw [e 0 (by decide), e 1 (by decide), e 2 (by decide), e 3 (by decide)]
  exact h
theorem RCa.push {g h : G2} {b : Nat} {T : TD} {F : FS} {R : LfS} (hA : RCa g b T F) (h40 : f_na F ≤ 40) (k1 : h b 1 = nI (f_na F + 1 - shF F)) (kc : ∀ i r, i < f_na F - shF F → r < 4 → h (b + 1) (4 * i + r) = g (b + 1) (4 * (i + shF F) + r)) (hn : actR T (fun j => h (b + 1) (4 * (f_na F - shF F) + j)) (f_S F) R) : RCa h b T (pushF F R) := by
  have hs := shF_ok h40
  refine ⟨k1, fun i hi => ?_⟩
  have hi : i < f_na F + 1 - shF F := hi
  show actR T _ (f_at F (i + shF F)) _
  by_cases e : i = f_na F - shF F
  · rw [show i + 1 = f_na F + 1 - shF F by omega, push_top, show i + shF F = f_na F by omega, f_at_S, e]; exact hn
  · rw [push_at h40 (by omega), f_at_A (by omega), show i + 1 + shF F = i + shF F + 1 by omega]
    exact actR_cg (hA.2 (i + shF F) (by omega)) (fun j hj => kc i j (by omega) hj)
theorem okF.push {T : TD} {F : FS} {R : LfS} (h : okF T F) (hR : okL T R) (hp : preL (f_S F) R) : okF T (pushF F R) := by
  have hs := shF_ok h.1
  refine ⟨hs.2, h.2.1, fun i hi => ?_, fun i hi => ?_, h.2.2.2.2⟩
  · have hi : i ≤ f_na F + 1 - shF F := hi
    by_cases e : i = f_na F + 1 - shF F
    · rw [e, push_top]; exact hR
    · rw [push_at h.1 (by omega)]; exact h.2.2.1 _ (by omega)
  · have hi : i < f_na F + 1 - shF F := hi
    rw [push_at h.1 hi]
    by_cases e : i = f_na F - shF F
    · rw [show i + 1 = f_na F + 1 - shF F by omega, push_top, show i + shF F = f_na F by omega, f_at_S]; exact hp
    · rw [push_at h.1 (by omega), show i + 1 + shF F = i + shF F + 1 by omega]; exact h.2.2.2.1 _ (by omega)
theorem okF.ref {T : TD} {F : FS} {k : Nat} (h : okF T F) : okF T (refF F k) := by
  refine ⟨h.1, h.2.1, h.2.2.1, h.2.2.2.1, fun i hi => ?_⟩
  obtain ⟨p, hp, e⟩ := h.2.2.2.2 i hi
  exact ⟨p, hp, by show up2 (f_g F) 2 k (f_g F 2 k + 1) 0 i = _; rw [up2_a _ _ _ _ (by decide)]; exact e⟩
theorem pop_at {F : FS} {i : Nat} (hi : i < f_na F) : f_at (popF F) i = f_at F i := by
  by_cases e : i = f_na F - 1
  · rw [f_at_A hi, e]; exact if_pos rfl
  · rw [f_at_A hi]; exact if_neg e
theorem okF.pop {T : TD} {F : FS} (h : okF T F) (h0 : 0 < f_na F) : okF T (popF F) := by
  have := h.1
  refine ⟨by show f_na F - 1 ≤ 40; omega, h.2.1, fun i hi => ?_, fun i hi => ?_, h.2.2.2.2⟩
  · have hi : i ≤ f_na F - 1 := hi
    rw [pop_at (by omega)]; exact h.2.2.1 i (by omega)
  · have hi : i < f_na F - 1 := hi
    rw [pop_at (by omega), pop_at (by omega)]; exact h.2.2.2.1 i (by omega)
theorem RCa.pop {g h : G2} {b : Nat} {T : TD} {F : FS} (hA : RCa g b T F) (h0 : 0 < f_na F) (k1 : h b 1 = nI (f_na F - 1)) (kc : h (b + 1) = g (b + 1)) : RCa h b T (popF F) := by
  refine ⟨k1, fun i hi => ?_⟩
  have hi : i < f_na F - 1 := hi
  rw [pop_at (by omega), kc]
  exact hA.2 i (by omega)
/-- what an act leaves of the class as it was -/
def FA (g h : G2) : Prop := ∀ y, ¬ scC y → ¬ (31 ≤ y ∧ y ≤ 40) → y ≠ 61 → y ≠ 62 → y ≠ 71 → h y = g y
theorem FA.rf (g : G2) : FA g g := fun _ _ _ _ _ _ => rfl
theorem FA.tr {g h k : G2} (h1 : FA g h) (h2 : FA h k) : FA g k := fun y a b c d e => (h2 y a b c d e).trans (h1 y a b c d e)
theorem RCa.cg {g h : G2} {b : Nat} {T : TD} {F : FS} (hA : RCa g b T F) (k1 : h b = g b) (kc : h (b + 1) = g (b + 1)) : RCa h b T F := by unfold RCa; rw [k1, kc]; exact hA
theorem RCh.cg {g h : G2} {c : Nat} {F : FS} (hA : RCh g c F) (k0 : h c = g c) (k1 : h (c + 1) = g (c + 1)) (k2 : h (c + 2) = g (c + 2)) : RCh h c F := by unfold RCh; rw [k0, k1, k2]; exact hA
theorem RCu.cg {g h : G2} {z : Nat} {F : FS} (hA : RCu g z F) (k0 : h z = g z) : RCu h z F := by unfold RCu; rw [k0]; exact hA
theorem RCu.ref {g : G2} {F : FS} {k : Nat} (hk : k < 3) (hA : RCu g 71 F) : RCu (up2 g 71 k (g 71 k + 1)) 71 (refF F k) := fun i hi => by
  show _ = up2 (f_g F) 2 k (f_g F 2 k + 1) 2 i
  by_cases e : i = k
  · subst e; rw [up2_s, up2_s, hA i hi]
  · rw [up2_k _ _ _ _ e, up2_k _ _ _ _ e, hA i hi]
theorem RCf.ref {g : G2} {T : TD} {F : FS} (hC : RCf g 31 61 65 71 T F) : RCf (up2 g 71 1 (g 71 1 + 1)) 31 61 65 71 T (refF F 1) :=
  ⟨hC.1.cg (fun k hk => up2_f _ _ _ _ (by omega)), hC.2.1.cg (up2_f _ _ _ _ (by decide)) (up2_f _ _ _ _ (by decide)), hC.2.2.1.cg (up2_f _ _ _ _ (by decide)) (up2_f _ _ _ _ (by decide)) (up2_f _ _ _ _ (by decide)), hC.2.2.2.ref (by decide)⟩
theorem FA.ref (g : G2) (k : Nat) (x : Int32) : FA g (up2 g 71 k x) := fun y _ _ _ _ e => up2_f _ _ _ _ e
/-- a life with one of the five numbers anew -/
def setS (S : LfS) (j : Nat) (x : Int32) : LfS := (l_n S, l_fn S, up2 (l_g S) 3 j x)
def wedS (S : LfS) (p o : Nat) : LfS := (l_n S, l_fn S, up2 (up2 (up2 (l_g S) 3 1 (byM (l_g S 3 1 + 7))) 4 o (l_g S 4 p)) 3 4 (l_g S 3 4 ||| (sbI (nI p) ||| sbI (nI o))))
def quaS (S : LfS) (p o : Int32) : LfS := (l_n S, l_fn S + 1, up2 (up2 (l_g S) 6 (l_fn S) p) 7 (l_fn S) o)
def peaS (S : LfS) (k : Nat) : LfS := (l_n S, l_fn S - 1, upA (upA (l_g S) 6 (rmF (l_g S 6) k)) 7 (rmF (l_g S 7) k))
