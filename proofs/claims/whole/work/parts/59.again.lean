def lcF (f : Nat → Int32) : Nat → Nat → Nat → Nat
  | 0, _, _ => 0
  | k + 1, i, j => if f i = f j then lcF f k (i + 1) (j + 1) + 1 else 0
/-- how many signs from i on are those from j on -/
def LC (f : Nat → Int32) (n i j : Nat) : Nat := lcF f (n - j) i j
theorem lcF_le (f : Nat → Int32) : ∀ k i j, lcF f k i j ≤ k
  | 0, _, _ => Nat.le_refl _
  | k + 1, i, j => by rw [lcF]; have := lcF_le f k (i + 1) (j + 1); split <;> omega
theorem LC_le (f : Nat → Int32) (n i j : Nat) : LC f n i j ≤ n := Nat.le_trans (lcF_le f _ i j) (by omega)
theorem LC_n (f : Nat → Int32) (n i : Nat) : LC f n i n = 0 := by unfold LC; rw [Nat.sub_self]; rfl
theorem LC_y {f : Nat → Int32} {n i j : Nat} (hj : j < n) (h : f i = f j) : LC f n i j = LC f n (i + 1) (j + 1) + 1 := by
  unfold LC; rw [show n - j = (n - (j + 1)) + 1 by omega, lcF, if_pos h]
theorem LC_z {f : Nat → Int32} {n i j : Nat} (hj : j < n) (h : ¬ f i = f j) : LC f n i j = 0 := by
  unfold LC; rw [show n - j = (n - (j + 1)) + 1 by omega, lcF, if_neg h]
theorem lcF_cg {f f2 : Nat → Int32} {n : Nat} (h : ∀ i, i < n → f i = f2 i) : ∀ k i j, j + k ≤ n → i ≤ j → lcF f k i j = lcF f2 k i j
  | 0, _, _, _, _ => rfl
  | k + 1, i, j, h1, h2 => by rw [lcF, lcF, h i (by omega), h j (by omega), lcF_cg h k (i + 1) (j + 1) (by omega) (by omega)]
theorem LC_cg {f f2 : Nat → Int32} {n : Nat} (h : ∀ i, i < n → f i = f2 i) {i j : Nat} (h1 : i ≤ j) (h2 : j ≤ n) : LC f n i j = LC f2 n i j := lcF_cg h _ i j (by omega) h1
def AGP (f : Nat → Int32) (n : Nat) (P : Nat → Nat → Prop) (L : Nat) (A : Int32) : Prop := (∀ i x, P i x → LC f n i x ≤ L) ∧ ((L = 0 ∧ A = -1) ∨ (0 < L ∧ ∃ a, A = nI a ∧ a < n ∧ (∃ x, P a x ∧ LC f n a x = L) ∧ ∀ i x, P i x → LC f n i x = L → a ≤ i))
def prA (n : Nat) (i x : Nat) : Prop := i < x ∧ x < n
theorem AGP.uq {f : Nat → Int32} {n L K : Nat} {P : Nat → Nat → Prop} {A B : Int32} (h1 : AGP f n P L A) (h2 : AGP f n P K B) : L = K ∧ A = B := by
  obtain ⟨a1, a2⟩ := h1
  obtain ⟨b1, b2⟩ := h2
  rcases a2 with ⟨rfl, rfl⟩ | ⟨p, a, rfl, _, ⟨x, hx, ex⟩, am⟩
  · rcases b2 with ⟨rfl, rfl⟩ | ⟨q, b, rfl, _, ⟨y, hy, ey⟩, bm⟩
    · exact ⟨rfl, rfl⟩
    · have := a1 b y hy; omega
  · rcases b2 with ⟨rfl, rfl⟩ | ⟨q, b, rfl, _, ⟨y, hy, ey⟩, bm⟩
    · have := b1 a x hx; omega
    · have e1 := a1 b y hy
      have e2 := b1 a x hx
      have e : L = K := by omega
      subst e
      have e3 := am b y hy ey
      have e4 := bm a x hx ex
      have e5 : a = b := by omega
      subst e5
      exact ⟨rfl, rfl⟩
theorem AGP.cg {f f2 : Nat → Int32} {n L : Nat} {P R : Nat → Nat → Prop} {A : Int32} (h : AGP f n P L A) (hf : ∀ i, i < n → f i = f2 i) (hP : ∀ i x, P i x ↔ R i x) (hb : ∀ i x, P i x → i ≤ x ∧ x ≤ n) : AGP f2 n R L A := by
  have e : ∀ i x, P i x → LC f n i x = LC f2 n i x := fun i x q => LC_cg hf (hb i x q).1 (hb i x q).2
  refine ⟨fun i x q => by rw [← e i x ((hP i x).mpr q)]; exact h.1 i x ((hP i x).mpr q), ?_⟩
  rcases h.2 with q | ⟨q, a, q1, q2, ⟨x, q3, q4⟩, q5⟩
  · exact Or.inl q
  · exact Or.inr ⟨q, a, q1, q2, ⟨x, (hP a x).mp q3, by rw [← e a x q3]; exact q4⟩, fun i y p1 p2 => q5 i y ((hP i y).mpr p1) (by rw [e i y ((hP i y).mpr p1)]; exact p2)⟩
noncomputable def agV (f : Nat → Int32) (n : Nat) : Nat × Int32 := Classical.epsilon (fun q => AGP f n (prA n) q.1 q.2)
theorem agV_eq {f : Nat → Int32} {n L : Nat} {A : Int32} (h : AGP f n (prA n) L A) : agV f n = (L, A) := by
  have := Classical.epsilon_spec (p := fun q : Nat × Int32 => AGP f n (prA n) q.1 q.2) ⟨(L, A), h⟩
  have e := AGP.uq this h
  exact Prod.ext e.1 e.2
noncomputable def agaM (S : LfS) (w : Int32) : Nat × Int32 := if inB w.toInt 0 1 then (0, if w = 0 then nI (agV (l_g S 0) (l_n S)).1 else (agV (l_g S 0) (l_n S)).2) else (1, 0)
theorem agaM_1 {S : LfS} {w : Int32} (h : inB w.toInt 0 1 = false) : agaM S w = (1, 0) := by unfold agaM; rw [h]; rfl
theorem agaM_0 {S : LfS} {w : Int32} (h : inB w.toInt 0 1 = true) : agaM S w = (0, if w = 0 then nI (agV (l_g S 0) (l_n S)).1 else (agV (l_g S 0) (l_n S)).2) := by unfold agaM; rw [h]; rfl
/-- the greatest of the first k -/
def mlM (f : Nat → Int32) (n p : Nat) : Nat → Nat
  | 0 => 0
  | k + 1 => if mlM f n p k < LC f n p (p + 1 + k) then LC f n p (p + 1 + k) else mlM f n p k
theorem mlM_le (f : Nat → Int32) (n p : Nat) : ∀ k, mlM f n p k ≤ n
  | 0 => Nat.zero_le _
  | k + 1 => by rw [mlM]; split; exact LC_le _ _ _ _; exact mlM_le f n p k
theorem mlM_ub (f : Nat → Int32) (n p : Nat) : ∀ k j, j < k → LC f n p (p + 1 + j) ≤ mlM f n p k
  | 0, j, h => absurd h (by omega)
  | k + 1, j, h => by
    rw [mlM]
    by_cases e : j = k
    · subst e; split <;> omega
    · have := mlM_ub f n p k j (by omega)
      split <;> omega
theorem mlM_ex (f : Nat → Int32) (n p : Nat) : ∀ k, 0 < mlM f n p k → ∃ j, j < k ∧ LC f n p (p + 1 + j) = mlM f n p k
  | 0, h => absurd h (Nat.lt_irrefl 0)
  | k + 1, h => by
    rw [mlM] at h ⊢
    by_cases e : mlM f n p k < LC f n p (p + 1 + k)
    · rw [if_pos e]; exact ⟨k, by omega, rfl⟩
    · rw [if_neg e] at h ⊢
      obtain ⟨j, h1, h2⟩ := mlM_ex f n p k h
      exact ⟨j, by omega, h2⟩
theorem mxN2 {a b : Nat} (ha : a < 2 ^ 31) (hb : b < 2 ^ 31) : (if nI a < nI b then nI b else nI a) = nI (if a < b then b else a) := by
  by_cases h : a < b
  · rw [if_pos h, if_pos (nI_lt h hb)]
  · rw [if_neg h, if_neg (nI_nlt (by omega) ha)]
/-- a place more, ahead of all that were looked at -/
theorem AGP.row {f : Nat → Int32} {n p L : Nat} {A : Int32} (hp : p < n) (h : AGP f n (fun i x => p + 1 ≤ i ∧ prA n i x) L A) : AGP f n (fun i x => p ≤ i ∧ prA n i x) (if 0 < mlM f n p (n - 1 - p) ∧ L ≤ mlM f n p (n - 1 - p) then mlM f n p (n - 1 - p) else L) (if 0 < mlM f n p (n - 1 - p) ∧ L ≤ mlM f n p (n - 1 - p) then nI p else A) := by
  have ub : ∀ x, prA n p x → LC f n p x ≤ mlM f n p (n - 1 - p) := fun x q => by
    have := mlM_ub f n p (n - 1 - p) (x - (p + 1)) (by unfold prA at q; omega)
    rwa [show p + 1 + (x - (p + 1)) = x by unfold prA at q; omega] at this
  by_cases c : 0 < mlM f n p (n - 1 - p) ∧ L ≤ mlM f n p (n - 1 - p)
  · rw [if_pos c, if_pos c]
    refine ⟨fun i x q => ?_, Or.inr ⟨c.1, p, rfl, hp, ?_, fun i x q _ => q.1⟩⟩
    · by_cases e : i = p
      · rw [e]; exact ub x (e ▸ q.2)
      · have := h.1 i x ⟨by omega, q.2⟩; omega
    · obtain ⟨j, j1, j2⟩ := mlM_ex f n p _ c.1
      exact ⟨p + 1 + j, ⟨Nat.le_refl _, by unfold prA; omega⟩, j2⟩
  · rw [if_neg c, if_neg c]
    refine ⟨fun i x q => ?_, ?_⟩
    · by_cases e : i = p
      · rw [e]; have := ub x (e ▸ q.2); omega
      · exact h.1 i x ⟨by omega, q.2⟩
    · rcases h.2 with q | ⟨q, a, q1, q2, ⟨x, q3, q4⟩, q5⟩
      · exact Or.inl q
      · refine Or.inr ⟨q, a, q1, q2, ⟨x, ⟨by omega, q3.2⟩, q4⟩, fun i y p1 p2 => ?_⟩
        by_cases e : i = p
        · rw [e] at p2 p1; have := ub y p1.2; omega
        · exact q5 i y ⟨by omega, p1.2⟩ p2
/-- a couple more -/
theorem AGP.one {f : Nat → Int32} {n i0 x0 L : Nat} {A : Int32} {P : Nat → Nat → Prop} (hi : i0 < n) (h : AGP f n P L A) : AGP f n (fun i x => P i x ∨ (i = i0 ∧ x = x0)) (if L < LC f n i0 x0 ∨ (LC f n i0 x0 = L ∧ 0 < LC f n i0 x0 ∧ nI i0 < A) then LC f n i0 x0 else L) (if L < LC f n i0 x0 ∨ (LC f n i0 x0 = L ∧ 0 < LC f n i0 x0 ∧ nI i0 < A) then nI i0 else A) ∨ ¬ n < 2 ^ 31 := by
  by_cases hn : n < 2 ^ 31
  · refine Or.inl ?_
    by_cases c : L < LC f n i0 x0 ∨ (LC f n i0 x0 = L ∧ 0 < LC f n i0 x0 ∧ nI i0 < A)
    · rw [if_pos c, if_pos c]
      refine ⟨fun i x q => ?_, Or.inr ⟨by omega, i0, rfl, hi, ⟨x0, Or.inr ⟨rfl, rfl⟩, rfl⟩, fun i x q e => ?_⟩⟩
      · rcases q with q | ⟨rfl, rfl⟩
        · have := h.1 i x q; omega
        · exact Nat.le_refl _
      · rcases q with q | ⟨rfl, _⟩
        · have h1 := h.1 i x q
          rcases c with c | ⟨c1, c2, c3⟩
          · omega
          · rcases h.2 with ⟨z, _⟩ | ⟨_, a, rfl, z2, _, z5⟩
            · omega
            · have := z5 i x q (by omega)
              have := (nI_ltI (by omega) (by omega)).mp c3
              omega
        · exact Nat.le_refl _
    · rw [if_neg c, if_neg c]
      refine ⟨fun i x q => ?_, ?_⟩
      · rcases q with q | ⟨rfl, rfl⟩
        · exact h.1 i x q
        · exact Nat.not_lt.mp (fun z => c (Or.inl z))
      · rcases h.2 with q | ⟨q, a, q1, q2, ⟨x, q3, q4⟩, q5⟩
        · exact Or.inl q
        · refine Or.inr ⟨q, a, q1, q2, ⟨x, Or.inl q3, q4⟩, fun i y p1 p2 => ?_⟩
          rcases p1 with p1 | ⟨rfl, rfl⟩
          · exact q5 i y p1 p2
          · rcases Nat.lt_or_ge i a with z | z
            · exact absurd (Or.inr ⟨p2, by omega, by rw [q1]; exact nI_lt z (by omega)⟩) c
            · exact z
  · exact Or.inr hn
theorem c_X11_meetLater {E : En} {d : Nat} {Q : QT} {X : XT} {g : G2} {n p : Nat} (hn : g 31 3 = nI n) (h4 : n ≤ 400) (hp : p < n) (h0 : ∀ x, p + 1 < x → x ≤ n → g 83 x = nI (LC (g 32) n (p + 1) x)) (h0n : g 83 n = 0) (hq : ∀ h, (∀ y, y ≠ 83 → h y = g y) → (∀ x, p + 1 ≤ x → x ≤ n → h 83 x = nI (LC (g 32) n p x)) → h 83 n = 0 → Q (some (.int (nI (mlM (g 32) n p (n - 1 - p))))) h) : M E md_X11_meetLater (d + 1) [.ref 0, .int (nI p)] g Q X := by
  refine M.of _ rfl rfl (Nat.le_of_ble_eq_true rfl) ?_
  have LP : ∀ k, k ≤ n - 1 - p → ∀ h, (∀ y, y ≠ 83 → h y = g y) → (∀ x, p + 1 ≤ x → x < p + 1 + k → h 83 x = nI (LC (g 32) n p x)) → (∀ x, p + 1 + k < x → x ≤ n → h 83 x = nI (LC (g 32) n (p + 1) x)) → h 83 n = 0 → B E md_X11_meetLater (d + 1) Q X 17 [(0, .ref 0), (1, .int (nI p)), (2, .int (nI (mlM (g 32) n p k))), (3, .int (g 32 p)), (4, .int (nI (p + 1 + k)))] [] h 0 := by
    refine lp_up (fun k hk ih h hF hA hB hN => ?_)
    have m1 := mlM_le (g 32) n p k
    have m2 := LC_le (g 32) n (p + 1) (p + 1 + k + 1)
    refine b_iload dX11_meetLater_17 rfl ?_
    refine b_aload_n dX11_meetLater_19 rfl rfl ?_
    refine b_getR (b := 31) lf_X11_33 rfl rfl dX11_meetLater_20 ?_
    refine b_getI lf_X11_140 (life_c is_life31) dX11_meetLater_23 ?_
    refine b_topE (y := nI n) (by rw [hF 31 (by decide)]; exact hn) ?_
    refine b_icmp_ge (tgt := 83) dX11_meetLater_26 (by decide) (fun h26 => ?_) (fun h26 => ?_)
    · have e26 : n ≤ (p + 1 + k) := nn_le (a := n) (b := (p + 1 + k)) (by omega) (by omega) h26
      have e : k = n - 1 - p := by omega
      subst e
      refine b_iload_n dX11_meetLater_83 rfl rfl ?_
      refine b_iret rfl (by decide) dX11_meetLater_84 ?_
      exact hq h hF (fun x x1 x2 => by
        rcases Nat.lt_or_ge x n with z | z
        · exact hA x x1 (by omega)
        · rw [show x = n by omega, hN, LC_n]; rfl) hN
    · have e26 : (p + 1 + k) < n := nn_nle (a := n) (b := (p + 1 + k)) (by omega) (by omega) h26
      refine b_aload_n dX11_meetLater_29 rfl rfl ?_
      refine b_getR (b := 83) lf_X11_82 rfl rfl dX11_meetLater_30 ?_
      refine b_iload dX11_meetLater_33 rfl ?_
      refine b_aload_n dX11_meetLater_35 rfl rfl ?_
      refine b_getR (b := 31) lf_X11_33 rfl rfl dX11_meetLater_36 ?_
      refine b_getR (b := 32) lf_X11_215 (life_c is_life31) (life_r0 is_life31) dX11_meetLater_39 ?_
      refine b_iload dX11_meetLater_42 rfl ?_
      refine b_ildN (j := p + 1 + k) dX11_meetLater_44 (rfl) (by rw [(life_n1 is_life31)]; omega) ?_
      rw [hF 32 (by decide)]
      refine b_iload_n dX11_meetLater_45 rfl rfl ?_
      refine b_icmp_ne (tgt := 63) dX11_meetLater_46 (by decide) (fun h46 => ?_) (fun h46 => ?_)
      · refine b_iconst (v := 0) dX11_meetLater_63 (by decide +kernel) ?_
        refine b_istN (j := p + 1 + k) dX11_meetLater_64 (rfl) (by show _ < 401; omega) ?_
        refine b_iload_n dX11_meetLater_65 rfl rfl ?_
        refine b_aload_n dX11_meetLater_66 rfl rfl ?_
        refine b_getR (b := 83) lf_X11_82 rfl rfl dX11_meetLater_67 ?_
        refine b_iload dX11_meetLater_70 rfl ?_
        refine b_ildN (j := p + 1 + k) dX11_meetLater_72 (rfl) (by show _ < 401; omega) ?_
        refine b_topE (by rw [up2_s]) ?_
        refine b_max dX11_meetLater_73 lc_X11_279 (by omega) (Nat.le_of_ble_eq_true rfl) (by decide) ?_
        refine b_topE (mxN2 (b := 0) (by omega) (by decide)) ?_
        refine b_istore_n (lv' := [(0, _), (1, _), (2, _), (3, _), (4, _)]) dX11_meetLater_76 rfl (by decide) rfl rfl ?_
        refine b_incN (j := p + 1 + k) (lv' := [(0, _), (1, _), (2, _), (3, _), (4, _)]) dX11_meetLater_77 rfl rfl (by decide) rfl rfl ?_
        refine b_goto (tgt := 17) dX11_meetLater_80 (by decide) ?_
        skip
        have hv : LC (g 32) n p (p + 1 + k) = 0 := LC_z e26 (fun q => h46 q.symm)
        have z := ih (k + 1) (by omega) (by omega) (up2 h 83 (p + 1 + k) (nI (LC (g 32) n p (p + 1 + k)))) (fun y hy => by rw [up2_f _ _ _ _ hy]; exact hF y hy) (fun x x1 x2 => ?_) (fun x x1 x2 => ?_) (by rw [up2_k _ _ _ _ (by omega)]; exact hN)
        · rw [mlM, hv] at z; exact z
        · by_cases e : x = p + 1 + k
          · rw [e, up2_s]
          · rw [up2_k _ _ _ _ e]; exact hA x x1 (by omega)
        · rw [up2_k _ _ _ _ (by omega)]; exact hB x (by omega) x2
      · refine b_aload_n dX11_meetLater_49 rfl rfl ?_
        refine b_getR (b := 83) lf_X11_82 rfl rfl dX11_meetLater_50 ?_
        refine b_iload dX11_meetLater_53 rfl ?_
        refine b_iconst (v := 1) dX11_meetLater_55 (by decide +kernel) ?_
        refine b_iadd dX11_meetLater_56 ?_
        refine b_topE (nI_add (p + 1 + k) 1) ?_
        refine b_ildN (j := (p + 1 + k + 1)) dX11_meetLater_57 (rfl) (by show _ < 401; omega) ?_
        refine b_topE (y := nI (LC (g 32) n (p + 1) (p + 1 + k + 1))) (hB _ (by omega) (by omega)) ?_
        refine b_iconst (v := 1) dX11_meetLater_58 (by decide +kernel) ?_
        refine b_iadd dX11_meetLater_59 ?_
        refine b_topE (nI_add (LC (g 32) n (p + 1) (p + 1 + k + 1)) 1) ?_
        refine b_goto (tgt := 64) dX11_meetLater_60 (by decide) ?_
        refine b_istN (j := p + 1 + k) dX11_meetLater_64 (rfl) (by show _ < 401; omega) ?_
        refine b_iload_n dX11_meetLater_65 rfl rfl ?_
        refine b_aload_n dX11_meetLater_66 rfl rfl ?_
        refine b_getR (b := 83) lf_X11_82 rfl rfl dX11_meetLater_67 ?_
        refine b_iload dX11_meetLater_70 rfl ?_
        refine b_ildN (j := p + 1 + k) dX11_meetLater_72 (rfl) (by show _ < 401; omega) ?_
        refine b_topE (by rw [up2_s]) ?_
        refine b_max dX11_meetLater_73 lc_X11_279 (by omega) (Nat.le_of_ble_eq_true rfl) (by decide) ?_
        refine b_topE (mxN2 (by omega) (by omega)) ?_
        refine b_istore_n (lv' := [(0, _), (1, _), (2, _), (3, _), (4, _)]) dX11_meetLater_76 rfl (by decide) rfl rfl ?_
        refine b_incN (j := p + 1 + k) (lv' := [(0, _), (1, _), (2, _), (3, _), (4, _)]) dX11_meetLater_77 rfl rfl (by decide) rfl rfl ?_
        refine b_goto (tgt := 17) dX11_meetLater_80 (by decide) ?_
        skip
        have hv : LC (g 32) n p (p + 1 + k) = LC (g 32) n (p + 1) (p + 1 + k + 1) + 1 := LC_y e26 h46.symm
        have z := ih (k + 1) (by omega) (by omega) (up2 h 83 (p + 1 + k) (nI (LC (g 32) n p (p + 1 + k)))) (fun y hy => by rw [up2_f _ _ _ _ hy]; exact hF y hy) (fun x x1 x2 => ?_) (fun x x1 x2 => ?_) (by rw [up2_k _ _ _ _ (by omega)]; exact hN)
        · rw [mlM, hv] at z; exact z
        · by_cases e : x = p + 1 + k
          · rw [e, up2_s]
          · rw [up2_k _ _ _ _ e]; exact hA x x1 (by omega)
        · rw [up2_k _ _ _ _ (by omega)]; exact hB x (by omega) x2
  refine b_iconst (v := 0) dX11_meetLater_0 (by decide +kernel) ?_
  refine b_istore_n (lv' := [(0, _), (1, _), (2, _)]) dX11_meetLater_1 rfl (by decide) rfl rfl ?_
  refine b_aload_n dX11_meetLater_2 rfl rfl ?_
  refine b_getR (b := 31) lf_X11_33 rfl rfl dX11_meetLater_3 ?_
  refine b_getR (b := 32) lf_X11_215 (life_c is_life31) (life_r0 is_life31) dX11_meetLater_6 ?_
  refine b_iload_n dX11_meetLater_9 rfl rfl ?_
  refine b_ildN (j := p) dX11_meetLater_10 (rfl) (by rw [(life_n1 is_life31)]; omega) ?_
  refine b_istore_n (lv' := [(0, _), (1, _), (2, _), (3, _)]) dX11_meetLater_11 rfl (by decide) rfl rfl ?_
  refine b_iload_n dX11_meetLater_12 rfl rfl ?_
  refine b_iconst (v := 1) dX11_meetLater_13 (by decide +kernel) ?_
  refine b_iadd dX11_meetLater_14 ?_
  refine b_topE (nI_add p 1) ?_
  refine b_istore (lv' := [(0, _), (1, _), (2, _), (3, _), (4, _)]) dX11_meetLater_15 (by decide) rfl rfl ?_
  exact LP 0 (Nat.zero_le _) g (fun _ _ => rfl) (fun x x1 x2 => absurd x2 (by omega)) (fun x x1 x2 => h0 x (by omega) x2) h0n
theorem FC.of83 {g h : G2} (hF : ∀ y, y ≠ 83 → h y = g y) : FC g h := fun y hy => hF y (by unfold scC at hy; omega)
theorem c_X11_again {E : En} {d : Nat} {Q : QT} {X : XT} {g : G2} {T : TD} {S : LfS} {sp : Int32} {w : Int32} (hR : RLf g 31 T sp S) (hq : ∀ h, FC g h → (agaM S w).1 = 0 → Q (some (.int (agaM S w).2)) h) (hx : ∀ h, FC g h → (agaM S w).1 = 1 → X nsN h) : M E md_X11_again (d + 7) [.ref 0, .int w] g Q X := by
  refine M.of _ rfl rfl (Nat.le_of_ble_eq_true rfl) ?_
  refine b_iload_n dX11_again_0 rfl rfl ?_
  refine b_iconst (v := 1) dX11_again_1 (by decide +kernel) ?_
  refine b_callS (As := [_, _]) (st := []) dX11_again_2 lk_X11_198 lm_X11_needWhat ls_X11_needWhat rfl rfl (Nat.le_of_ble_eq_true rfl) (Nat.le_refl _) (by decide) ?_
  refine c_X11_needWhat (fun hw => ?_) (fun hw => hx g (FC.rf g) (by rw [agaM_1 hw]))
  rw [agaM_0 hw] at hq
  have hn := hR.n
  have h4 := hR.le
  have hs := hR.sg
  generalize l_n S = n at hq hn h4 hs
  have LP : ∀ j, j ≤ n → ∀ h, (∀ y, y ≠ 83 → h y = g y) → (∀ x, j < x → x ≤ n → h 83 x = nI (LC (g 32) n j x)) → h 83 n = 0 → ∀ L A, AGP (g 32) n (fun i x => j ≤ i ∧ prA n i x) L A → L ≤ 400 → B E md_X11_again (d + 7) Q X 49 [(0, .ref 0), (1, .int w), (2, .int (nI L)), (3, .int A), (4, .int (bgI j))] [] h 1 := by
    refine lp_dn (fun j ih hj h hF hA hN L A hG hL => ?_)
    cases j with
    | zero =>
      show B E md_X11_again (d + 7) Q X 49 [(0, .ref 0), (1, .int w), (2, .int (nI L)), (3, .int A), (4, .int (-1))] [] h 1
      refine b_iload dX11_again_49 rfl ?_
      refine b_if_lt (tgt := 85) dX11_again_51 (by decide) (fun h51 => ?_) (fun h51 => ?_)
      · refine b_iload_n dX11_again_85 rfl rfl ?_
        refine b_if_ne (tgt := 93) dX11_again_86 (by decide) (fun h86 => ?_) (fun h86 => ?_)
        · refine b_iload_n dX11_again_93 rfl rfl ?_
          refine b_iret rfl (by decide) dX11_again_94 ?_
          have e9 := agV_eq (hG.cg hs (R := prA n) (fun i x => ⟨fun q => q.2, fun q => ⟨Nat.zero_le _, q⟩⟩) (fun i x q => by unfold prA at q; omega))
          have hq := hq h (FC.of83 hF) rfl
          rw [if_neg h86] at hq
          simp only [e9] at hq
          exact hq
        · refine b_iload_n dX11_again_89 rfl rfl ?_
          refine b_goto (tgt := 94) dX11_again_90 (by decide) ?_
          refine b_iret rfl (by decide) dX11_again_94 ?_
          have e9 := agV_eq (hG.cg hs (R := prA n) (fun i x => ⟨fun q => q.2, fun q => ⟨Nat.zero_le _, q⟩⟩) (fun i x q => by unfold prA at q; omega))
          have hq := hq h (FC.of83 hF) rfl
          rw [if_pos h86] at hq
          simp only [e9] at hq
          exact hq
      · exact absurd (show (-1 : Int32) < 0 from by decide +kernel) h51
    | succ j =>
      show B E md_X11_again (d + 7) Q X 49 [(0, .ref 0), (1, .int w), (2, .int (nI L)), (3, .int A), (4, .int (nI j))] [] h 1
      refine b_iload dX11_again_49 rfl ?_
      refine b_if_lt (tgt := 85) dX11_again_51 (by decide) (fun h51 => ?_) (fun h51 => ?_)
      · exact absurd h51 (nI_pos (by omega))
      · refine b_aload_n dX11_again_54 rfl rfl ?_
        refine b_iload dX11_again_55 rfl ?_
        refine b_callV (As := [_]) (st := []) dX11_again_57 lk_X11_276 lm_X11_meetLater lv_X11_meetLater rfl (by decide) rfl rfl rfl (Nat.le_of_ble_eq_true rfl) (Nat.le_refl _) (by decide) ?_
        refine c_X11_meetLater (by rw [hF 31 (by decide)]; exact hn) h4 (by omega) (fun x x1 x2 => by rw [hF 32 (by decide)]; exact hA x (by omega) x2) hN (fun h2 hF2 hA2 hN2 => ?_)
        rw [hF 32 (by decide)]
        have m1 := mlM_le (g 32) n j (n - 1 - j)
        refine b_istore (lv' := [(0, _), (1, _), (2, _), (3, _), (4, _), (5, _)]) dX11_again_60 (by decide) rfl rfl ?_
        refine b_iload dX11_again_62 rfl ?_
        refine b_if_le (tgt := 79) dX11_again_64 (by decide) (fun h64 => ?_) (fun h64 => ?_)
        · have e64 : (mlM (g 32) n j (n - 1 - j)) = 0 := Nat.le_zero.mp (nn_le (b := 0) (by omega) (by decide) h64)
          refine b_iinc (v := bgI j) (lv' := [(0, _), (1, _), (2, _), (3, _), (4, _), (5, _)]) dX11_again_79 rfl (bgI_dec _) (by decide) rfl rfl ?_
          refine b_goto (tgt := 49) dX11_again_82 (by decide) ?_
          refine b_take 5 ?_
          have hz := AGP.row (p := j) (by omega) hG
          rw [if_neg (fun q => by omega), if_neg (fun q => by omega)] at hz
          exact ih j (by omega) (by omega) h2 (fun y hy => by rw [hF2 y hy]; exact hF y hy) (fun x x1 x2 => by rw [hA2 x (by omega) x2, hF 32 (by decide)]) hN2 _ _ hz (by omega)
        · have e64 : 0 < (mlM (g 32) n j (n - 1 - j)) := nn_nle (b := 0) (by omega) (by decide) h64
          refine b_iload dX11_again_67 rfl ?_
          refine b_iload_n dX11_again_69 rfl rfl ?_
          refine b_icmp_lt (tgt := 79) dX11_again_70 (by decide) (fun h70 => ?_) (fun h70 => ?_)
          · have e70 : (mlM (g 32) n j (n - 1 - j)) < L := nn_lt (a := (mlM (g 32) n j (n - 1 - j))) (b := L) (by omega) (by omega) h70
            refine b_iinc (v := bgI j) (lv' := [(0, _), (1, _), (2, _), (3, _), (4, _), (5, _)]) dX11_again_79 rfl (bgI_dec _) (by decide) rfl rfl ?_
            refine b_goto (tgt := 49) dX11_again_82 (by decide) ?_
            refine b_take 5 ?_
            have hz := AGP.row (p := j) (by omega) hG
            rw [if_neg (fun q => by omega), if_neg (fun q => by omega)] at hz
            exact ih j (by omega) (by omega) h2 (fun y hy => by rw [hF2 y hy]; exact hF y hy) (fun x x1 x2 => by rw [hA2 x (by omega) x2, hF 32 (by decide)]) hN2 _ _ hz (by omega)
          · have e70 : L ≤ (mlM (g 32) n j (n - 1 - j)) := nn_nlt (a := (mlM (g 32) n j (n - 1 - j))) (b := L) (by omega) (by omega) h70
            refine b_iload dX11_again_73 rfl ?_
            refine b_istore_n (lv' := [(0, _), (1, _), (2, _), (3, _), (4, _), (5, _)]) dX11_again_75 rfl (by decide) rfl rfl ?_
            refine b_iload dX11_again_76 rfl ?_
            refine b_istore_n (lv' := [(0, _), (1, _), (2, _), (3, _), (4, _), (5, _)]) dX11_again_78 rfl (by decide) rfl rfl ?_
            refine b_iinc (v := bgI j) (lv' := [(0, _), (1, _), (2, _), (3, _), (4, _), (5, _)]) dX11_again_79 rfl (bgI_dec _) (by decide) rfl rfl ?_
            refine b_goto (tgt := 49) dX11_again_82 (by decide) ?_
            refine b_take 5 ?_
            have hz := AGP.row (p := j) (by omega) hG
            rw [if_pos (⟨by omega, by omega⟩ : 0 < mlM (g 32) n j (n - 1 - j) ∧ L ≤ mlM (g 32) n j (n - 1 - j)), if_pos (⟨by omega, by omega⟩ : 0 < mlM (g 32) n j (n - 1 - j) ∧ L ≤ mlM (g 32) n j (n - 1 - j))] at hz
            exact ih j (by omega) (by omega) h2 (fun y hy => by rw [hF2 y hy]; exact hF y hy) (fun x x1 x2 => by rw [hA2 x (by omega) x2, hF 32 (by decide)]) hN2 _ _ hz (by omega)
  have LZ : ∀ i, i ≤ n + 1 → ∀ h, (∀ y, y ≠ 83 → h y = g y) → (∀ x, x < i → h 83 x = 0) → B E md_X11_again (d + 7) Q X 12 [(0, .ref 0), (1, .int w), (2, .int 0), (3, .int (-1)), (4, .int (nI i))] [] h 1 := by
    refine lp_up (fun i hi ih h hF hz => ?_)
    refine b_iload dX11_again_12 rfl ?_
    refine b_aload_n dX11_again_14 rfl rfl ?_
    refine b_getR (b := 31) lf_X11_33 rfl rfl dX11_again_15 ?_
    refine b_getI lf_X11_140 (life_c is_life31) dX11_again_18 ?_
    refine b_topE (y := nI n) (by rw [hF 31 (by decide)]; exact hn) ?_
    refine b_icmp_gt (tgt := 38) dX11_again_21 (by decide) (fun h21 => ?_) (fun h21 => ?_)
    · have e21 : n < i := nn_lt (a := n) (b := i) (by omega) (by omega) h21
      refine b_aload_n dX11_again_38 rfl rfl ?_
      refine b_getR (b := 31) lf_X11_33 rfl rfl dX11_again_39 ?_
      refine b_getI lf_X11_140 (life_c is_life31) dX11_again_42 ?_
      refine b_topE (y := nI n) (by rw [hF 31 (by decide)]; exact hn) ?_
      refine b_iconst (v := 1) dX11_again_45 (by decide +kernel) ?_
      refine b_isub dX11_again_46 ?_
      refine b_istore (lv' := [(0, _), (1, _), (2, _), (3, _), (4, _)]) dX11_again_47 (by decide) rfl rfl ?_
      rw [bgI_sub]
      exact LP n (Nat.le_refl _) h hF (fun x x1 x2 => absurd x1 (by omega)) (hz n (by omega)) 0 (-1) ⟨fun i x q => absurd q.2.2 (by unfold prA at q; omega), Or.inl ⟨rfl, rfl⟩⟩ (by omega)
    · have e21 : i ≤ n := nn_nlt (a := n) (b := i) (by omega) (by omega) h21
      refine b_aload_n dX11_again_24 rfl rfl ?_
      refine b_getR (b := 83) lf_X11_82 rfl rfl dX11_again_25 ?_
      refine b_iload dX11_again_28 rfl ?_
      refine b_iconst (v := 0) dX11_again_30 (by decide +kernel) ?_
      refine b_istN (j := i) dX11_again_31 (rfl) (by show _ < 401; omega) ?_
      refine b_incN (j := i) (lv' := [(0, _), (1, _), (2, _), (3, _), (4, _)]) dX11_again_32 rfl rfl (by decide) rfl rfl ?_
      refine b_goto (tgt := 12) dX11_again_35 (by decide) ?_
      refine ih (i + 1) (by omega) (by omega) _ (fun y hy => by rw [up2_f _ _ _ _ hy]; exact hF y hy) (fun x hx => ?_)
      by_cases e : x = i
      · rw [e, up2_s]
      · rw [up2_k _ _ _ _ e]; exact hz x (by omega)
  refine b_iconst (v := 0) dX11_again_5 (by decide +kernel) ?_
  refine b_istore_n (lv' := [(0, _), (1, _), (2, _)]) dX11_again_6 rfl (by decide) rfl rfl ?_
  refine b_iconst (v := (-1)) dX11_again_7 (by decide +kernel) ?_
  refine b_istore_n (lv' := [(0, _), (1, _), (2, _), (3, _)]) dX11_again_8 rfl (by decide) rfl rfl ?_
  refine b_iconst (v := 0) dX11_again_9 (by decide +kernel) ?_
  refine b_istore (lv' := [(0, _), (1, _), (2, _), (3, _), (4, _)]) dX11_again_10 (by decide) rfl rfl ?_
  exact LZ 0 (Nat.zero_le _) g (fun _ _ => rfl) (fun x hx => absurd hx (by omega))
theorem c_X12_tellAgain {E : En} {d : Nat} {Q : QT} {X : XT} {g : G2} {n : Nat} (hn : g 84 32 = nI n) (h4 : n ≤ 400) (hq : ∀ h, (∀ y, y ≠ 84 → h y = g y) → (∀ k, k ≠ 46 → k ≠ 47 → h 84 k = g 84 k) → ∀ L A, AGP (g 104) n (prA n) L A → h 84 46 = nI L → h 84 47 = A → L ≤ 400 → Q none h) : M E md_X12_tellAgain (d + 1) [.ref 84] g Q X := by
  refine M.of _ rfl rfl (Nat.le_of_ble_eq_true rfl) ?_
  have LO : ∀ f, f ≤ n + 1 → 1 ≤ f → ∀ h L A, AGP (g 104) n (fun i x => prA n i x ∧ x - i < f) L A → (∀ y, y ≠ 84 → h y = g y) → (∀ k, k ≠ 46 → k ≠ 47 → h 84 k = g 84 k) → h 84 46 = nI L → h 84 47 = A → L ≤ 400 → B E md_X12_tellAgain (d + 1) Q X 12 [(0, .ref 84), (1, .int (nI f))] [] h 0 := by
    refine lp_up (fun f hf ihO h1f h L A hG hF hK hL hA h40 => ?_)
    have IN : f < n → ∀ j, j + f ≤ n → ∀ h L A, AGP (g 104) n (fun i x => prA n i x ∧ (x - i < f ∨ (x - i = f ∧ j ≤ i))) L A → (∀ y, y ≠ 84 → h y = g y) → (∀ k, k ≠ 46 → k ≠ 47 → h 84 k = g 84 k) → h 84 46 = nI L → h 84 47 = A → L ≤ 400 → B E md_X12_tellAgain (d + 1) Q X 31 [(0, .ref 84), (1, .int (nI f)), (2, .int (nI (LC (g 104) n j (j + f)))), (3, .int (bgI j))] [] h 0 := by
      intro hfn
      refine lp_dn (fun j ih hj h L A hG hF hK hL hA h40 => ?_)
      cases j with
      | zero =>
        show B E md_X12_tellAgain (d + 1) Q X 31 [(0, .ref 84), (1, .int (nI f)), (2, .int (nI (LC (g 104) n 0 (0 + f)))), (3, .int (-1))] [] h 0
        refine b_iload_n dX12_tellAgain_31 rfl rfl ?_
        refine b_if_lt (tgt := 104) dX12_tellAgain_32 (by decide) (fun h32 => ?_) (fun h32 => ?_)
        · refine b_incN (j := f) (lv' := [(0, _), (1, _), (2, _), (3, _)]) dX12_tellAgain_104 rfl rfl (by decide) rfl rfl ?_
          refine b_goto (tgt := 12) dX12_tellAgain_107 (by decide) ?_
          refine b_take 2 ?_
          exact ihO (f + 1) (by omega) (by omega) (by omega) h L A (hG.cg (fun _ _ => rfl) (fun i x => by unfold prA; omega) (fun i x q => by unfold prA at q; omega)) hF hK hL hA h40
        · exact absurd (show (-1 : Int32) < 0 from by decide +kernel) h32
      | succ j =>
        show B E md_X12_tellAgain (d + 1) Q X 31 [(0, .ref 84), (1, .int (nI f)), (2, .int (nI (LC (g 104) n (j + 1) (j + 1 + f)))), (3, .int (nI j))] [] h 0
        have m1 := LC_le (g 104) n (j + 1) (j + 1 + f)
        refine b_iload_n dX12_tellAgain_31 rfl rfl ?_
        refine b_if_lt (tgt := 104) dX12_tellAgain_32 (by decide) (fun h32 => ?_) (fun h32 => ?_)
        · exact absurd h32 (nI_pos (by omega))
        · refine b_aload_n dX12_tellAgain_35 rfl rfl ?_
          refine b_getR (b := 104) lf_X12_93 rfl rfl dX12_tellAgain_36 ?_
          refine b_iload_n dX12_tellAgain_39 rfl rfl ?_
          refine b_ildN (j := j) dX12_tellAgain_40 (rfl) (by show _ < 400; omega) ?_
          rw [hF 104 (by decide)]
          refine b_aload_n dX12_tellAgain_41 rfl rfl ?_
          refine b_getR (b := 104) lf_X12_93 rfl rfl dX12_tellAgain_42 ?_
          refine b_iload_n dX12_tellAgain_45 rfl rfl ?_
          refine b_iload_n dX12_tellAgain_46 rfl rfl ?_
          refine b_iadd dX12_tellAgain_47 ?_
          refine b_topE (nI_add j f) ?_
          refine b_ildN (j := (j + f)) dX12_tellAgain_48 (rfl) (by show _ < 400; omega) ?_
          rw [hF 104 (by decide)]
          refine b_icmp_ne (tgt := 58) dX12_tellAgain_49 (by decide) (fun h49 => ?_) (fun h49 => ?_)
          · refine b_iconst (v := 0) dX12_tellAgain_58 (by decide +kernel) ?_
            refine b_istore_n (lv' := [(0, _), (1, _), (2, _), (3, _)]) dX12_tellAgain_59 rfl (by decide) rfl rfl ?_
            refine b_iload_n dX12_tellAgain_60 rfl rfl ?_
            refine b_aload_n dX12_tellAgain_61 rfl rfl ?_
            refine b_getI lf_X12_430 rfl dX12_tellAgain_62 ?_
            refine b_topE (y := nI L) (hL) ?_
            refine b_icmp_gt (tgt := 88) dX12_tellAgain_65 (by decide) (fun h65 => ?_) (fun h65 => ?_)
            · have e65 : L < 0 := nn_lt (a := L) (b := 0) (by omega) (by omega) h65
              refine b_aload_n dX12_tellAgain_88 rfl rfl ?_
              refine b_iload_n dX12_tellAgain_89 rfl rfl ?_
              refine b_putI lf_X12_430 lp_12_46 rfl dX12_tellAgain_90 ?_
              refine b_aload_n dX12_tellAgain_93 rfl rfl ?_
              refine b_iload_n dX12_tellAgain_94 rfl rfl ?_
              refine b_putI lf_X12_433 lp_12_47 rfl dX12_tellAgain_95 ?_
              refine b_iinc (v := bgI j) (lv' := [(0, _), (1, _), (2, _), (3, _)]) dX12_tellAgain_98 rfl (bgI_dec _) (by decide) rfl rfl ?_
              refine b_goto (tgt := 31) dX12_tellAgain_101 (by decide) ?_
              exact absurd e65 (by omega)
            · have e65 : 0 ≤ L := nn_nlt (a := L) (b := 0) (by omega) (by omega) h65
              refine b_iload_n dX12_tellAgain_68 rfl rfl ?_
              refine b_aload_n dX12_tellAgain_69 rfl rfl ?_
              refine b_getI lf_X12_430 rfl dX12_tellAgain_70 ?_
              refine b_topE (y := nI L) (hL) ?_
              refine b_icmp_ne (tgt := 98) dX12_tellAgain_73 (by decide) (fun h73 => ?_) (fun h73 => ?_)
              · have e73 : 0 ≠ L := fun q => h73 (congrArg nI q)
                refine b_iinc (v := bgI j) (lv' := [(0, _), (1, _), (2, _), (3, _)]) dX12_tellAgain_98 rfl (bgI_dec _) (by decide) rfl rfl ?_
                refine b_goto (tgt := 31) dX12_tellAgain_101 (by decide) ?_
                have hv : LC (g 104) n j (j + f) = 0 := LC_z (by omega) h49
                have hz := (AGP.one (i0 := j) (x0 := j + f) (by omega) hG).resolve_right (fun q => q (by omega))
                rw [if_neg (by rw [hv]; exact fun q => q.elim (fun q => absurd q (by omega)) (fun q => e73 q.1)), if_neg (by rw [hv]; exact fun q => q.elim (fun q => absurd q (by omega)) (fun q => e73 q.1))] at hz
                have hz := hz.cg (f2 := g 104) (R := fun i x => prA n i x ∧ (x - i < f ∨ (x - i = f ∧ j ≤ i))) (fun _ _ => rfl) (fun i x => by unfold prA; omega) (fun i x q => by unfold prA at q; omega)
                have m2 := LC_le (g 104) n j (j + f)
                skip
                have zz := ih j (by omega) (by omega) _ _ _ hz hF hK hL hA h40
                rw [hv] at zz
                exact zz
              · have e73 : 0 = L := nI_inj (a := 0) (b := L) (by omega) (by omega) h73
                refine b_iload_n dX12_tellAgain_76 rfl rfl ?_
                refine b_if_le (tgt := 98) dX12_tellAgain_77 (by decide) (fun h77 => ?_) (fun h77 => ?_)
                · refine b_iinc (v := bgI j) (lv' := [(0, _), (1, _), (2, _), (3, _)]) dX12_tellAgain_98 rfl (bgI_dec _) (by decide) rfl rfl ?_
                  refine b_goto (tgt := 31) dX12_tellAgain_101 (by decide) ?_
                  have hv : LC (g 104) n j (j + f) = 0 := LC_z (by omega) h49
                  have hz := (AGP.one (i0 := j) (x0 := j + f) (by omega) hG).resolve_right (fun q => q (by omega))
                  rw [if_neg (by rw [hv]; exact fun q => q.elim (fun q => absurd q (by omega)) (fun q => absurd q.2.1 (by omega))), if_neg (by rw [hv]; exact fun q => q.elim (fun q => absurd q (by omega)) (fun q => absurd q.2.1 (by omega)))] at hz
                  have hz := hz.cg (f2 := g 104) (R := fun i x => prA n i x ∧ (x - i < f ∨ (x - i = f ∧ j ≤ i))) (fun _ _ => rfl) (fun i x => by unfold prA; omega) (fun i x q => by unfold prA at q; omega)
                  have m2 := LC_le (g 104) n j (j + f)
                  skip
                  have zz := ih j (by omega) (by omega) _ _ _ hz hF hK hL hA h40
                  rw [hv] at zz
                  exact zz
                · refine b_iload_n dX12_tellAgain_80 rfl rfl ?_
                  refine b_aload_n dX12_tellAgain_81 rfl rfl ?_
                  refine b_getI lf_X12_433 rfl dX12_tellAgain_82 ?_
                  refine b_icmp_ge (tgt := 98) dX12_tellAgain_85 (by decide) (fun h85 => ?_) (fun h85 => ?_)
                  · refine b_iinc (v := bgI j) (lv' := [(0, _), (1, _), (2, _), (3, _)]) dX12_tellAgain_98 rfl (bgI_dec _) (by decide) rfl rfl ?_
                    refine b_goto (tgt := 31) dX12_tellAgain_101 (by decide) ?_
                    have hv : LC (g 104) n j (j + f) = 0 := LC_z (by omega) h49
                    have hz := (AGP.one (i0 := j) (x0 := j + f) (by omega) hG).resolve_right (fun q => q (by omega))
                    rw [if_neg (by rw [hv]; exact fun q => q.elim (fun q => absurd q (by omega)) (fun q => absurd (hA ▸ h85) (Int32.not_le.mpr q.2.2))), if_neg (by rw [hv]; exact fun q => q.elim (fun q => absurd q (by omega)) (fun q => absurd (hA ▸ h85) (Int32.not_le.mpr q.2.2)))] at hz
                    have hz := hz.cg (f2 := g 104) (R := fun i x => prA n i x ∧ (x - i < f ∨ (x - i = f ∧ j ≤ i))) (fun _ _ => rfl) (fun i x => by unfold prA; omega) (fun i x q => by unfold prA at q; omega)
                    have m2 := LC_le (g 104) n j (j + f)
                    skip
                    have zz := ih j (by omega) (by omega) _ _ _ hz hF hK hL hA h40
                    rw [hv] at zz
                    exact zz
                  · refine b_aload_n dX12_tellAgain_88 rfl rfl ?_
                    refine b_iload_n dX12_tellAgain_89 rfl rfl ?_
                    refine b_putI lf_X12_430 lp_12_46 rfl dX12_tellAgain_90 ?_
                    refine b_aload_n dX12_tellAgain_93 rfl rfl ?_
                    refine b_iload_n dX12_tellAgain_94 rfl rfl ?_
                    refine b_putI lf_X12_433 lp_12_47 rfl dX12_tellAgain_95 ?_
                    refine b_iinc (v := bgI j) (lv' := [(0, _), (1, _), (2, _), (3, _)]) dX12_tellAgain_98 rfl (bgI_dec _) (by decide) rfl rfl ?_
                    refine b_goto (tgt := 31) dX12_tellAgain_101 (by decide) ?_
                    exact absurd (by decide) h77
          · refine b_iload_n dX12_tellAgain_52 rfl rfl ?_
            refine b_iconst (v := 1) dX12_tellAgain_53 (by decide +kernel) ?_
            refine b_iadd dX12_tellAgain_54 ?_
            refine b_topE (nI_add (LC (g 104) n (j + 1) (j + 1 + f)) 1) ?_
            refine b_goto (tgt := 59) dX12_tellAgain_55 (by decide) ?_
            refine b_istore_n (lv' := [(0, _), (1, _), (2, _), (3, _)]) dX12_tellAgain_59 rfl (by decide) rfl rfl ?_
            refine b_iload_n dX12_tellAgain_60 rfl rfl ?_
            refine b_aload_n dX12_tellAgain_61 rfl rfl ?_
            refine b_getI lf_X12_430 rfl dX12_tellAgain_62 ?_
            refine b_topE (y := nI L) (hL) ?_
            refine b_icmp_gt (tgt := 88) dX12_tellAgain_65 (by decide) (fun h65 => ?_) (fun h65 => ?_)
            · have e65 : L < ((LC (g 104) n (j + 1) (j + 1 + f) + 1)) := nn_lt (a := L) (b := ((LC (g 104) n (j + 1) (j + 1 + f) + 1))) (by omega) (by omega) h65
              refine b_aload_n dX12_tellAgain_88 rfl rfl ?_
              refine b_iload_n dX12_tellAgain_89 rfl rfl ?_
              refine b_putI lf_X12_430 lp_12_46 rfl dX12_tellAgain_90 ?_
              refine b_aload_n dX12_tellAgain_93 rfl rfl ?_
              refine b_iload_n dX12_tellAgain_94 rfl rfl ?_
              refine b_putI lf_X12_433 lp_12_47 rfl dX12_tellAgain_95 ?_
              refine b_iinc (v := bgI j) (lv' := [(0, _), (1, _), (2, _), (3, _)]) dX12_tellAgain_98 rfl (bgI_dec _) (by decide) rfl rfl ?_
              refine b_goto (tgt := 31) dX12_tellAgain_101 (by decide) ?_
              have hv : LC (g 104) n j (j + f) = LC (g 104) n (j + 1) (j + 1 + f) + 1 := by rw [LC_y (by omega) h49, show j + f + 1 = j + 1 + f by omega]
              have hz := (AGP.one (i0 := j) (x0 := j + f) (by omega) hG).resolve_right (fun q => q (by omega))
              rw [if_pos (by rw [hv]; exact Or.inl e65), if_pos (by rw [hv]; exact Or.inl e65)] at hz
              have hz := hz.cg (f2 := g 104) (R := fun i x => prA n i x ∧ (x - i < f ∨ (x - i = f ∧ j ≤ i))) (fun _ _ => rfl) (fun i x => by unfold prA; omega) (fun i x q => by unfold prA at q; omega)
              have m2 := LC_le (g 104) n j (j + f)
              rw [hv] at hz
              have zz := ih j (by omega) (by omega) (up2 (up2 h 84 46 (nI (LC (g 104) n (j + 1) (j + 1 + f) + 1))) 84 47 (nI j)) _ _ hz (fun y hy => by rw [up2_f _ _ _ _ hy, up2_f _ _ _ _ hy]; exact hF y hy) (fun k k1 k2 => by rw [up2_k _ _ _ _ k2, up2_k _ _ _ _ k1]; exact hK k k1 k2) (by rw [up2_k _ _ _ _ (by decide), up2_s]) (up2_s _ _ _ _) (by omega)
              rw [hv] at zz
              exact zz
            · have e65 : ((LC (g 104) n (j + 1) (j + 1 + f) + 1)) ≤ L := nn_nlt (a := L) (b := ((LC (g 104) n (j + 1) (j + 1 + f) + 1))) (by omega) (by omega) h65
              refine b_iload_n dX12_tellAgain_68 rfl rfl ?_
              refine b_aload_n dX12_tellAgain_69 rfl rfl ?_
              refine b_getI lf_X12_430 rfl dX12_tellAgain_70 ?_
              refine b_topE (y := nI L) (hL) ?_
              refine b_icmp_ne (tgt := 98) dX12_tellAgain_73 (by decide) (fun h73 => ?_) (fun h73 => ?_)
              · have e73 : ((LC (g 104) n (j + 1) (j + 1 + f) + 1)) ≠ L := fun q => h73 (congrArg nI q)
                refine b_iinc (v := bgI j) (lv' := [(0, _), (1, _), (2, _), (3, _)]) dX12_tellAgain_98 rfl (bgI_dec _) (by decide) rfl rfl ?_
                refine b_goto (tgt := 31) dX12_tellAgain_101 (by decide) ?_
                have hv : LC (g 104) n j (j + f) = LC (g 104) n (j + 1) (j + 1 + f) + 1 := by rw [LC_y (by omega) h49, show j + f + 1 = j + 1 + f by omega]
                have hz := (AGP.one (i0 := j) (x0 := j + f) (by omega) hG).resolve_right (fun q => q (by omega))
                rw [if_neg (by rw [hv]; exact fun q => q.elim (fun q => absurd q (by omega)) (fun q => e73 q.1)), if_neg (by rw [hv]; exact fun q => q.elim (fun q => absurd q (by omega)) (fun q => e73 q.1))] at hz
                have hz := hz.cg (f2 := g 104) (R := fun i x => prA n i x ∧ (x - i < f ∨ (x - i = f ∧ j ≤ i))) (fun _ _ => rfl) (fun i x => by unfold prA; omega) (fun i x q => by unfold prA at q; omega)
                have m2 := LC_le (g 104) n j (j + f)
                skip
                have zz := ih j (by omega) (by omega) _ _ _ hz hF hK hL hA h40
                rw [hv] at zz
                exact zz
              · have e73 : ((LC (g 104) n (j + 1) (j + 1 + f) + 1)) = L := nI_inj (a := ((LC (g 104) n (j + 1) (j + 1 + f) + 1))) (b := L) (by omega) (by omega) h73
                refine b_iload_n dX12_tellAgain_76 rfl rfl ?_
                refine b_if_le (tgt := 98) dX12_tellAgain_77 (by decide) (fun h77 => ?_) (fun h77 => ?_)
                · have e77 : ((LC (g 104) n (j + 1) (j + 1 + f) + 1)) = 0 := Nat.le_zero.mp (nn_le (b := 0) (by omega) (by decide) h77)
                  refine b_iinc (v := bgI j) (lv' := [(0, _), (1, _), (2, _), (3, _)]) dX12_tellAgain_98 rfl (bgI_dec _) (by decide) rfl rfl ?_
                  refine b_goto (tgt := 31) dX12_tellAgain_101 (by decide) ?_
                  have hv : LC (g 104) n j (j + f) = LC (g 104) n (j + 1) (j + 1 + f) + 1 := by rw [LC_y (by omega) h49, show j + f + 1 = j + 1 + f by omega]
                  have hz := (AGP.one (i0 := j) (x0 := j + f) (by omega) hG).resolve_right (fun q => q (by omega))
                  rw [if_neg (by rw [hv]; exact fun q => q.elim (fun q => absurd q (by omega)) (fun q => absurd q.2.1 (by omega))), if_neg (by rw [hv]; exact fun q => q.elim (fun q => absurd q (by omega)) (fun q => absurd q.2.1 (by omega)))] at hz
                  have hz := hz.cg (f2 := g 104) (R := fun i x => prA n i x ∧ (x - i < f ∨ (x - i = f ∧ j ≤ i))) (fun _ _ => rfl) (fun i x => by unfold prA; omega) (fun i x q => by unfold prA at q; omega)
                  have m2 := LC_le (g 104) n j (j + f)
                  skip
                  have zz := ih j (by omega) (by omega) _ _ _ hz hF hK hL hA h40
                  rw [hv] at zz
                  exact zz
                · have e77 : 0 < ((LC (g 104) n (j + 1) (j + 1 + f) + 1)) := nn_nle (b := 0) (by omega) (by decide) h77
                  refine b_iload_n dX12_tellAgain_80 rfl rfl ?_
                  refine b_aload_n dX12_tellAgain_81 rfl rfl ?_
                  refine b_getI lf_X12_433 rfl dX12_tellAgain_82 ?_
                  refine b_icmp_ge (tgt := 98) dX12_tellAgain_85 (by decide) (fun h85 => ?_) (fun h85 => ?_)
                  · refine b_iinc (v := bgI j) (lv' := [(0, _), (1, _), (2, _), (3, _)]) dX12_tellAgain_98 rfl (bgI_dec _) (by decide) rfl rfl ?_
                    refine b_goto (tgt := 31) dX12_tellAgain_101 (by decide) ?_
                    have hv : LC (g 104) n j (j + f) = LC (g 104) n (j + 1) (j + 1 + f) + 1 := by rw [LC_y (by omega) h49, show j + f + 1 = j + 1 + f by omega]
                    have hz := (AGP.one (i0 := j) (x0 := j + f) (by omega) hG).resolve_right (fun q => q (by omega))
                    rw [if_neg (by rw [hv]; exact fun q => q.elim (fun q => absurd q (by omega)) (fun q => absurd (hA ▸ h85) (Int32.not_le.mpr q.2.2))), if_neg (by rw [hv]; exact fun q => q.elim (fun q => absurd q (by omega)) (fun q => absurd (hA ▸ h85) (Int32.not_le.mpr q.2.2)))] at hz
                    have hz := hz.cg (f2 := g 104) (R := fun i x => prA n i x ∧ (x - i < f ∨ (x - i = f ∧ j ≤ i))) (fun _ _ => rfl) (fun i x => by unfold prA; omega) (fun i x q => by unfold prA at q; omega)
                    have m2 := LC_le (g 104) n j (j + f)
                    skip
                    have zz := ih j (by omega) (by omega) _ _ _ hz hF hK hL hA h40
                    rw [hv] at zz
                    exact zz
                  · refine b_aload_n dX12_tellAgain_88 rfl rfl ?_
                    refine b_iload_n dX12_tellAgain_89 rfl rfl ?_
                    refine b_putI lf_X12_430 lp_12_46 rfl dX12_tellAgain_90 ?_
                    refine b_aload_n dX12_tellAgain_93 rfl rfl ?_
                    refine b_iload_n dX12_tellAgain_94 rfl rfl ?_
                    refine b_putI lf_X12_433 lp_12_47 rfl dX12_tellAgain_95 ?_
                    refine b_iinc (v := bgI j) (lv' := [(0, _), (1, _), (2, _), (3, _)]) dX12_tellAgain_98 rfl (bgI_dec _) (by decide) rfl rfl ?_
                    refine b_goto (tgt := 31) dX12_tellAgain_101 (by decide) ?_
                    have hv : LC (g 104) n j (j + f) = LC (g 104) n (j + 1) (j + 1 + f) + 1 := by rw [LC_y (by omega) h49, show j + f + 1 = j + 1 + f by omega]
                    have hz := (AGP.one (i0 := j) (x0 := j + f) (by omega) hG).resolve_right (fun q => q (by omega))
                    rw [if_pos (by rw [hv]; exact Or.inr ⟨e73, e77, hA ▸ Int32.not_le.mp h85⟩), if_pos (by rw [hv]; exact Or.inr ⟨e73, e77, hA ▸ Int32.not_le.mp h85⟩)] at hz
                    have hz := hz.cg (f2 := g 104) (R := fun i x => prA n i x ∧ (x - i < f ∨ (x - i = f ∧ j ≤ i))) (fun _ _ => rfl) (fun i x => by unfold prA; omega) (fun i x q => by unfold prA at q; omega)
                    have m2 := LC_le (g 104) n j (j + f)
                    rw [hv] at hz
                    have zz := ih j (by omega) (by omega) (up2 (up2 h 84 46 (nI (LC (g 104) n (j + 1) (j + 1 + f) + 1))) 84 47 (nI j)) _ _ hz (fun y hy => by rw [up2_f _ _ _ _ hy, up2_f _ _ _ _ hy]; exact hF y hy) (fun k k1 k2 => by rw [up2_k _ _ _ _ k2, up2_k _ _ _ _ k1]; exact hK k k1 k2) (by rw [up2_k _ _ _ _ (by decide), up2_s]) (up2_s _ _ _ _) (by omega)
                    rw [hv] at zz
                    exact zz
    refine b_iload_n dX12_tellAgain_12 rfl rfl ?_
    refine b_aload_n dX12_tellAgain_13 rfl rfl ?_
    refine b_getI lf_X12_320 rfl dX12_tellAgain_14 ?_
    refine b_topE (y := nI n) (by rw [hK 32 (by decide) (by decide)]; exact hn) ?_
    refine b_icmp_ge (tgt := 110) dX12_tellAgain_17 (by decide) (fun h17 => ?_) (fun h17 => ?_)
    · have e17 : n ≤ f := nn_le (a := n) (b := f) (by omega) (by omega) h17
      refine b_vret rfl (by decide) dX12_tellAgain_110 ?_
      exact hq h hF hK L A (hG.cg (fun _ _ => rfl) (fun i x => by unfold prA; omega) (fun i x q => by unfold prA at q; omega)) hL hA h40
    · have e17 : f < n := nn_nle (a := n) (b := f) (by omega) (by omega) h17
      refine b_iconst (v := 0) dX12_tellAgain_20 (by decide +kernel) ?_
      refine b_istore_n (lv' := [(0, _), (1, _), (2, _)]) dX12_tellAgain_21 rfl (by decide) rfl rfl ?_
      refine b_aload_n dX12_tellAgain_22 rfl rfl ?_
      refine b_getI lf_X12_320 rfl dX12_tellAgain_23 ?_
      refine b_topE (y := nI n) (by rw [hK 32 (by decide) (by decide)]; exact hn) ?_
      refine b_iconst (v := 1) dX12_tellAgain_26 (by decide +kernel) ?_
      refine b_isub dX12_tellAgain_27 ?_
      refine b_topE (nI_sub n 1 (by omega)) ?_
      refine b_iload_n dX12_tellAgain_28 rfl rfl ?_
      refine b_isub dX12_tellAgain_29 ?_
      refine b_topE (y := bgI (n - f)) (by rw [nI_sub _ _ (by omega)]; obtain ⟨c, hc⟩ : ∃ c, n - f = c + 1 := ⟨n - f - 1, by omega⟩; rw [hc, show n - 1 - f = c by omega]; rfl) ?_
      refine b_istore_n (lv' := [(0, _), (1, _), (2, _), (3, _)]) dX12_tellAgain_30 rfl (by decide) rfl rfl ?_
      have z := IN e17 (n - f) (by omega) h L A (hG.cg (fun _ _ => rfl) (fun i x => by unfold prA; omega) (fun i x q => by unfold prA at q; omega)) hF hK hL hA h40
      rw [show n - f + f = n by omega, LC_n] at z
      exact z
  refine b_aload_n dX12_tellAgain_0 rfl rfl ?_
  refine b_iconst (v := 0) dX12_tellAgain_1 (by decide +kernel) ?_
  refine b_putI lf_X12_430 lp_12_46 rfl dX12_tellAgain_2 ?_
  refine b_aload_n dX12_tellAgain_5 rfl rfl ?_
  refine b_iconst (v := (-1)) dX12_tellAgain_6 (by decide +kernel) ?_
  refine b_putI lf_X12_433 lp_12_47 rfl dX12_tellAgain_7 ?_
  refine b_iconst (v := 1) dX12_tellAgain_10 (by decide +kernel) ?_
  refine b_istore_n (lv' := [(0, _), (1, _)]) dX12_tellAgain_11 rfl (by decide) rfl rfl ?_
  exact LO 1 (by omega) (Nat.le_refl _) _ 0 (-1) ⟨fun i x q => absurd q.2 (by unfold prA at q; omega), Or.inl ⟨rfl, rfl⟩⟩ (fun y hy => by rw [up2_f _ _ _ _ hy, up2_f _ _ _ _ hy]) (fun k k1 k2 => by rw [up2_k _ _ _ _ k2, up2_k _ _ _ _ k1]) (by rw [up2_k _ _ _ _ (by decide), up2_s]; rfl) (up2_s _ _ _ _) (by omega)
theorem c_X12_again {E : En} {d : Nat} {Q : QT} {X : XT} {g : G2} {T : TD} {S : LfS} {w : Int32} (hR : RMl g T S) (hq : ∀ h, FD g h → RMl h T S → h 84 2 = nI (agaM S w).1 → Q (some (.int (agaM S w).2)) h) : M E md_X12_again (d + 2) [.ref 84, .int w] g Q X := by
  refine M.of _ rfl rfl (Nat.le_of_ble_eq_true rfl) ?_
  refine b_aload_n dX12_again_0 rfl rfl ?_
  refine b_iconst (v := 0) dX12_again_1 (by decide +kernel) ?_
  refine b_putI lf_X12_165 lp_12_2 rfl dX12_again_2 ?_
  have F1 : FD g (up2 g 84 2 0) := FD.code 0
  have c1 : up2 g 84 2 0 84 2 = 0 := up2_s _ _ _ _
  have hR := hR.code (x := 0)
  generalize up2 g 84 2 0 = g1 at F1 c1 hR ⊢
  refine b_iload_n dX12_again_5 rfl rfl ?_
  refine b_if_lt (tgt := 14) dX12_again_6 (by decide) (fun h6 => ?_) (fun h6 => ?_)
  · refine b_aload_n dX12_again_14 rfl rfl ?_
    refine b_iconst (v := 1) dX12_again_15 (by decide +kernel) ?_
    refine b_callV (As := [_]) (st := []) dX12_again_16 lk_X12_303 lm_X12_fail lv_X12_fail rfl (by decide) rfl rfl rfl (Nat.le_of_ble_eq_true rfl) (Nat.le_refl _) (by decide) ?_
    refine c_X12_fail ?_
    refine b_iret rfl (by decide) dX12_again_19 ?_
    rw [show agaM S w = (1, 0) from agaM_1 (in_lt h6)] at hq
    exact hq _ (F1.tr (FD.code 1)) hR.code (up2_s _ _ _ _)
  · refine b_iload_n dX12_again_9 rfl rfl ?_
    refine b_iconst (v := 1) dX12_again_10 (by decide +kernel) ?_
    refine b_icmp_le (tgt := 20) dX12_again_11 (by decide) (fun h11 => ?_) (fun h11 => ?_)
    · have hw := in_ok (b := 1) rfl h6 h11
      refine b_aload_n dX12_again_20 rfl rfl ?_
      refine b_callV (As := []) (st := []) dX12_again_21 lk_X12_436 lm_X12_tellAgain lv_X12_tellAgain rfl (by decide) rfl rfl rfl (Nat.le_of_ble_eq_true rfl) (Nat.le_refl _) (by decide) ?_
      refine c_X12_tellAgain hR.n hR.le (fun h hF hK L A hG hL hA h40 => ?_)
      have e9 := agV_eq (hG.cg hR.sg (R := prA (l_n S)) (fun i x => Iff.rfl) (fun i x q => by unfold prA at q; omega))
      have hq := hq h (F1.tr ⟨fun y hy => hF y (by omega), fun j hj => hK j (by omega) (by omega)⟩) (hR.cg (fun j j1 j2 => hK j (by omega) (by omega)) (fun z z1 z2 z3 => hF z (by omega))) (by rw [agaM_0 hw, hK 2 (by decide) (by decide)]; exact c1)
      rw [agaM_0 hw, e9] at hq
      refine b_iload_n dX12_again_24 rfl rfl ?_
      refine b_if_ne (tgt := 35) dX12_again_25 (by decide) (fun h25 => ?_) (fun h25 => ?_)
      · refine b_aload_n dX12_again_35 rfl rfl ?_
        refine b_getI lf_X12_433 rfl dX12_again_36 ?_
        refine b_topE (hA) ?_
        refine b_iret rfl (by decide) dX12_again_39 ?_
        simp only [if_neg h25] at hq
        exact hq
      · refine b_aload_n dX12_again_28 rfl rfl ?_
        refine b_getI lf_X12_430 rfl dX12_again_29 ?_
        refine b_topE (y := nI L) (hL) ?_
        refine b_goto (tgt := 39) dX12_again_32 (by decide) ?_
        refine b_iret rfl (by decide) dX12_again_39 ?_
        simp only [if_pos h25] at hq
        exact hq
    · refine b_aload_n dX12_again_14 rfl rfl ?_
      refine b_iconst (v := 1) dX12_again_15 (by decide +kernel) ?_
      refine b_callV (As := [_]) (st := []) dX12_again_16 lk_X12_303 lm_X12_fail lv_X12_fail rfl (by decide) rfl rfl rfl (Nat.le_of_ble_eq_true rfl) (Nat.le_refl _) (by decide) ?_
      refine c_X12_fail ?_
      refine b_iret rfl (by decide) dX12_again_19 ?_
      rw [show agaM S w = (1, 0) from agaM_1 (in_gt rfl h11)] at hq
      exact hq _ (F1.tr (FD.code 1)) hR.code (up2_s _ _ _ _)
