/-! the tokens of a text, as mathematics: f its bytes (0..255), n its length -/
def pB (x : Nat) : Bool := x == 32 || x == 10
def pL (x : Nat) : Bool := decide (97 ≤ x) && decide (x ≤ 122)
def pD (x : Nat) : Bool := decide (48 ≤ x) && decide (x ≤ 57)
def pS (x : Nat) : Bool := x == 59 || x == 40 || x == 41 || x == 43 || x == 45 || x == 42 || x == 47 || x == 60 || x == 61
def skp (P : Nat → Bool) (f : Nat → Nat) (n : Nat) : Nat → Nat → Nat
  | 0, p => p
  | F + 1, p => if p < n ∧ P (f p) = true then skp P f n F (p + 1) else p
def sk (P : Nat → Bool) (f : Nat → Nat) (n p : Nat) : Nat := skp P f n (n - p) p
theorem skp_ge (P : Nat → Bool) (f : Nat → Nat) (n : Nat) : ∀ F p, p ≤ skp P f n F p
  | 0, p => Nat.le_refl p
  | F + 1, p => by
    unfold skp
    split
    · have := skp_ge P f n F (p + 1); omega
    · exact Nat.le_refl p
theorem sk_ge (P : Nat → Bool) (f : Nat → Nat) (n p : Nat) : p ≤ sk P f n p := skp_ge P f n _ p
theorem skp_le (P : Nat → Bool) (f : Nat → Nat) (n : Nat) : ∀ F p, p ≤ n → skp P f n F p ≤ n
  | 0, p, h => h
  | F + 1, p, h => by
    unfold skp
    split
    · rename_i h1; exact skp_le P f n F (p + 1) h1.1
    · exact h
theorem sk_le {P : Nat → Bool} {f : Nat → Nat} {n p : Nat} (h : p ≤ n) : sk P f n p ≤ n := skp_le P f n _ p h
theorem skp_in (P : Nat → Bool) (f : Nat → Nat) (n : Nat) : ∀ F p j, p ≤ j → j < skp P f n F p → P (f j) = true
  | 0, p, j, h1, h2 => by simp only [skp] at h2; omega
  | F + 1, p, j, h1, h2 => by
    unfold skp at h2
    split at h2
    · rename_i h3
      rcases Nat.eq_or_lt_of_le h1 with h4 | h4
      · subst h4; exact h3.2
      · exact skp_in P f n F (p + 1) j h4 h2
    · omega
theorem skp_end (P : Nat → Bool) (f : Nat → Nat) (n : Nat) : ∀ F p, n ≤ p + F → skp P f n F p < n → P (f (skp P f n F p)) = false
  | 0, p, h1, h2 => by simp only [skp] at h2; omega
  | F + 1, p, h1, h2 => by
    unfold skp at h2 ⊢
    split at h2
    · rename_i h3
      rw [if_pos h3]
      exact skp_end P f n F (p + 1) (by omega) h2
    · rename_i h3
      rw [if_neg h3]
      cases hp : P (f p) with
      | false => rfl
      | true => exact absurd ⟨h2, hp⟩ h3
theorem sk_in {P : Nat → Bool} {f : Nat → Nat} {n p j : Nat} (h1 : p ≤ j) (h2 : j < sk P f n p) : P (f j) = true := skp_in P f n _ p j h1 h2
theorem sk_end {P : Nat → Bool} {f : Nat → Nat} {n p : Nat} (h : sk P f n p < n) : P (f (sk P f n p)) = false := skp_end P f n _ p (by omega) h
theorem sk_eq {P : Nat → Bool} {f : Nat → Nat} {n p r : Nat} (h1 : p ≤ r) (h2 : ∀ j, p ≤ j → j < r → j < n ∧ P (f j) = true) (h3 : r < n → P (f r) = false) : sk P f n p = r := by
  rcases Nat.lt_trichotomy (sk P f n p) r with h | h | h
  · obtain ⟨a, b⟩ := h2 _ (sk_ge P f n p) h
    rw [sk_end a] at b; cases b
  · exact h
  · have hb := sk_in h1 h
    rcases Nat.lt_or_ge r n with a | a
    · rw [h3 a] at hb; cases hb
    · exfalso
      have : sk P f n p ≤ max n p := by
        unfold sk
        rcases Nat.le_total p n with c | c
        · have := skp_le P f n (n - p) p c; omega
        · rw [show n - p = 0 by omega]; simp only [skp]; omega
      have h5 := h2 (r - 1)
      omega
theorem sk_le' (P : Nat → Bool) (f : Nat → Nat) (n p : Nat) : sk P f n p ≤ max n p := by
  unfold sk
  rcases Nat.le_total p n with c | c
  · have := skp_le P f n (n - p) p c; omega
  · rw [show n - p = 0 by omega]; simp only [skp]; omega
theorem sk_lt {P : Nat → Bool} {f : Nat → Nat} {n p : Nat} (h : p < n) (hp : P (f p) = true) : p < sk P f n p := by
  rcases Nat.lt_or_ge p (sk P f n p) with q | q
  · exact q
  · have e : sk P f n p = p := Nat.le_antisymm q (sk_ge P f n p)
    have := sk_end (P := P) (f := f) (n := n) (p := p) (by omega)
    rw [e, hp] at this; cases this
/-- the value of d digits from p on -/
def vD (f : Nat → Nat) (p : Nat) : Nat → Nat
  | 0 => 0
  | d + 1 => 10 * vD f p d + (f (p + d) - 48)
theorem vD_lt {f : Nat → Nat} {p : Nat} : ∀ d, (∀ j, j < d → pD (f (p + j)) = true) → vD f p d < 10 ^ d
  | 0, _ => by simp [vD]
  | d + 1, h => by
    have h1 := vD_lt d (fun j hj => h j (by omega))
    have h2 := h d (by omega)
    simp only [pD, Bool.and_eq_true, decide_eq_true_eq] at h2
    simp only [vD, Nat.pow_succ]
    omega
/-- the words, and their kinds -/
def wds : List (Nat × List Nat) := [(100, [101, 108, 100, 101, 114]), (101, [99, 104, 105, 108, 100]), (102, [100, 101, 97, 102]), (103, [115, 112, 121]), (104, [102, 101, 117, 100]), (105, [111, 116, 104, 101, 114]), (106, [115, 105, 110, 103, 115]), (107, [111, 114]), (108, [97, 110, 100]), (109, [110, 111, 116]), (110, [107, 101, 121]), (111, [121, 101, 97, 114]), (112, [98, 97, 115, 101]), (113, [108, 97, 115, 116]), (114, [104, 111, 117, 115, 101]), (115, [107, 105, 110, 100]), (116, [115, 117, 110, 103])]
/-- the bytes from p on are these -/
def eqP (f : Nat → Nat) : Nat → List Nat → Bool
  | _, [] => true
  | p, x :: r => f p == x && eqP f (p + 1) r
def eqW (f : Nat → Nat) (p q : Nat) (w : List Nat) : Bool := (q - p == w.length) && eqP f p w
def wkL (f : Nat → Nat) (p q : Nat) : List (Nat × List Nat) → Nat
  | [] => 99
  | (k, w) :: r => if eqW f p q w = true then k else wkL f p q r
def wk (f : Nat → Nat) (p q : Nat) : Nat := wkL f p q wds
theorem eqP_uniq {f : Nat → Nat} : ∀ {p : Nat} {w v : List Nat}, w.length = v.length → eqP f p w = true → eqP f p v = true → w = v
  | p, [], [], _, _, _ => rfl
  | p, x :: r, y :: s, hl, h1, h2 => by
    simp only [eqP, Bool.and_eq_true, beq_iff_eq] at h1 h2
    rw [← h1.1, ← h2.1, eqP_uniq (by simpa using hl) h1.2 h2.2]
theorem eqW_uniq {f : Nat → Nat} {p q : Nat} {w v : List Nat} (h1 : eqW f p q w = true) (h2 : eqW f p q v = true) : w = v := by
  simp only [eqW, Bool.and_eq_true, beq_iff_eq] at h1 h2
  exact eqP_uniq (by omega) h1.2 h2.2
theorem wkL_of {f : Nat → Nat} {p q k : Nat} {w : List Nat} : ∀ {l : List (Nat × List Nat)}, (k, w) ∈ l → (∀ x ∈ l, x.2 = w → x.1 = k) → eqW f p q w = true → wkL f p q l = k
  | (j, v) :: r, hm, hu, h => by
    simp only [wkL]
    by_cases hv : eqW f p q v = true
    · rw [if_pos hv]; exact hu (j, v) List.mem_cons_self (eqW_uniq hv h)
    · rw [if_neg hv]
      rcases List.mem_cons.mp hm with e | e
      · cases e; exact absurd h hv
      · exact wkL_of e (fun x hx => hu x (List.mem_cons_of_mem _ hx)) h
theorem wkL_to {f : Nat → Nat} {p q k : Nat} : ∀ {l : List (Nat × List Nat)}, wkL f p q l = k → k ≠ 99 → ∃ w, (k, w) ∈ l ∧ eqW f p q w = true
  | [], h, hk => absurd h.symm hk
  | (j, v) :: r, h, hk => by
    simp only [wkL] at h
    by_cases hv : eqW f p q v = true
    · rw [if_pos hv] at h; subst h; exact ⟨v, List.mem_cons_self, hv⟩
    · rw [if_neg hv] at h
      obtain ⟨w, a, b⟩ := wkL_to h hk
      exact ⟨w, List.mem_cons_of_mem _ a, b⟩
theorem wds_u1 : ∀ x ∈ wds, ∀ y ∈ wds, x.2 = y.2 → x.1 = y.1 := by decide +kernel
theorem wds_u2 : ∀ x ∈ wds, ∀ y ∈ wds, x.1 = y.1 → x.2 = y.2 := by decide +kernel
theorem wds_k : ∀ x ∈ wds, 100 ≤ x.1 ∧ x.1 ≤ 116 ∧ x.2.length ≤ 5 ∧ 0 < x.2.length := by decide +kernel
/-- a word is spelt exactly if the kind is its own -/
theorem wk_iff {f : Nat → Nat} {p q k : Nat} {w : List Nat} (hm : (k, w) ∈ wds) : eqW f p q w = true ↔ wk f p q = k := by
  constructor
  · exact fun h => wkL_of hm (fun x hx e => wds_u1 x hx (k, w) hm e) h
  · intro h
    obtain ⟨v, a, b⟩ := wkL_to h (by have := (wds_k _ hm).1; simp only at this; omega)
    rw [show w = v from wds_u2 (k, w) hm (k, v) a rfl]
    exact b
theorem wkL_rng {f : Nat → Nat} {p q : Nat} : ∀ {l : List (Nat × List Nat)}, (∀ x ∈ l, 100 ≤ x.1 ∧ x.1 ≤ 116) → 99 ≤ wkL f p q l ∧ wkL f p q l ≤ 116
  | [], _ => ⟨Nat.le_refl _, by simp [wkL]⟩
  | (j, v) :: r, h => by
    simp only [wkL]
    by_cases hv : eqW f p q v = true
    · rw [if_pos hv]; have := h (j, v) List.mem_cons_self; simp only at this; omega
    · rw [if_neg hv]; exact wkL_rng (fun x hx => h x (List.mem_cons_of_mem _ hx))
theorem wk_rng (f : Nat → Nat) (p q : Nat) : 99 ≤ wk f p q ∧ wk f p q ≤ 116 := wkL_rng (fun x hx => ⟨(wds_k x hx).1, (wds_k x hx).2.1⟩)
/-- a token: kind (0 the end, 1 none, 2 a number, a sign's byte, 99 a word not told, 100.. the words), place, the place behind it, value and digits of a number -/
abbrev Tk : Type := Nat × Nat × Nat × Nat × Nat
abbrev Tk.k (t : Tk) : Nat := t.1
abbrev Tk.pl (t : Tk) : Nat := t.2.1
abbrev Tk.af (t : Tk) : Nat := t.2.2.1
abbrev Tk.v (t : Tk) : Nat := t.2.2.2.1
abbrev Tk.dg (t : Tk) : Nat := t.2.2.2.2
/-- the token at p, which is not blank -/
def tkA (f : Nat → Nat) (n p : Nat) : Tk :=
  if n ≤ p then ⟨0, p, p, 0, 0⟩
  else if pL (f p) = true then ⟨wk f p (sk pL f n p), p, sk pL f n p, 0, 0⟩
  else if pD (f p) = true then ⟨2, p, sk pD f n p, vD f p (min (sk pD f n p - p) 4), sk pD f n p - p⟩
  else ⟨if pS (f p) = true then f p else 1, p, p + 1, 0, 0⟩
def nxt (f : Nat → Nat) (n p : Nat) : Tk := tkA f n (sk pB f n p)
theorem tkA_pl (f : Nat → Nat) (n p : Nat) : (tkA f n p).pl = p := by
  unfold tkA
  split
  · rfl
  · split
    · rfl
    · split <;> rfl
theorem nxt_pl (f : Nat → Nat) (n p : Nat) : (nxt f n p).pl = sk pB f n p := tkA_pl f n _
theorem tkA_lt {f : Nat → Nat} {n p : Nat} (h : p < n) : p < (tkA f n p).af ∧ (tkA f n p).af ≤ n ∧ (tkA f n p).k ≠ 0 := by
  unfold tkA
  rw [if_neg (by omega)]
  split
  · rename_i h1; refine ⟨sk_lt h h1, sk_le (by omega), ?_⟩
    have := (wk_rng f p (sk pL f n p)).1
    show wk f p (sk pL f n p) ≠ 0
    omega
  · split
    · rename_i h1; exact ⟨sk_lt h h1, sk_le (by omega), fun e => by cases e⟩
    · refine ⟨Nat.lt_succ_self p, h, ?_⟩
      show (if pS (f p) = true then f p else 1) ≠ 0
      split
      · rename_i h3; intro e; rw [e] at h3; exact absurd h3 (by decide)
      · decide
theorem nxt_af {f : Nat → Nat} {n p : Nat} (h : p ≤ n) : (nxt f n p).af ≤ n ∧ (nxt f n p).pl ≤ n ∧ p ≤ (nxt f n p).pl ∧ ((nxt f n p).k = 0 ∨ (nxt f n p).pl < (nxt f n p).af) := by
  rw [nxt_pl]
  have h1 := sk_le (P := pB) (f := f) h
  have h2 := sk_ge pB f n p
  unfold nxt
  rcases Nat.lt_or_ge (sk pB f n p) n with q | q
  · have := tkA_lt (f := f) q
    exact ⟨this.2.1, h1, h2, Or.inr this.1⟩
  · unfold tkA; rw [if_pos q]; exact ⟨h1, h1, h2, Or.inl rfl⟩
