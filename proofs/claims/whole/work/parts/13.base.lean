def is_feuds (a : Nat) : Prop := a = 11 ∨ a = 24 ∨ a = 38 ∨ a = 48 ∨ a = 58
theorem is_feuds11 : is_feuds 11 := by unfold is_feuds; decide
theorem is_feuds24 : is_feuds 24 := by unfold is_feuds; decide
theorem is_feuds38 : is_feuds 38 := by unfold is_feuds; decide
theorem is_feuds48 : is_feuds 48 := by unfold is_feuds; decide
theorem is_feuds58 : is_feuds 58 := by unfold is_feuds; decide
theorem feuds_c {a : Nat} (h : is_feuds a) : cof a = 1 := by rcases h with rfl | rfl | rfl | rfl | rfl <;> decide +kernel
def is_rule (a : Nat) : Prop := a = 15 ∨ a = 28
theorem is_rule15 : is_rule 15 := by unfold is_rule; decide
theorem is_rule28 : is_rule 28 := by unfold is_rule; decide
theorem rule_c {a : Nat} (h : is_rule a) : cof a = 8 := by rcases h with rfl | rfl <;> decide +kernel
def is_life (a : Nat) : Prop := a = 31 ∨ a = 41 ∨ a = 51
theorem is_life31 : is_life 31 := by unfold is_life; decide
theorem is_life41 : is_life 41 := by unfold is_life; decide
theorem is_life51 : is_life 51 := by unfold is_life; decide
theorem life_c {a : Nat} (h : is_life a) : cof a = 5 := by rcases h with rfl | rfl | rfl <;> decide +kernel
def is_town (a : Nat) : Prop := a = 5 ∨ a = 18
theorem is_town5 : is_town 5 := by unfold is_town; decide
theorem is_town18 : is_town 18 := by unfold is_town; decide
theorem town_c {a : Nat} (h : is_town a) : cof a = 10 := by rcases h with rfl | rfl <;> decide +kernel
def is_acts (a : Nat) : Prop := a = 61 ∨ a = 63
theorem is_acts61 : is_acts 61 := by unfold is_acts; decide
theorem is_acts63 : is_acts 63 := by unfold is_acts; decide
theorem acts_c {a : Nat} (h : is_acts a) : cof a = 0 := by rcases h with rfl | rfl <;> decide +kernel
def is_heard (a : Nat) : Prop := a = 65 ∨ a = 68
theorem is_heard65 : is_heard 65 := by unfold is_heard; decide
theorem is_heard68 : is_heard 68 := by unfold is_heard; decide
theorem heard_c {a : Nat} (h : is_heard a) : cof a = 3 := by rcases h with rfl | rfl <;> decide +kernel
theorem feuds_r0 {a : Nat} (h : is_feuds a) : rt a 0 = a + 1 := by rcases h with rfl | rfl | rfl | rfl | rfl <;> decide +kernel
theorem feuds_n1 {a : Nat} (h : is_feuds a) : iln (a + 1) = 6 := by rcases h with rfl | rfl | rfl | rfl | rfl <;> decide +kernel
theorem feuds_r1 {a : Nat} (h : is_feuds a) : rt a 1 = a + 2 := by rcases h with rfl | rfl | rfl | rfl | rfl <;> decide +kernel
theorem feuds_n2 {a : Nat} (h : is_feuds a) : iln (a + 2) = 6 := by rcases h with rfl | rfl | rfl | rfl | rfl <;> decide +kernel
theorem rule_r0 {a : Nat} (h : is_rule a) : rt a 0 = a + 1 := by rcases h with rfl | rfl <;> decide +kernel
theorem rule_n1 {a : Nat} (h : is_rule a) : iln (a + 1) = 600 := by rcases h with rfl | rfl <;> decide +kernel
theorem rule_r2 {a : Nat} (h : is_rule a) : rt a 2 = a + 2 := by rcases h with rfl | rfl <;> decide +kernel
theorem rule_n2 {a : Nat} (h : is_rule a) : iln (a + 2) = 64 := by rcases h with rfl | rfl <;> decide +kernel
theorem life_r0 {a : Nat} (h : is_life a) : rt a 0 = a + 1 := by rcases h with rfl | rfl | rfl <;> decide +kernel
theorem life_n1 {a : Nat} (h : is_life a) : iln (a + 1) = 400 := by rcases h with rfl | rfl | rfl <;> decide +kernel
theorem life_r1 {a : Nat} (h : is_life a) : rt a 1 = a + 2 := by rcases h with rfl | rfl | rfl <;> decide +kernel
theorem life_n2 {a : Nat} (h : is_life a) : iln (a + 2) = 400 := by rcases h with rfl | rfl | rfl <;> decide +kernel
theorem life_r2 {a : Nat} (h : is_life a) : rt a 2 = a + 3 := by rcases h with rfl | rfl | rfl <;> decide +kernel
theorem life_n3 {a : Nat} (h : is_life a) : iln (a + 3) = 400 := by rcases h with rfl | rfl | rfl <;> decide +kernel
theorem life_r11 {a : Nat} (h : is_life a) : rt a 11 = a + 4 := by rcases h with rfl | rfl | rfl <;> decide +kernel
theorem life_n4 {a : Nat} (h : is_life a) : iln (a + 4) = 8 := by rcases h with rfl | rfl | rfl <;> decide +kernel
theorem life_r12 {a : Nat} (h : is_life a) : rt a 12 = a + 5 := by rcases h with rfl | rfl | rfl <;> decide +kernel
theorem life_n5 {a : Nat} (h : is_life a) : iln (a + 5) = 8 := by rcases h with rfl | rfl | rfl <;> decide +kernel
theorem life_r13 {a : Nat} (h : is_life a) : rt a 13 = a + 6 := by rcases h with rfl | rfl | rfl <;> decide +kernel
theorem life_n6 {a : Nat} (h : is_life a) : iln (a + 6) = 8 := by rcases h with rfl | rfl | rfl <;> decide +kernel
theorem life_r14 {a : Nat} (h : is_life a) : rt a 14 = a + 7 := by rcases h with rfl | rfl | rfl <;> decide +kernel
theorem life_feuds {a : Nat} (h : is_life a) : is_feuds (a + 7) := by unfold is_feuds; rcases h with rfl | rfl | rfl <;> decide
theorem town_r1 {a : Nat} (h : is_town a) : rt a 1 = a + 1 := by rcases h with rfl | rfl <;> decide +kernel
theorem town_n1 {a : Nat} (h : is_town a) : iln (a + 1) = 8 := by rcases h with rfl | rfl <;> decide +kernel
theorem town_r2 {a : Nat} (h : is_town a) : rt a 2 = a + 2 := by rcases h with rfl | rfl <;> decide +kernel
theorem town_n2 {a : Nat} (h : is_town a) : iln (a + 2) = 8 := by rcases h with rfl | rfl <;> decide +kernel
theorem town_r3 {a : Nat} (h : is_town a) : rt a 3 = a + 3 := by rcases h with rfl | rfl <;> decide +kernel
theorem town_n3 {a : Nat} (h : is_town a) : iln (a + 3) = 8 := by rcases h with rfl | rfl <;> decide +kernel
theorem town_r4 {a : Nat} (h : is_town a) : rt a 4 = a + 4 := by rcases h with rfl | rfl <;> decide +kernel
theorem town_n4 {a : Nat} (h : is_town a) : iln (a + 4) = 8 := by rcases h with rfl | rfl <;> decide +kernel
theorem town_r5 {a : Nat} (h : is_town a) : rt a 5 = a + 5 := by rcases h with rfl | rfl <;> decide +kernel
theorem town_n5 {a : Nat} (h : is_town a) : iln (a + 5) = 8 := by rcases h with rfl | rfl <;> decide +kernel
theorem town_r7 {a : Nat} (h : is_town a) : rt a 7 = a + 6 := by rcases h with rfl | rfl <;> decide +kernel
theorem town_feuds {a : Nat} (h : is_town a) : is_feuds (a + 6) := by unfold is_feuds; rcases h with rfl | rfl <;> decide
theorem town_r8 {a : Nat} (h : is_town a) : rt a 8 = a + 9 := by rcases h with rfl | rfl <;> decide +kernel
theorem town_n9 {a : Nat} (h : is_town a) : iln (a + 9) = 24 := by rcases h with rfl | rfl <;> decide +kernel
theorem town_r10 {a : Nat} (h : is_town a) : rt a 10 = a + 10 := by rcases h with rfl | rfl <;> decide +kernel
theorem town_rule {a : Nat} (h : is_town a) : is_rule (a + 10) := by unfold is_rule; rcases h with rfl | rfl <;> decide
theorem acts_r0 {a : Nat} (h : is_acts a) : rt a 0 = a + 1 := by rcases h with rfl | rfl <;> decide +kernel
theorem acts_n1 {a : Nat} (h : is_acts a) : iln (a + 1) = 160 := by rcases h with rfl | rfl <;> decide +kernel
theorem heard_r0 {a : Nat} (h : is_heard a) : rt a 0 = a + 1 := by rcases h with rfl | rfl <;> decide +kernel
theorem heard_n1 {a : Nat} (h : is_heard a) : iln (a + 1) = 8 := by rcases h with rfl | rfl <;> decide +kernel
theorem heard_r1 {a : Nat} (h : is_heard a) : rt a 1 = a + 2 := by rcases h with rfl | rfl <;> decide +kernel
theorem heard_n2 {a : Nat} (h : is_heard a) : iln (a + 2) = 8 := by rcases h with rfl | rfl <;> decide +kernel
theorem nthN_bd : ∀ (l : List Nat) (i d M : Nat), (∀ x ∈ l, x ≤ M) → d ≤ M → nthN l i d ≤ M
  | [], _, _, _, _, h => h
  | x :: r, 0, d, M, h, _ => h x List.mem_cons_self
  | x :: r, n + 1, d, M, h, hd => nthN_bd r n d M (fun y hy => h y (List.mem_cons_of_mem _ hy)) hd
theorem iln_bd (a : Nat) : iln a ≤ 1400 := nthN_bd ilnL a 0 1400 (by decide +kernel) (by decide)
theorem bln_bd (a : Nat) : bln a ≤ 600 := nthN_bd blnL a 0 600 (by decide +kernel) (by decide)
/-- upwards: a place holds, if it holds where all later ones do -/
theorem lp_up {P : Nat → Prop} {n : Nat} (h : ∀ i, i ≤ n → (∀ j, i < j → j ≤ n → P j) → P i) : ∀ i, i ≤ n → P i := by
  have key : ∀ (m i : Nat), n - i ≤ m → i ≤ n → P i := by
    intro m
    induction m with
    | zero => intro i h1 h2; exact h i h2 (fun j h3 h4 => by omega)
    | succ m ih => intro i h1 h2; exact h i h2 (fun j h3 h4 => ih j (by omega) h4)
  exact fun i hi => key n i (by omega) hi
/-- downwards -/
theorem lp_dn {P : Nat → Prop} (h : ∀ i, (∀ j, j < i → P j) → P i) : ∀ i, P i := fun i => Nat.strongRecOn i h
def anyN (P : Nat → Bool) : Nat → Bool
  | 0 => false
  | n + 1 => anyN P n || P n
theorem anyN_t {P : Nat → Bool} {n i : Nat} (hi : i < n) (h : P i = true) : anyN P n = true := by
  induction n with
  | zero => omega
  | succ n ih =>
    rw [anyN]
    by_cases e : i = n
    · rw [← e, h, Bool.or_true]
    · rw [ih (by omega), Bool.true_or]
theorem anyN_f {P : Nat → Bool} {i : Nat} (h : anyN P i = false) (h2 : P i = false) : anyN P (i + 1) = false := by rw [anyN, h, h2]; rfl
def b2i (b : Bool) : Int32 := if b then 1 else 0
theorem b2i_01 (b : Bool) : b2i b = 0 ∨ b2i b = 1 := by cases b <;> simp [b2i]
/-- how many below n -/
def cntN (P : Nat → Bool) : Nat → Nat
  | 0 => 0
  | n + 1 => cntN P n + (if P n then 1 else 0)
theorem cntN_le (P : Nat → Bool) (n : Nat) : cntN P n ≤ n := by
  induction n with
  | zero => exact Nat.le_refl _
  | succ n ih => rw [cntN]; split <;> omega
section Rules
variable {E : En} {md : MD} {d : Nat} {Q : QT} {X : XT} {pc : Nat} {lv lv' : List (Nat × Value)} {st : List Value} {g : G2} {k : Nat}
theorem b_ildN {a j : Nat} {i : Int32} (hd : decode (md_cc md) pc = .ok (.iaload, 1)) (hi : i = nI j) (hj : j < iln a) (kk : B E md d Q X (pc + 1) lv (.int (g a j) :: st) g k) : B E md d Q X pc lv (.int i :: .ref a :: st) g k := by
  subst hi
  have h := iln_bd a
  exact b_iald hd (vp_in_nI hj (by omega)) (by rw [nI_clamp (by omega)]; exact kk)
theorem b_bldN {a j : Nat} {i : Int32} (hd : decode (md_cc md) pc = .ok (.baload, 1)) (hi : i = nI j) (hj : j < bln a) (kk : B E md d Q X (pc + 1) lv (.int (g a j) :: st) g k) : B E md d Q X pc lv (.int i :: .ref a :: st) g k := by
  subst hi
  have h := bln_bd a
  exact b_bald hd (vp_in_nI hj (by omega)) (by rw [nI_clamp (by omega)]; exact kk)
theorem b_istN {a j : Nat} {i x : Int32} (hd : decode (md_cc md) pc = .ok (.iastore, 1)) (hi : i = nI j) (hj : j < iln a) (kk : B E md d Q X (pc + 1) lv st (up2 g a j x) k) : B E md d Q X pc lv (.int x :: .int i :: .ref a :: st) g k := by
  subst hi
  have h := iln_bd a
  exact b_iast hd (vp_in_nI hj (by omega)) (by rw [nI_clamp (by omega)]; exact kk)
theorem b_incN {i j : Nat} {x : Int32} (hd : decode (md_cc md) pc = .ok (.iinc i 1, 3)) (hk : lk lv i = some (.int x)) (hx : x = nI j) (hn : i < md_nL md) (ho : nol lv = true) (hs : stl lv i (.int (nI (j + 1))) = lv') (kk : B E md d Q X (pc + 3) lv' st g k) : B E md d Q X pc lv st g k := by
  subst hx
  exact b_iinc hd hk (by rw [nI_succ]; rfl) hn ho hs kk
theorem b_decN {i j : Nat} {x : Int32} (hd : decode (md_cc md) pc = .ok (.iinc i (-1), 3)) (hk : lk lv i = some (.int x)) (hx : x = nI (j + 1)) (hn : i < md_nL md) (ho : nol lv = true) (hs : stl lv i (.int (nI j)) = lv') (kk : B E md d Q X (pc + 3) lv' st g k) : B E md d Q X pc lv st g k := by
  subst hx
  exact b_iinc hd hk (by rw [show Int32.ofInt (-1) = (-1 : Int32) from by decide +kernel]; exact pk_m1 j) hn ho hs kk
/-- the number on top under another name -/
theorem b_topE {x y : Int32} (h : x = y) (kk : B E md d Q X pc lv (.int y :: st) g k) : B E md d Q X pc lv (.int x :: st) g k := h ▸ kk
theorem b_gE {g' : G2} (h : g = g') (kk : B E md d Q X pc lv st g' k) : B E md d Q X pc lv st g k := h ▸ kk
end Rules
