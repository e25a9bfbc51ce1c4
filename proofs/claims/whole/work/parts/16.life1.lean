section Rules
variable {E : En} {md : MD} {d : Nat} {Q : QT} {X : XT} {pc : Nat} {lv : List (Nat × Value)} {st : List Value} {g : G2} {k : Nat}
theorem b_take (n : Nat) (kk : B E md d Q X pc (lv.take n) st g k) : B E md d Q X pc lv st g k := by
  intro p l e R s m args below meth c H locs ls C hl hP hS
  refine kk p l e R s m args below meth c H locs ls C ⟨hl.1, hl.2.1, fun q hq => hl.2.2 q ?_⟩ hP hS
  obtain ⟨q0, h1, h2⟩ := List.mem_map.mp hq
  exact List.mem_map.mpr ⟨q0, List.mem_of_mem_take h1, h2⟩
end Rules
/-- bit p of a set -/
def btI (m p : Int32) : Int32 := (m >>> (p &&& 31)) &&& 1
theorem btI_01 (m p : Int32) : btI m p = 0 ∨ btI m p = 1 := by
  obtain ⟨j, hj, e⟩ := pk_andE (m >>> (p &&& 31)) (m := 1) 1 (by decide)
  have : j = 0 ∨ j = 1 := by omega
  unfold btI
  rcases this with rfl | rfl
  · exact Or.inl e
  · exact Or.inr e
theorem cntN_z {P : Nat → Bool} {n : Nat} (h : ∀ i, i < n → P i = false) : cntN P n = 0 := by
  induction n with
  | zero => rfl
  | succ n ih => rw [cntN, ih (fun i hi => h i (by omega)), h n (by omega)]; rfl
theorem cntN_cg {P R : Nat → Bool} {n : Nat} (h : ∀ i, i < n → P i = R i) : cntN P n = cntN R n := by
  induction n with
  | zero => rfl
  | succ n ih => rw [cntN, cntN, ih (fun i hi => h i (by omega)), h n (by omega)]
theorem anyN_cg {P R : Nat → Bool} {n : Nat} (h : ∀ i, i < n → P i = R i) : anyN P n = anyN R n := by
  induction n with
  | zero => rfl
  | succ n ih => rw [anyN, anyN, ih (fun i hi => h i (by omega)), h n (by omega)]
def tmP (f : Nat → Int32) (x : Int32) (s i : Nat) : Bool := decide (s ≤ i) && f i == x
def rmI (x y : Int32) : Int32 := x - x / y * y
def rsP (f : Nat → Int32) (s : Nat) (up : Int32) (i : Nat) : Bool := decide (1 ≤ i) && decide (s ≤ i) && !(f (i - 1) == 12) && !(f i == 12) && rmI (f (i - 1) + up) 12 == f i
def hasF (f : Nat → Int32) (n : Nat) (ph : Nat → Int32) (m p : Nat) : Bool := decide (p + m ≤ n) && !anyN (fun i => !(f (p + i) == ph i)) m
def fndF (P : Nat → Bool) : Nat → Nat → Int32
  | 0, _ => -1
  | k + 1, s => if P s then nI s else fndF P k (s + 1)
def bgI : Nat → Int32
  | 0 => -1
  | b + 1 => nI b
def mirF (f : Nat → Int32) (n : Nat) : Nat → Nat → Int32
  | 0, e => nI e - (-1) - 1
  | b + 1, e => if e < n ∧ f b = f e then mirF f n b (e + 1) else nI e - nI b - 1
theorem c_X11_isIn {E : En} {d : Nat} {Q : QT} {X : XT} {g : G2} {m p : Int32} (hq : Q (some (.int (b2i (!(btI m p == 0))))) g) : M E md_X11_isIn d [.int m, .int p] g Q X := by
  refine M.of _ rfl rfl (Nat.le_of_ble_eq_true rfl) ?_
  refine b_iload_n dX11_isIn_0 rfl rfl ?_
  refine b_iload_n dX11_isIn_1 rfl rfl ?_
  refine b_ishr dX11_isIn_2 ?_
  refine b_iconst (v := 1) dX11_isIn_3 (by decide +kernel) ?_
  refine b_iand dX11_isIn_4 ?_
  refine b_if_eq (tgt := 12) dX11_isIn_5 (by decide) (fun h5 => ?_) (fun h5 => ?_)
  · have e : b2i (!(btI m p == 0)) = 0 := by unfold btI; rw [h5]; rfl
    rw [e] at hq
    refine b_iconst (v := 0) dX11_isIn_12 (by decide +kernel) ?_
    refine b_zret (by first | exact Or.inl rfl | exact Or.inr rfl) rfl (by decide) dX11_isIn_13 ?_
    exact hq
  · have e : b2i (!(btI m p == 0)) = 1 := by unfold btI; grind [b2i]
    rw [e] at hq
    refine b_iconst (v := 1) dX11_isIn_8 (by decide +kernel) ?_
    refine b_goto (tgt := 13) dX11_isIn_9 (by decide) ?_
    refine b_zret (by first | exact Or.inl rfl | exact Or.inr rfl) rfl (by decide) dX11_isIn_13 ?_
    exact hq
theorem c_X5_times {E : En} {d : Nat} {Q : QT} {X : XT} {g : G2} {a n s : Nat} {x : Int32} (ha : is_life a) (hn : g a 3 = nI n) (h4 : n ≤ 400) (hs : s ≤ n) (hq : Q (some (.int (nI (cntN (tmP (g (a + 1)) x s) n)))) g) : M E md_X5_times d [.ref a, .int x, .int (nI s)] g Q X := by
  refine M.of _ rfl rfl (Nat.le_of_ble_eq_true rfl) ?_
  have L : ∀ i, i ≤ n → s ≤ i → B E md_X5_times d Q X 5 [(0, .ref a), (1, .int x), (2, .int (nI s)), (3, .int (nI (cntN (tmP (g (a + 1)) x s) i))), (4, .int (nI i))] [] g 0 := by
    refine lp_up (fun i hi ih hsi => ?_)
    refine b_iload dX5_times_5 rfl ?_
    refine b_aload_n dX5_times_7 rfl rfl ?_
    refine b_getI lf_X5_21 (life_c ha) dX5_times_8 ?_
    refine b_icmp_ge (tgt := 34) dX5_times_11 (by decide) (fun h11 => ?_) (fun h11 => ?_)
    · have e : i = n := by have := (nI_leI (by omega) (by omega)).mp (hn ▸ h11); omega
      subst e
      refine b_iload_n dX5_times_34 rfl rfl ?_
      refine b_iret rfl (by decide) dX5_times_35 ?_
      exact hq
    · have e : i < n := by
        rcases Nat.lt_or_ge i n with q | q
        · exact q
        · exact absurd (hn ▸ (nI_leI (by omega) (by omega)).mpr q) h11
      refine b_aload_n dX5_times_14 rfl rfl ?_
      refine b_getR (b := (a + 1)) lf_X5_9 (life_c ha) (life_r0 ha) dX5_times_15 ?_
      refine b_iload dX5_times_18 rfl ?_
      refine b_ildN (j := i) dX5_times_20 (rfl) (by rw [(life_n1 ha)]; omega) ?_
      refine b_iload_n dX5_times_21 rfl rfl ?_
      refine b_icmp_ne (tgt := 28) dX5_times_22 (by decide) (fun h22 => ?_) (fun h22 => ?_)
      · refine b_incN (j := i) (lv' := [(0, _), (1, _), (2, _), (3, _), (4, _)]) dX5_times_28 rfl rfl (by decide) rfl rfl ?_
        refine b_goto (tgt := 5) dX5_times_31 (by decide) ?_
        have ih2 := ih (i + 1) (by omega) (by omega) (by omega)
        rw [cntN] at ih2
        first
          | (rw [if_pos (by grind [tmP, rsP, rmI])] at ih2; exact ih2)
          | (rw [if_neg (by grind [tmP, rsP, rmI]), Nat.add_zero] at ih2; exact ih2)
      · refine b_incN (j := cntN (tmP (g (a + 1)) x s) i) (lv' := [(0, _), (1, _), (2, _), (3, _), (4, _)]) dX5_times_25 rfl rfl (by decide) rfl rfl ?_
        refine b_incN (j := i) (lv' := [(0, _), (1, _), (2, _), (3, _), (4, _)]) dX5_times_28 rfl rfl (by decide) rfl rfl ?_
        refine b_goto (tgt := 5) dX5_times_31 (by decide) ?_
        have ih2 := ih (i + 1) (by omega) (by omega) (by omega)
        rw [cntN] at ih2
        first
          | (rw [if_pos (by grind [tmP, rsP, rmI])] at ih2; exact ih2)
          | (rw [if_neg (by grind [tmP, rsP, rmI]), Nat.add_zero] at ih2; exact ih2)
  refine b_iconst (v := 0) dX5_times_0 (by decide +kernel) ?_
  refine b_istore_n (lv' := [(0, _), (1, _), (2, _), (3, _)]) dX5_times_1 rfl (by decide) rfl rfl ?_
  refine b_iload_n dX5_times_2 rfl rfl ?_
  refine b_istore (lv' := [(0, _), (1, _), (2, _), (3, _), (4, _)]) dX5_times_3 (by decide) rfl rfl ?_
  have e := L s hs (Nat.le_refl _)
  rw [cntN_z (fun i hi => by simp [tmP]; omega)] at e
  exact e
theorem c_X5_rests {E : En} {d : Nat} {Q : QT} {X : XT} {g : G2} {a n : Nat} (ha : is_life a) (hn : g a 3 = nI n) (h4 : n ≤ 400) (hq : Q (some (.int (nI (cntN (tmP (g (a + 1)) 12 0) n)))) g) : M E md_X5_rests (d + 1) [.ref a] g Q X := by
  refine M.of _ rfl rfl (Nat.le_of_ble_eq_true rfl) ?_
  refine b_aload_n dX5_rests_0 rfl rfl ?_
  refine b_bipush (v := 12) dX5_rests_1 (by decide +kernel) ?_
  refine b_iconst (v := 0) dX5_rests_3 (by decide +kernel) ?_
  refine b_callV (As := [_, _]) (st := []) dX5_rests_4 lk_X5_154 lm_X5_times lv_X5_times (life_c ha) (by decide) rfl rfl rfl (by decide) (Nat.le_refl _) (by decide) ?_
  refine c_X5_times (s := 0) ha hn h4 (Nat.zero_le _) ?_
  refine b_iret rfl (by decide) dX5_rests_7 ?_
  exact hq
theorem c_X5_risesFrom {E : En} {d : Nat} {Q : QT} {X : XT} {g : G2} {a n s : Nat} {up : Int32} (ha : is_life a) (hn : g a 3 = nI n) (h4 : n ≤ 400) (hs : s ≤ n) (hq : Q (some (.int (nI (cntN (rsP (g (a + 1)) s up) n)))) g) : M E md_X5_risesFrom (d + 1) [.ref a, .int (nI s), .int up] g Q X := by
  refine M.of _ rfl rfl (Nat.le_of_ble_eq_true rfl) ?_
  have L : ∀ i, i ≤ n → 1 ≤ i → s ≤ i → B E md_X5_risesFrom (d + 1) Q X 9 [(0, .ref a), (1, .int (nI s)), (2, .int up), (3, .int (nI (cntN (rsP (g (a + 1)) s up) i))), (4, .int (nI i))] [] g 0 := by
    refine lp_up (fun i hi ih h1 hsi => ?_)
    refine b_iload dX5_risesFrom_9 rfl ?_
    refine b_aload_n dX5_risesFrom_11 rfl rfl ?_
    refine b_getI lf_X5_21 (life_c ha) dX5_risesFrom_12 ?_
    refine b_icmp_ge (tgt := 74) dX5_risesFrom_15 (by decide) (fun h15 => ?_) (fun h15 => ?_)
    · have e : i = n := by have := (nI_leI (by omega) (by omega)).mp (hn ▸ h15); omega
      subst e
      refine b_iload_n dX5_risesFrom_74 rfl rfl ?_
      refine b_iret rfl (by decide) dX5_risesFrom_75 ?_
      exact hq
    · have e : i < n := by
        rcases Nat.lt_or_ge i n with q | q
        · exact q
        · exact absurd (hn ▸ (nI_leI (by omega) (by omega)).mpr q) h15
      refine b_aload_n dX5_risesFrom_18 rfl rfl ?_
      refine b_getR (b := (a + 1)) lf_X5_9 (life_c ha) (life_r0 ha) dX5_risesFrom_19 ?_
      refine b_iload dX5_risesFrom_22 rfl ?_
      refine b_iconst (v := 1) dX5_risesFrom_24 (by decide +kernel) ?_
      refine b_isub dX5_risesFrom_25 ?_
      refine b_ildN (j := (i - 1)) dX5_risesFrom_26 (nI_m1 (by omega)) (by rw [(life_n1 ha)]; omega) ?_
      refine b_istore (lv' := [(0, _), (1, _), (2, _), (3, _), (4, _), (5, _)]) dX5_risesFrom_27 (by decide) rfl rfl ?_
      refine b_iload dX5_risesFrom_29 rfl ?_
      refine b_bipush (v := 12) dX5_risesFrom_31 (by decide +kernel) ?_
      refine b_icmp_eq (tgt := 68) dX5_risesFrom_33 (by decide) (fun h33 => ?_) (fun h33 => ?_)
      · refine b_incN (j := i) (lv' := [(0, _), (1, _), (2, _), (3, _), (4, _), (5, _)]) dX5_risesFrom_68 rfl rfl (by decide) rfl rfl ?_
        refine b_goto (tgt := 9) dX5_risesFrom_71 (by decide) ?_
        refine b_take 5 ?_
        have ih2 := ih (i + 1) (by omega) (by omega) (by omega) (by omega)
        rw [cntN] at ih2
        first
          | (rw [if_pos (by grind [tmP, rsP])] at ih2; exact ih2)
          | (rw [if_neg (by grind [tmP, rsP]), Nat.add_zero] at ih2; exact ih2)
      · refine b_aload_n dX5_risesFrom_36 rfl rfl ?_
        refine b_getR (b := (a + 1)) lf_X5_9 (life_c ha) (life_r0 ha) dX5_risesFrom_37 ?_
        refine b_iload dX5_risesFrom_40 rfl ?_
        refine b_ildN (j := i) dX5_risesFrom_42 (rfl) (by rw [(life_n1 ha)]; omega) ?_
        refine b_bipush (v := 12) dX5_risesFrom_43 (by decide +kernel) ?_
        refine b_icmp_eq (tgt := 68) dX5_risesFrom_45 (by decide) (fun h45 => ?_) (fun h45 => ?_)
        · refine b_incN (j := i) (lv' := [(0, _), (1, _), (2, _), (3, _), (4, _), (5, _)]) dX5_risesFrom_68 rfl rfl (by decide) rfl rfl ?_
          refine b_goto (tgt := 9) dX5_risesFrom_71 (by decide) ?_
          refine b_take 5 ?_
          have ih2 := ih (i + 1) (by omega) (by omega) (by omega) (by omega)
          rw [cntN] at ih2
          first
            | (rw [if_pos (by grind [tmP, rsP])] at ih2; exact ih2)
            | (rw [if_neg (by grind [tmP, rsP]), Nat.add_zero] at ih2; exact ih2)
        · refine b_iload dX5_risesFrom_48 rfl ?_
          refine b_iload_n dX5_risesFrom_50 rfl rfl ?_
          refine b_iadd dX5_risesFrom_51 ?_
          refine b_bipush (v := 12) dX5_risesFrom_52 (by decide +kernel) ?_
          refine b_irem dX5_risesFrom_54 (by decide +kernel) ?_
          refine b_aload_n dX5_risesFrom_55 rfl rfl ?_
          refine b_getR (b := (a + 1)) lf_X5_9 (life_c ha) (life_r0 ha) dX5_risesFrom_56 ?_
          refine b_iload dX5_risesFrom_59 rfl ?_
          refine b_ildN (j := i) dX5_risesFrom_61 (rfl) (by rw [(life_n1 ha)]; omega) ?_
          refine b_icmp_ne (tgt := 68) dX5_risesFrom_62 (by decide) (fun h62 => ?_) (fun h62 => ?_)
          · have h62b : ¬ rmI (g (a + 1) (i - 1) + up) 12 = g (a + 1) i := h62
            clear h62
            refine b_incN (j := i) (lv' := [(0, _), (1, _), (2, _), (3, _), (4, _), (5, _)]) dX5_risesFrom_68 rfl rfl (by decide) rfl rfl ?_
            refine b_goto (tgt := 9) dX5_risesFrom_71 (by decide) ?_
            refine b_take 5 ?_
            have ih2 := ih (i + 1) (by omega) (by omega) (by omega) (by omega)
            rw [cntN] at ih2
            first
              | (rw [if_pos (by grind [tmP, rsP])] at ih2; exact ih2)
              | (rw [if_neg (by grind [tmP, rsP]), Nat.add_zero] at ih2; exact ih2)
          · have h62b : rmI (g (a + 1) (i - 1) + up) 12 = g (a + 1) i := h62
            clear h62
            refine b_incN (j := cntN (rsP (g (a + 1)) s up) i) (lv' := [(0, _), (1, _), (2, _), (3, _), (4, _), (5, _)]) dX5_risesFrom_65 rfl rfl (by decide) rfl rfl ?_
            refine b_incN (j := i) (lv' := [(0, _), (1, _), (2, _), (3, _), (4, _), (5, _)]) dX5_risesFrom_68 rfl rfl (by decide) rfl rfl ?_
            refine b_goto (tgt := 9) dX5_risesFrom_71 (by decide) ?_
            refine b_take 5 ?_
            have ih2 := ih (i + 1) (by omega) (by omega) (by omega) (by omega)
            rw [cntN] at ih2
            first
              | (rw [if_pos (by grind [tmP, rsP])] at ih2; exact ih2)
              | (rw [if_neg (by grind [tmP, rsP]), Nat.add_zero] at ih2; exact ih2)
  have L0 : n = 0 → B E md_X5_risesFrom (d + 1) Q X 9 [(0, .ref a), (1, .int (nI s)), (2, .int up), (3, .int 0), (4, .int 1)] [] g 0 := by
    intro e0
    subst e0
    refine b_iload dX5_risesFrom_9 rfl ?_
    refine b_aload_n dX5_risesFrom_11 rfl rfl ?_
    refine b_getI lf_X5_21 (life_c ha) dX5_risesFrom_12 ?_
    refine b_icmp_ge (tgt := 74) dX5_risesFrom_15 (by decide) (fun h15 => ?_) (fun h15 => ?_)
    · refine b_iload_n dX5_risesFrom_74 rfl rfl ?_
      refine b_iret rfl (by decide) dX5_risesFrom_75 ?_
      exact hq
    · exact absurd (hn ▸ (show nI 0 ≤ 1 from by decide +kernel)) h15
  refine b_iconst (v := 0) dX5_risesFrom_0 (by decide +kernel) ?_
  refine b_istore_n (lv' := [(0, _), (1, _), (2, _), (3, _)]) dX5_risesFrom_1 rfl (by decide) rfl rfl ?_
  refine b_iconst (v := 1) dX5_risesFrom_2 (by decide +kernel) ?_
  refine b_iload_n dX5_risesFrom_3 rfl rfl ?_
  refine b_max dX5_risesFrom_4 lc_X5_157 (by omega) (by decide) (by decide) ?_
  refine b_istore (lv' := [(0, _), (1, _), (2, _), (3, _), (4, _)]) dX5_risesFrom_7 (by decide) rfl rfl ?_
  by_cases e : s = 0
  · subst e
    rw [if_neg (by decide +kernel)]
    by_cases e1 : n = 0
    · subst e1
      have e2 := L0 rfl
      exact e2
    · have e2 := L 1 (by omega) (by omega) (by omega)
      rw [cntN_z (fun i hi => by simp [rsP]; omega)] at e2
      exact e2
  · have e2 := L s hs (by omega) (Nat.le_refl _)
    rw [cntN_z (fun i hi => by simp [rsP]; omega)] at e2
    have e3 : (if (1 : Int32) < nI s then nI s else 1) = nI s := by
      by_cases e4 : s = 1
      · subst e4; decide +kernel
      · rw [if_pos (show (1 : Int32) < nI s from nI_lt (a := 1) (b := s) (by omega) (by omega))]
    rw [e3]
    exact e2
theorem c_X5_hasAt {E : En} {d : Nat} {Q : QT} {X : XT} {g : G2} {a n m p : Nat} (ha : is_life a) (hn : g a 3 = nI n) (h4 : n ≤ 400) (hm : m ≤ 7) (hp : p ≤ 400) (hq : Q (some (.int (b2i (hasF (g (a + 1)) n (g 82) m p)))) g) : M E md_X5_hasAt d [.ref a, .int (nI p), .ref 82, .int (nI m)] g Q X := by
  refine M.of _ rfl rfl (Nat.le_of_ble_eq_true rfl) ?_
  have L : p + m ≤ n → ∀ i, i ≤ m → anyN (fun i => !(g (a + 1) (p + i) == g 82 i)) i = false → B E md_X5_hasAt d Q X 25 [(0, .ref a), (1, .int (nI p)), (2, .ref 82), (3, .int (nI m)), (4, .int (nI i))] [] g 0 := by
    intro hpm
    have hq2 : Q (some (.int (b2i (!anyN (fun i => !(g (a + 1) (p + i) == g 82 i)) m)))) g := by
      have e : hasF (g (a + 1)) n (g 82) m p = !anyN (fun i => !(g (a + 1) (p + i) == g 82 i)) m := by unfold hasF; rw [decide_eq_true hpm]; rfl
      rw [← e]; exact hq
    refine lp_up (fun i hi ih hF => ?_)
    refine b_iload dX5_hasAt_25 rfl ?_
    refine b_iload_n dX5_hasAt_27 rfl rfl ?_
    refine b_icmp_ge (tgt := 55) dX5_hasAt_28 (by decide) (fun h28 => ?_) (fun h28 => ?_)
    · have e : i = m := by have := (nI_leI (by omega) (by omega)).mp h28; omega
      subst e
      refine b_iconst (v := 1) dX5_hasAt_55 (by decide +kernel) ?_
      refine b_zret (Or.inr rfl) rfl (by decide) dX5_hasAt_56 ?_
      rw [hF] at hq2
      exact hq2
    · have e : i < m := by
        rcases Nat.lt_or_ge i m with q | q
        · exact q
        · exact absurd ((nI_leI (by omega) (by omega)).mpr q) h28
      refine b_aload_n dX5_hasAt_31 rfl rfl ?_
      refine b_getR (b := (a + 1)) lf_X5_9 (life_c ha) (life_r0 ha) dX5_hasAt_32 ?_
      refine b_iload_n dX5_hasAt_35 rfl rfl ?_
      refine b_iload dX5_hasAt_36 rfl ?_
      refine b_iadd dX5_hasAt_38 ?_
      refine b_ildN (j := (p + i)) dX5_hasAt_39 (nI_add p i) (by rw [(life_n1 ha)]; omega) ?_
      refine b_aload_n dX5_hasAt_40 rfl rfl ?_
      refine b_iload dX5_hasAt_41 rfl ?_
      refine b_ildN (j := i) dX5_hasAt_43 (rfl) (by show _ < 7; omega) ?_
      refine b_icmp_eq (tgt := 49) dX5_hasAt_44 (by decide) (fun h44 => ?_) (fun h44 => ?_)
      · refine b_incN (j := i) (lv' := [(0, _), (1, _), (2, _), (3, _), (4, _)]) dX5_hasAt_49 rfl rfl (by decide) rfl rfl ?_
        refine b_goto (tgt := 25) dX5_hasAt_52 (by decide) ?_
        exact ih (i + 1) (by omega) (by omega) (anyN_f hF (by grind))
      · refine b_iconst (v := 0) dX5_hasAt_47 (by decide +kernel) ?_
        refine b_zret (Or.inl rfl) rfl (by decide) dX5_hasAt_48 ?_
        rw [anyN_t (P := (fun i => !(g (a + 1) (p + i) == g 82 i))) e (by grind)] at hq2
        exact hq2
  refine b_iload_n dX5_hasAt_0 rfl rfl ?_
  refine b_if_lt (tgt := 20) dX5_hasAt_1 (by decide) (fun h1 => ?_) (fun h1 => ?_)
  · exact absurd h1 (nI_pos (by omega))
  · refine b_iload_n dX5_hasAt_4 rfl rfl ?_
    refine b_aload_n dX5_hasAt_5 rfl rfl ?_
    refine b_ilen (n := 7) dX5_hasAt_6 rfl (by decide) ?_
    refine b_icmp_gt (tgt := 20) dX5_hasAt_7 (by decide) (fun h7 => ?_) (fun h7 => ?_)
    · exact absurd ((nI_ltI (by omega) (by omega)).mp h7) (by omega)
    · refine b_iload_n dX5_hasAt_10 rfl rfl ?_
      refine b_iload_n dX5_hasAt_11 rfl rfl ?_
      refine b_iadd dX5_hasAt_12 ?_
      refine b_aload_n dX5_hasAt_13 rfl rfl ?_
      refine b_getI lf_X5_21 (life_c ha) dX5_hasAt_14 ?_
      refine b_icmp_le (tgt := 22) dX5_hasAt_17 (by decide) (fun h17 => ?_) (fun h17 => ?_)
      · have e5 : p + m ≤ n := by
          rw [hn, nI_add] at h17
          exact (nI_leI (by omega) (by omega)).mp h17
        refine b_iconst (v := 0) dX5_hasAt_22 (by decide +kernel) ?_
        refine b_istore (lv' := [(0, _), (1, _), (2, _), (3, _), (4, _)]) dX5_hasAt_23 (by decide) rfl rfl ?_
        exact L e5 0 (Nat.zero_le _) rfl
      · have e : ¬ p + m ≤ n := fun q => h17 (by rw [hn, nI_add]; exact nI_le q (by omega))
        have e2 : hasF (g (a + 1)) n (g 82) m p = false := by unfold hasF; rw [decide_eq_false e]; rfl
        rw [e2] at hq
        refine b_iconst (v := 0) dX5_hasAt_20 (by decide +kernel) ?_
        refine b_zret (Or.inl rfl) rfl (by decide) dX5_hasAt_21 ?_
        exact hq
theorem c_X5_firstFrom {E : En} {d : Nat} {Q : QT} {X : XT} {g : G2} {a n m s : Nat} (ha : is_life a) (hn : g a 3 = nI n) (h4 : n ≤ 400) (hm : m ≤ 7) (hs : s ≤ n) (hq : Q (some (.int (fndF (hasF (g (a + 1)) n (g 82) m) (n - s) s))) g) : M E md_X5_firstFrom (d + 1) [.ref a, .int (nI s), .ref 82, .int (nI m)] g Q X := by
  refine M.of _ rfl rfl (Nat.le_of_ble_eq_true rfl) ?_
  have L : ∀ i, i ≤ n → s ≤ i → Q (some (.int (fndF (hasF (g (a + 1)) n (g 82) m) (n - i) i))) g → B E md_X5_firstFrom (d + 1) Q X 3 [(0, .ref a), (1, .int (nI s)), (2, .ref 82), (3, .int (nI m)), (4, .int (nI i))] [] g 0 := by
    refine lp_up (fun i hi ih hsi hq => ?_)
    refine b_iload dX5_firstFrom_3 rfl ?_
    refine b_aload_n dX5_firstFrom_5 rfl rfl ?_
    refine b_getI lf_X5_21 (life_c ha) dX5_firstFrom_6 ?_
    refine b_icmp_ge (tgt := 32) dX5_firstFrom_9 (by decide) (fun h9 => ?_) (fun h9 => ?_)
    · have e : i = n := by have := (nI_leI (by omega) (by omega)).mp (hn ▸ h9); omega
      refine b_iconst (v := (-1)) dX5_firstFrom_32 (by decide +kernel) ?_
      refine b_iret rfl (by decide) dX5_firstFrom_33 ?_
      rw [e, Nat.sub_self, fndF] at hq
      exact hq
    · have e : i < n := by
        rcases Nat.lt_or_ge i n with q | q
        · exact q
        · exact absurd (hn ▸ (nI_leI (by omega) (by omega)).mpr q) h9
      refine b_aload_n dX5_firstFrom_12 rfl rfl ?_
      refine b_iload dX5_firstFrom_13 rfl ?_
      refine b_aload_n dX5_firstFrom_15 rfl rfl ?_
      refine b_iload_n dX5_firstFrom_16 rfl rfl ?_
      refine b_callV (As := [_, _, _]) (st := []) dX5_firstFrom_17 lk_X5_160 lm_X5_hasAt lv_X5_hasAt (life_c ha) (by decide) rfl rfl rfl (by decide) (Nat.le_refl _) (by decide) ?_
      refine c_X5_hasAt ha hn h4 hm (by omega) ?_
      refine b_if_eq (tgt := 26) dX5_firstFrom_20 (by decide) (fun h20 => ?_) (fun h20 => ?_)
      · have eP : (hasF (g (a + 1)) n (g 82) m) i = false := by
          cases e9 : (hasF (g (a + 1)) n (g 82) m) i with
          | false => rfl
          | true => rw [e9] at h20; exact absurd h20 (by decide)
        refine b_incN (j := i) (lv' := [(0, _), (1, _), (2, _), (3, _), (4, _)]) dX5_firstFrom_26 rfl rfl (by decide) rfl rfl ?_
        refine b_goto (tgt := 3) dX5_firstFrom_29 (by decide) ?_
        refine ih (i + 1) (by omega) (by omega) (by omega) ?_
        have e3 : n - i = (n - (i + 1)) + 1 := by omega
        rw [e3, fndF, if_neg (by rw [eP]; decide)] at hq
        exact hq
      · have eP : (hasF (g (a + 1)) n (g 82) m) i = true := by
          cases e9 : (hasF (g (a + 1)) n (g 82) m) i with
          | false => exact absurd (by rw [e9]; rfl) h20
          | true => rfl
        have e3 : n - i = (n - (i + 1)) + 1 := by omega
        rw [e3, fndF, if_pos eP] at hq
        refine b_iload dX5_firstFrom_23 rfl ?_
        refine b_iret rfl (by decide) dX5_firstFrom_25 ?_
        exact hq
  refine b_iload_n dX5_firstFrom_0 rfl rfl ?_
  refine b_istore (lv' := [(0, _), (1, _), (2, _), (3, _), (4, _)]) dX5_firstFrom_1 (by decide) rfl rfl ?_
  exact L s hs (Nat.le_refl _) hq
theorem c_X5_mirrored {E : En} {d : Nat} {Q : QT} {X : XT} {g : G2} {a n b0 e0 : Nat} (ha : is_life a) (hn : g a 3 = nI n) (h4 : n ≤ 400) (hb : b0 < n) (he : e0 ≤ n) (hq : Q (some (.int (mirF (g (a + 1)) n (b0 + 1) e0))) g) : M E md_X5_mirrored d [.ref a, .int (nI b0), .int (nI e0)] g Q X := by
  refine M.of _ rfl rfl (Nat.le_of_ble_eq_true rfl) ?_
  have L : ∀ b, b ≤ n → ∀ e, e ≤ n → Q (some (.int (mirF (g (a + 1)) n b e))) g → B E md_X5_mirrored d Q X 5 [(0, .ref a), (1, .int (nI b0)), (2, .int (nI e0)), (3, .int (bgI b)), (4, .int (nI e))] [] g 0 := by
    intro b
    induction b with
    | zero =>
      intro _ e he hq
      show B E md_X5_mirrored d Q X 5 [(0, .ref a), (1, .int (nI b0)), (2, .int (nI e0)), (3, .int (-1)), (4, .int (nI e))] [] g 0
      refine b_iload_n dX5_mirrored_5 rfl rfl ?_
      refine b_if_lt (tgt := 43) dX5_mirrored_6 (by decide) (fun h6 => ?_) (fun h6 => ?_)
      · refine b_iload dX5_mirrored_43 rfl ?_
        refine b_iload_n dX5_mirrored_45 rfl rfl ?_
        refine b_isub dX5_mirrored_46 ?_
        refine b_iconst (v := 1) dX5_mirrored_47 (by decide +kernel) ?_
        refine b_isub dX5_mirrored_48 ?_
        refine b_iret rfl (by decide) dX5_mirrored_49 ?_
        exact hq
      · exact absurd (show (-1 : Int32) < 0 from by decide +kernel) h6
    | succ b ih0 =>
      intro hb e he hq
      have ih : ∀ c, c = b → ∀ e, e ≤ n → Q (some (.int (mirF (g (a + 1)) n c e))) g → B E md_X5_mirrored d Q X 5 [(0, .ref a), (1, .int (nI b0)), (2, .int (nI e0)), (3, .int (bgI c)), (4, .int (nI e))] [] g 0 := fun c hc => hc ▸ ih0 (by omega)
      show B E md_X5_mirrored d Q X 5 [(0, .ref a), (1, .int (nI b0)), (2, .int (nI e0)), (3, .int (nI b)), (4, .int (nI e))] [] g 0
      refine b_iload_n dX5_mirrored_5 rfl rfl ?_
      refine b_if_lt (tgt := 43) dX5_mirrored_6 (by decide) (fun h6 => ?_) (fun h6 => ?_)
      · exact absurd h6 (nI_pos (by omega))
      · refine b_iload dX5_mirrored_9 rfl ?_
        refine b_aload_n dX5_mirrored_11 rfl rfl ?_
        refine b_getI lf_X5_21 (life_c ha) dX5_mirrored_12 ?_
        refine b_icmp_ge (tgt := 43) dX5_mirrored_15 (by decide) (fun h15 => ?_) (fun h15 => ?_)
        · have e2 : ¬ e < n := fun q => by rw [hn] at h15; exact absurd ((nI_leI (by omega) (by omega)).mp h15) (by omega)
          rw [mirF, if_neg (fun q => e2 q.1)] at hq
          refine b_iload dX5_mirrored_43 rfl ?_
          refine b_iload_n dX5_mirrored_45 rfl rfl ?_
          refine b_isub dX5_mirrored_46 ?_
          refine b_iconst (v := 1) dX5_mirrored_47 (by decide +kernel) ?_
          refine b_isub dX5_mirrored_48 ?_
          refine b_iret rfl (by decide) dX5_mirrored_49 ?_
          exact hq
        · have e2 : e < n := by
            rcases Nat.lt_or_ge e n with q | q
            · exact q
            · exact absurd (hn ▸ (nI_leI (by omega) (by omega)).mpr q) h15
          refine b_aload_n dX5_mirrored_18 rfl rfl ?_
          refine b_getR (b := (a + 1)) lf_X5_9 (life_c ha) (life_r0 ha) dX5_mirrored_19 ?_
          refine b_iload_n dX5_mirrored_22 rfl rfl ?_
          refine b_ildN (j := b) dX5_mirrored_23 (rfl) (by rw [(life_n1 ha)]; omega) ?_
          refine b_aload_n dX5_mirrored_24 rfl rfl ?_
          refine b_getR (b := (a + 1)) lf_X5_9 (life_c ha) (life_r0 ha) dX5_mirrored_25 ?_
          refine b_iload dX5_mirrored_28 rfl ?_
          refine b_ildN (j := e) dX5_mirrored_30 (rfl) (by rw [(life_n1 ha)]; omega) ?_
          refine b_icmp_ne (tgt := 43) dX5_mirrored_31 (by decide) (fun h31 => ?_) (fun h31 => ?_)
          · rw [mirF, if_neg (fun q => h31 q.2)] at hq
            refine b_iload dX5_mirrored_43 rfl ?_
            refine b_iload_n dX5_mirrored_45 rfl rfl ?_
            refine b_isub dX5_mirrored_46 ?_
            refine b_iconst (v := 1) dX5_mirrored_47 (by decide +kernel) ?_
            refine b_isub dX5_mirrored_48 ?_
            refine b_iret rfl (by decide) dX5_mirrored_49 ?_
            exact hq
          · refine b_iinc (v := bgI b) (lv' := [(0, _), (1, _), (2, _), (3, _), (4, _)]) dX5_mirrored_34 rfl (by cases b with | zero => decide +kernel | succ c => exact pk_m1 c) (by decide) rfl rfl ?_
            refine b_incN (j := e) (lv' := [(0, _), (1, _), (2, _), (3, _), (4, _)]) dX5_mirrored_37 rfl rfl (by decide) rfl rfl ?_
            refine b_goto (tgt := 5) dX5_mirrored_40 (by decide) ?_
            exact ih b (by omega) (e + 1) (by omega) (by rw [mirF, if_pos ⟨e2, h31⟩] at hq; exact hq)
  refine b_iload_n dX5_mirrored_0 rfl rfl ?_
  refine b_istore_n (lv' := [(0, _), (1, _), (2, _), (3, _)]) dX5_mirrored_1 rfl (by decide) rfl rfl ?_
  refine b_iload_n dX5_mirrored_2 rfl rfl ?_
  refine b_istore (lv' := [(0, _), (1, _), (2, _), (3, _), (4, _)]) dX5_mirrored_3 (by decide) rfl rfl ?_
  exact L (b0 + 1) hb e0 he hq
