def nxS (s : Int32) : Int32 := s * 1103515245 + 12345
def drV (s : Int32) (n : Int32) : Int32 := rmI (ushI s 16 &&& 32767) n
theorem b_32767 : ∀ i, i < 32 → bt 32767 i = decide (i < 15) := by decide +kernel
theorem dr_eq (s : Int32) : (s >>> (16 &&& 31)) &&& 32767 = ushI s 16 &&& 32767 := by
  refine b_ext (fun i hi => ?_)
  have e1 : bt (s >>> ((16 : Int32) &&& 31)) i = if 16 + i < 32 then bt s (16 + i) else bt s 31 := b_sshr 16 (by decide) s hi
  have e2 : bt (ushI s 16) i = bt s (16 + i) := b_ushr 16 (by decide) s i
  rw [b_and, b_and, b_32767 i hi, e1, e2]
  by_cases h : i < 15
  · rw [if_pos (by omega)]
  · rw [decide_eq_false h]; simp
theorem drV_ok {s : Int32} {n : Nat} (h0 : 0 < n) (hn : n < 2 ^ 31) : ∃ d, d < n ∧ drV s (nI n) = nI d := by
  unfold drV
  rw [pk_and (ushI s 16) 15 (by decide)]
  have h1 : (ushI s 16).toBitVec.toNat % 2 ^ 15 < 2 ^ 15 := Nat.mod_lt _ (by decide)
  exact ⟨_, Nat.mod_lt _ h0, pk_rem (by omega) h0 hn⟩
def basS (S : LfS) (p : Nat) (x : Int32) : LfS := (l_n S, l_fn S, up2 (l_g S) 5 p x)
theorem basS_c {S : LfS} {p : Nat} {x : Int32} {c : Nat} (hc : c ≠ 5) : l_g (basS S p x) c = l_g S c := by
  show up2 (l_g S) 5 p x c = _
  exact up2_f _ _ _ _ hc
theorem basS_5 (S : LfS) (p : Nat) (x : Int32) (q : Nat) : l_g (basS S p x) 5 q = if q = p then x else l_g S 5 q := by
  show up2 (l_g S) 5 p x 5 q = _
  rw [up2_if]
/-- what befalls one: the class's way and the model's -/
def bfS (S : LfS) (p : Nat) (x : Int32) : LfS := if !(btI (l_g S 3 3) (nI p) == 0) then S else if x = 0 then setS S 2 (l_g S 3 2 ^^^ sbI (nI p)) else if x = 1 then setS S 3 (l_g S 3 3 ||| sbI (nI p)) else if x = 2 then basS S p (byM (l_g S 5 p + 1)) else S
def bfM (S : LfS) (p : Nat) (x : Int32) : LfS := if x = 0 then (if !(btI (l_g S 3 3) (nI p) == 0) then S else setS S 2 (l_g S 3 2 ^^^ sbI (nI p))) else if x = 1 then setS S 3 (l_g S 3 3 ||| sbI (nI p)) else if x = 2 then basS S p (byM (l_g S 5 p + 1)) else S
def cnC (T : TD) (S : LfS) (s : Int32) : Nat → LfS × Int32
  | 0 => (S, s)
  | k + 1 => if t_n T = 0 then (yrM T (-1) (cnC T S s k).1, (cnC T S s k).2) else (yrM T (-1) (bfS (cnC T S s k).1 (drV (nxS (cnC T S s k).2) (nI (t_n T))).toNatClampNeg (drV (nxS (nxS (cnC T S s k).2)) 5)), nxS (nxS (cnC T S s k).2))
def cnM (T : TD) (S : LfS) (s : Int32) : Nat → LfS × Int32
  | 0 => (S, s)
  | k + 1 => if t_n T = 0 then (yrM T (-1) (cnM T S s k).1, (cnM T S s k).2) else (yrM T (-1) (bfM (cnM T S s k).1 (drV (nxS (cnM T S s k).2) (nI (t_n T))).toNatClampNeg (drV (nxS (nxS (cnM T S s k).2)) 5)), nxS (nxS (cnM T S s k).2))
/-- alike but for the bases of the dead -/
def eqD (T : TD) (S R : LfS) : Prop := l_n S = l_n R ∧ l_fn S = l_fn R ∧ (∀ c, c ≠ 5 → l_g S c = l_g R c) ∧ ∀ p, p < t_n T → btI (l_g S 3 3) (nI p) = 0 → l_g S 5 p = l_g R 5 p
theorem eqD.ns {T : TD} {sp : Int32} {S R : LfS} {p : Nat} (h : eqD T S R) (hp : l_g S 5 p = l_g R 5 p) : nsM T sp S p = nsM T sp R p := by
  obtain ⟨a1, a2, a3, _⟩ := h
  have k0 := a3 0 (by decide)
  have k1 := a3 1 (by decide)
  have k3 := a3 3 (by decide)
  have k4 := a3 4 (by decide)
  have k6 := a3 6 (by decide)
  have k7 := a3 7 (by decide)
  have ea : askM T S p = askM T R p := by
    funext j
    unfold askM lasM sunM
    rw [a1, k0, k1, k3, k4, hp]
  unfold nsM vaM
  rw [a1, a2, k0, k1, k3, k6, k7, hp, ea]
theorem eqD.stp {T : TD} {sp : Int32} {S R : LfS} {i : Nat} (oT : okT T) (hi : i < t_n T) (h : eqD T S R) : eqD T (stpM T sp S i) (stpM T sp R i) := by
  obtain ⟨q, hq, eq⟩ := oT.2.2 i hi
  have eo : ordM T i = q := by unfold ordM; rw [eq, nI_cl (by have := oT.1; omega)]
  have k3 := h.2.2.1 3 (by decide)
  unfold stpM
  rw [eo, ← h.1, ← k3]
  by_cases c : l_n S < 400 ∧ btI (l_g S 3 3) (nI q) = 0
  · rw [if_pos c, if_pos c, ← h.ns (h.2.2.2 q hq c.2)]
    refine ⟨by show l_n S + 1 = l_n R + 1; rw [h.1], h.2.1, fun c hc => ?_, fun p hp hd => ?_⟩
    · show up2 (up2 (up2 (l_g S) 0 (l_n S) _) 1 (l_n S) (nI q)) 2 (l_n S) (l_g S 3 0) c = up2 (up2 (up2 (l_g R) 0 (l_n R) _) 1 (l_n R) (nI q)) 2 (l_n R) (l_g R 3 0) c
      funext j
      simp only [up2]
      rw [h.1, k3, h.2.2.1 c hc]
    · rw [addM_c _ _ _ (by decide), addM_c _ _ _ (by decide)]
      rw [addM_c _ _ _ (by decide)] at hd
      exact h.2.2.2 p hp hd
  · rw [if_neg c, if_neg c]; exact h
theorem eqD.run {T : TD} {sp : Int32} {S R : LfS} (oT : okT T) (h : eqD T S R) : ∀ i, i ≤ t_n T → eqD T (runM T sp S i) (runM T sp R i)
  | 0, _ => h
  | i + 1, hi => (eqD.run oT h i (by omega)).stp oT (by omega)
theorem eqD.yr {T : TD} {sp : Int32} {S R : LfS} (oT : okT T) (h : eqD T S R) : eqD T (yrM T sp S) (yrM T sp R) := by
  have k := h.run (sp := sp) oT (t_n T) (Nat.le_refl _)
  have k3 := k.2.2.1 3 (by decide)
  refine ⟨k.1, k.2.1, fun c hc => ?_, fun p hp hd => ?_⟩
  · show up2 (l_g (runM T sp S (t_n T))) 3 0 (l_g (runM T sp S (t_n T)) 3 0 + 1) c = up2 (l_g (runM T sp R (t_n T))) 3 0 (l_g (runM T sp R (t_n T)) 3 0 + 1) c
    funext j
    simp only [up2]
    rw [k3, k.2.2.1 c hc]
  · rw [yrM_c (by decide), yrM_c (by decide)]
    rw [yrM_3 (by decide)] at hd
    exact h.2.2.2 p hp hd
theorem or_same {x : Int32} {p : Nat} (hp : p < 32) (h : bt x p = true) : x ||| sbI (nI p) = x := by
  refine b_ext (fun i hi => ?_)
  rw [b_or, bt_sb hp hi]
  by_cases e : i = p
  · subst e; rw [h]; rfl
  · rw [decide_eq_false e, Bool.or_false]
theorem setS_k {S : LfS} {j k : Nat} {x : Int32} (h : k ≠ j) : l_g (setS S j x) 3 k = l_g S 3 k := by
  show up2 (l_g S) 3 j x 3 k = _
  exact up2_k _ _ _ _ h
theorem eqD.bf {T : TD} {S R : LfS} {p : Nat} {x : Int32} (h8 : t_n T ≤ 8) (hp : p < t_n T) (h : eqD T S R) : eqD T (bfS S p x) (bfM R p x) := by
  have k3 := h.2.2.1 3 (by decide)
  obtain ⟨a1, a2, a3, a4⟩ := h
  unfold bfS bfM
  rw [← k3]
  by_cases hd : btI (l_g S 3 3) (nI p) = 0
  · have hz0 : ¬ ((!((0 : Int32) == 0)) = true) := by decide
    rw [hd, if_neg hz0, if_neg hz0]
    by_cases x0 : x = 0
    · rw [if_pos x0, if_pos x0]
      refine ⟨a1, a2, fun c hc => ?_, fun q hq hz => ?_⟩
      · show up2 (l_g S) 3 2 _ c = up2 (l_g R) 3 2 _ c
        funext j; simp only [up2]; rw [a3 c hc]
      · rw [setS_c (by decide), setS_c (by decide)]
        exact a4 q hq (by rw [setS_k (by decide)] at hz; exact hz)
    · rw [if_neg x0, if_neg x0]
      by_cases x1 : x = 1
      · rw [if_pos x1, if_pos x1]
        refine ⟨a1, a2, fun c hc => ?_, fun q hq hz => ?_⟩
        · show up2 (l_g S) 3 3 _ c = up2 (l_g R) 3 3 _ c
          funext j; simp only [up2]; rw [a3 c hc]
        · rw [setS_c (by decide), setS_c (by decide)]
          refine a4 q hq ?_
          rw [setS_j] at hz
          have z := btI_eq0 (by omega) hz
          rw [b_or, Bool.or_eq_false_iff] at z
          rcases btI_01 (l_g S 3 3) (nI q) with y | y
          · exact y
          · have := btI_bt (m := l_g S 3 3) (p := q) (by omega)
            rw [z.1, y] at this; exact absurd this (by decide)
      · rw [if_neg x1, if_neg x1]
        by_cases x2 : x = 2
        · rw [if_pos x2, if_pos x2]
          refine ⟨a1, a2, fun c hc => by rw [basS_c hc, basS_c hc]; exact a3 c hc, fun q hq hz => ?_⟩
          rw [basS_c (by decide)] at hz
          rw [basS_5, basS_5, a4 p hp hd, a4 q hq hz]
        · rw [if_neg x2, if_neg x2]; exact ⟨a1, a2, a3, a4⟩
  · have hd1 : (!(btI (l_g S 3 3) (nI p) == 0)) = true := by rw [beq_eq_false_iff_ne.mpr hd]; rfl
    have hbt : bt (l_g S 3 3) p = true := by
      have := btI_bt (m := l_g S 3 3) (p := p) (by omega)
      rw [beq_eq_false_iff_ne.mpr hd] at this
      cases e : bt (l_g S 3 3) p with
      | true => rfl
      | false => rw [e] at this; exact absurd this (by decide)
    rw [if_pos hd1, if_pos hd1]
    by_cases x0 : x = 0
    · rw [if_pos x0]; exact ⟨a1, a2, a3, a4⟩
    · rw [if_neg x0]
      by_cases x1 : x = 1
      · rw [if_pos x1, or_same (by omega) hbt]
        refine ⟨a1, a2, fun c hc => ?_, fun q hq hz => by rw [setS_c (by decide)]; exact a4 q hq hz⟩
        show l_g S c = up2 (l_g R) 3 3 (l_g S 3 3) c
        funext j; simp only [up2]
        by_cases e : c = 3 ∧ j = 3
        · rw [if_pos e, e.1, e.2]
        · rw [if_neg e, a3 c hc]
      · rw [if_neg x1]
        by_cases x2 : x = 2
        · rw [if_pos x2]
          refine ⟨a1, a2, fun c hc => by rw [basS_c hc]; exact a3 c hc, fun q hq hz => ?_⟩
          rw [basS_5, if_neg (c := q = p) (fun z => hd (by rw [← z]; exact hz))]; exact a4 q hq hz
        · rw [if_neg x2]; exact ⟨a1, a2, a3, a4⟩
theorem cn_eq {T : TD} {S : LfS} {s : Int32} (oT : okT T) : ∀ k, eqD T (cnC T S s k).1 (cnM T S s k).1 ∧ (cnC T S s k).2 = (cnM T S s k).2
  | 0 => ⟨⟨rfl, rfl, fun _ _ => rfl, fun _ _ _ => rfl⟩, rfl⟩
  | k + 1 => by
    obtain ⟨h1, h2⟩ := cn_eq (S := S) (s := s) oT k
    rw [cnC, cnM]
    by_cases c : t_n T = 0
    · rw [if_pos c, if_pos c]; exact ⟨h1.yr oT, h2⟩
    · rw [if_neg c, if_neg c]
      have h8 := oT.1
      obtain ⟨d, d1, d2⟩ := drV_ok (s := nxS (cnC T S s k).2) (n := t_n T) (by omega) (by omega)
      refine ⟨?_, by rw [h2]⟩
      show eqD T (yrM T (-1) _) (yrM T (-1) _)
      rw [← h2, d2, nI_cl (by omega)]
      exact (h1.bf h8 d1).yr oT
theorem basS_pre (S : LfS) (p : Nat) (x : Int32) : preL S (basS S p x) := ⟨Nat.le_refl _, fun c hc i _ => by rw [basS_c (by omega)]⟩
theorem bfS_pre (S : LfS) (p : Nat) (x : Int32) : preL S (bfS S p x) := by
  unfold bfS; split
  · exact preL.rf S
  · split
    · exact setS_pre _ _ _
    · split
      · exact setS_pre _ _ _
      · split
        · exact basS_pre _ _ _
        · exact preL.rf S
theorem bfM_pre (S : LfS) (p : Nat) (x : Int32) : preL S (bfM S p x) := by
  unfold bfM; split
  · split
    · exact preL.rf S
    · exact setS_pre _ _ _
  · split
    · exact setS_pre _ _ _
    · split
      · exact basS_pre _ _ _
      · exact preL.rf S
theorem okS.bas {T : TD} {S : LfS} {p : Nat} {v : Int32} (o : okS T S) : okS T (basS S p (byM v)) := by
  obtain ⟨a, b, c, e⟩ := o
  refine ⟨a, by rw [basS_c (by decide)]; exact b, by rw [basS_c (by decide)]; exact c, fun q hq => ?_⟩
  rw [basS_5]
  by_cases z : q = p
  · rw [if_pos z]; exact byM_ok v
  · rw [if_neg z]; exact e q hq
theorem okS.bfs {T : TD} {S : LfS} {p : Nat} {x : Int32} (o : okS T S) : okS T (bfS S p x) := by
  unfold bfS; split
  · exact o
  · split
    · exact o.set
    · split
      · exact o.set
      · split
        · exact o.bas
        · exact o
theorem okS.bfm {T : TD} {S : LfS} {p : Nat} {x : Int32} (o : okS T S) : okS T (bfM S p x) := by
  unfold bfM; split
  · split
    · exact o
    · exact o.set
  · split
    · exact o.set
    · split
      · exact o.bas
      · exact o
theorem cnC_ok {T : TD} {S : LfS} {s : Int32} (oT : okT T) (o : okS T S) : ∀ k, okS T (cnC T S s k).1 ∧ preL S (cnC T S s k).1
  | 0 => ⟨o, preL.rf S⟩
  | k + 1 => by
    obtain ⟨h1, h2⟩ := cnC_ok (s := s) oT o k
    rw [cnC]; split
    · exact ⟨h1.yr oT, h2.tr (yrM_pre _ _ _)⟩
    · exact ⟨h1.bfs.yr oT, h2.tr ((bfS_pre _ _ _).tr (yrM_pre _ _ _))⟩
theorem cnM_ok {T : TD} {S : LfS} {s : Int32} (oT : okT T) (o : okS T S) : ∀ k, okS T (cnM T S s k).1 ∧ preL S (cnM T S s k).1
  | 0 => ⟨o, preL.rf S⟩
  | k + 1 => by
    obtain ⟨h1, h2⟩ := cnM_ok (s := s) oT o k
    rw [cnM]; split
    · exact ⟨h1.yr oT, h2.tr (yrM_pre _ _ _)⟩
    · exact ⟨h1.bfm.yr oT, h2.tr ((bfM_pre _ _ _).tr (yrM_pre _ _ _))⟩
def cenV (T : TD) (R : LfS) (w : Int32) : Int32 := if w = 0 then nI (l_n R) else if w = 1 then nI (cntN (tmP (l_g R 0) 12 0) (l_n R)) else likV T R
def cenM (T : TD) (S : LfS) (s n w : Int32) : Nat × Int32 := if inB w.toInt 0 2 then (if inB n.toInt 0 20 then (0, cenV T (cnM T S s n.toNatClampNeg).1 w) else (2, 0)) else (1, 0)
theorem cenM_1 {T : TD} {S : LfS} {s n w : Int32} (h : inB w.toInt 0 2 = false) : cenM T S s n w = (1, 0) := by unfold cenM; rw [h]; rfl
theorem cenM_2 {T : TD} {S : LfS} {s n w : Int32} (h : inB w.toInt 0 2 = true) (h2 : inB n.toInt 0 20 = false) : cenM T S s n w = (2, 0) := by unfold cenM; rw [h, h2]; rfl
theorem cenM_0 {T : TD} {S : LfS} {s w : Int32} {n : Nat} (h : inB w.toInt 0 2 = true) (h2 : n ≤ 20) : cenM T S s (nI n) w = (0, cenV T (cnM T S s n).1 w) := by unfold cenM; rw [h, inB_nI (by omega) (by omega) (by omega), if_pos rfl, if_pos rfl, nI_cl (by omega)]
theorem cenV_eq {T : TD} {S R : LfS} {w : Int32} (h : eqD T S R) : cenV T S w = cenV T R w := by
  unfold cenV likV; rw [h.1, h.2.2.1 0 (by decide)]
theorem RLf.bas {g : G2} {a p : Nat} {T : TD} {sp x : Int32} {S : LfS} (hR : RLf g a T sp S) : RLf (up2 g (a + 5) p x) a T sp (basS S p x) := by
  obtain ⟨b1, b2, b3, b4, b5, b6, b7, b8, b9, b10, b11, b12, b13, b14, b15⟩ := hR
  refine ⟨by rw [up2_a _ _ _ _ (by omega)]; exact b1, b2, by rw [up2_f _ _ _ _ (by omega), basS_c (by decide)]; exact b3, by rw [up2_f _ _ _ _ (by omega), basS_c (by decide)]; exact b4, by rw [up2_f _ _ _ _ (by omega), basS_c (by decide)]; exact b5, fun j hj => by rw [up2_a _ _ _ _ (by omega), basS_c (by decide)]; exact b6 j hj, by rw [up2_f _ _ _ _ (by omega), basS_c (by decide)]; exact b7, fun q hq => ?_, by rw [up2_f _ _ _ _ (by omega)]; exact b9, b10, by rw [up2_f _ _ _ _ (by omega), basS_c (by decide)]; exact b11, by rw [up2_f _ _ _ _ (by omega), basS_c (by decide)]; exact b12, by rw [up2_a _ _ _ _ (by omega), basS_c (by decide)]; exact b13, fun q hq => ?_, by rw [up2_f _ _ _ _ (by omega)]; exact b15⟩
  · rw [basS_5, up2_if, b8 q hq]
  · rw [up2_a _ _ _ _ (by omega), b14 q hq]; unfold sunM; rw [basS_c (by decide)]; rfl
theorem ba1_tab : ∀ b, b < 12 → rmI (nI b + 1) 12 = byM (nI b + 1) := by decide +kernel
theorem RLf.bf {g : G2} {a p : Nat} {T : TD} {sp x : Int32} {S : LfS} (o : okS T S) (hp : p < t_n T) (hR : RLf g a T sp S) : RLf (bfC g a p x) a T sp (bfS S p x) := by
  unfold bfC bfS
  rw [hR.de, hR.aw]
  split
  · exact hR
  · split
    · exact hR.set (j := 2) (by decide)
    · split
      · exact hR.set (j := 3) (by decide)
      · split
        · obtain ⟨b, hb, eb⟩ := o.2.2.2 p hp
          rw [hR.ba p hp, eb, ba1_tab b hb]; exact hR.bas
        · exact hR
theorem FU.bf {t p : Nat} {g : G2} {x : Int32} : FU t g (bfC g 41 p x) := fun y y1 _ => by
  unfold bfC; split
  · rfl
  · split
    · exact up2_f _ _ _ _ (by omega)
    · split
      · exact up2_f _ _ _ _ (by omega)
      · split
        · exact up2_f _ _ _ _ (by omega)
        · rfl
theorem c_X11_nextSeed {E : En} {d : Nat} {Q : QT} {X : XT} {g : G2} {s : Int32} (hq : Q (some (.int (nxS s))) g) : M E md_X11_nextSeed d [.int s] g Q X := by
  refine M.of _ rfl rfl (Nat.le_of_ble_eq_true rfl) ?_
  refine b_iload_n dX11_nextSeed_0 rfl rfl ?_
  refine b_ldcw lx_X11_383 dX11_nextSeed_1 ?_
  refine b_imul dX11_nextSeed_4 ?_
  refine b_sipush (v := 12345) dX11_nextSeed_5 (by decide +kernel) ?_
  refine b_iadd dX11_nextSeed_8 ?_
  refine b_iret rfl (by decide) dX11_nextSeed_9 ?_
  exact hq
theorem c_X11_draw {E : En} {d : Nat} {Q : QT} {X : XT} {g : G2} {s : Int32} {n : Nat} (h0 : 0 < n) (hn : n < 2 ^ 31) (hq : Q (some (.int (drV s (nI n)))) g) : M E md_X11_draw d [.int s, .int (nI n)] g Q X := by
  refine M.of _ rfl rfl (Nat.le_of_ble_eq_true rfl) ?_
  refine b_iload_n dX11_draw_0 rfl rfl ?_
  refine b_if_le (tgt := 17) dX11_draw_1 (by decide) (fun h1 => ?_) (fun h1 => ?_)
  · exact absurd h1 (nI_nle h0 hn)
  · refine b_iload_n dX11_draw_4 rfl rfl ?_
    refine b_bipush (v := 16) dX11_draw_5 (by decide +kernel) ?_
    refine b_iushr dX11_draw_7 rfl ?_
    refine b_sipush (v := 32767) dX11_draw_8 (by decide +kernel) ?_
    refine b_iand dX11_draw_11 ?_
    refine b_iload_n dX11_draw_12 rfl rfl ?_
    refine b_irem dX11_draw_13 (nI_ne0 h0 hn) ?_
    refine b_goto (tgt := 18) dX11_draw_14 (by decide) ?_
    refine b_iret rfl (by decide) dX11_draw_18 ?_
    exact hq
theorem c_X11_century {E : En} {d : Nat} {Q : QT} {X : XT} {g : G2} {t : Nat} (ht : is_town t) (h0 : g 0 2 = nI t) {T : TD} {S : LfS} {s n0 w : Int32} (hR : RLf g 31 T (-1) S) (hT : RTn g t T) (oT : okT T) (oS : okS T S) (hq : ∀ h, FC g h → (cenM T S s n0 w).1 = 0 → Q (some (.int (cenM T S s n0 w).2)) h) (hx : ∀ h, FC g h → (cenM T S s n0 w).1 = 1 → X nsN h) (hy : ∀ h, FC g h → (cenM T S s n0 w).1 = 2 → X iaN h) : M E md_X11_century (d + 8) [.ref 0, .int s, .int n0, .int w] g Q X := by
  refine M.of _ rfl rfl (Nat.le_of_ble_eq_true rfl) ?_
  have ht5 : t = 5 ∨ t = 18 := ht
  refine b_iload_n dX11_century_0 rfl rfl ?_
  refine b_iconst (v := 2) dX11_century_1 (by decide +kernel) ?_
  refine b_callS (As := [_, _]) (st := []) dX11_century_2 lk_X11_198 lm_X11_needWhat ls_X11_needWhat rfl rfl (Nat.le_of_ble_eq_true rfl) (Nat.le_refl _) (by decide) ?_
  refine c_X11_needWhat (fun hw => ?_) (fun hw => hx g (FC.rf g) (by rw [cenM_1 hw]))
  refine b_iload_n dX11_century_5 rfl rfl ?_
  refine b_if_lt (tgt := 15) dX11_century_6 (by decide) (fun h6 => ?_) (fun h6 => ?_)
  · have hy := hy g (FC.rf g) (by rw [cenM_2 hw (in_lt h6)])
    refine b_throwW (text := "not so many years") (n := 39) rfl th_iae (by decide +kernel) (by omega) (by decide) (by decide) dX11_century_15 dX11_century_18 dX11_century_19 dX11_century_22 dX11_century_25 ?_
    exact hy
  · refine b_iload_n dX11_century_9 rfl rfl ?_
    refine b_bipush (v := 20) dX11_century_10 (by decide +kernel) ?_
    refine b_icmp_le (tgt := 26) dX11_century_12 (by decide) (fun h12 => ?_) (fun h12 => ?_)
    · obtain ⟨n, _, hn, rfl⟩ := inB_ex (a := 0) (b := 20) (in_ok (m := 20) rfl h6 h12)
      have hq : ∀ h, FC g h → (0 : Nat) = 0 → Q (some (.int (cenV T (cnC T S s n).1 w))) h := by rw [cenM_0 hw hn] at hq; rw [cenV_eq (cn_eq oT n).1]; exact hq
      have h8 := hT.le
      have LP : ∀ i, i ≤ n → ∀ h, RLf h 41 T (-1) (cnC T S s i).1 → FU t g h → B E md_X11_century (d + 8) Q X 54 [(0, .ref 0), (1, .int s), (2, .int (nI n)), (3, .int w), (4, .int (cnC T S s i).2), (5, .int (nI i))] [] h 1 := by
        refine lp_up (fun i hi ih h hR3 U => ?_)
        have h5n := hR3.le
        refine b_iload dX11_century_54 rfl ?_
        refine b_iload_n dX11_century_56 rfl rfl ?_
        refine b_icmp_ge (tgt := 130) dX11_century_57 (by decide) (fun h57 => ?_) (fun h57 => ?_)
        · have e57 : n ≤ i := nn_le (a := n) (b := i) (by omega) (by omega) h57
          have ee : i = n := by omega
          subst ee
          refine b_iload_n dX11_century_130 rfl rfl ?_
          refine b_if_ne (tgt := 142) dX11_century_131 (by decide) (fun h131 => ?_) (fun h131 => ?_)
          · refine b_iload_n dX11_century_142 rfl rfl ?_
            refine b_iconst (v := 1) dX11_century_143 (by decide +kernel) ?_
            refine b_icmp_ne (tgt := 157) dX11_century_144 (by decide) (fun h144 => ?_) (fun h144 => ?_)
            · refine b_aload_n dX11_century_157 rfl rfl ?_
              refine b_getR (b := 74) lf_X11_68 rfl rfl dX11_century_158 ?_
              refine b_aload_n dX11_century_161 rfl rfl ?_
              refine b_getD lf_X11_26 rfl (by rw [U 0 (by decide) (by omega)]; exact h0) (town_31 ht) dX11_century_162 ?_
              refine b_aload_n dX11_century_165 rfl rfl ?_
              refine b_getR (b := 41) lf_X11_62 rfl rfl dX11_century_166 ?_
              refine b_callV (As := [_, _]) (st := []) dX11_century_169 lk_X11_298 lm_X6_whole lv_X6_whole rfl (by decide) rfl rfl rfl (Nat.le_of_ble_eq_true rfl) (Nat.le_refl _) (by decide) ?_
              refine c_X6_whole ht is_life41 hR3.n hR3.le (U.tn ht hT).on hT.ole (fun h6 F6 _ => ?_)
              refine b_iret rfl (by decide) dX11_century_172 ?_
              have hq := hq h6 ((U.fc ht).tr (FC.of75 F6)) rfl
              rw [cenV, if_neg h131, if_neg h144] at hq
              rw [show lkM (h (41 + 1)) (h (t + 9)) (l_n (cnC T S s i).1) (t_on T) = likV T (cnC T S s i).1 from lkM_cg hR3.sg (U.tn ht hT).ot _ (Nat.le_refl _) _ (Nat.le_refl _)]
              exact hq
            · refine b_aload_n dX11_century_147 rfl rfl ?_
              refine b_getR (b := 41) lf_X11_62 rfl rfl dX11_century_148 ?_
              refine b_callV (As := []) (st := []) dX11_century_151 lk_X11_146 lm_X5_rests lv_X5_rests (life_c is_life41) (by decide) rfl rfl rfl (Nat.le_of_ble_eq_true rfl) (Nat.le_refl _) (by decide) ?_
              refine c_X5_rests is_life41 hR3.n hR3.le ?_
              refine b_goto (tgt := 172) dX11_century_154 (by decide) ?_
              refine b_iret rfl (by decide) dX11_century_172 ?_
              have hq := hq h (U.fc ht) rfl
              rw [cenV, if_neg h131, if_pos h144, tmP_cg (fun i hi => (hR3.sg i hi).symm)] at hq
              exact hq
          · refine b_aload_n dX11_century_134 rfl rfl ?_
            refine b_getR (b := 41) lf_X11_62 rfl rfl dX11_century_135 ?_
            refine b_getI lf_X11_140 (life_c is_life41) dX11_century_138 ?_
            refine b_topE (y := nI (l_n (cnC T S s i).1)) (hR3.n) ?_
            refine b_iret rfl (by decide) dX11_century_141 ?_
            have hq := hq h (U.fc ht) rfl
            rw [cenV, if_pos h131] at hq
            exact hq
        · have e57 : i < n := nn_nle (a := n) (b := i) (by omega) (by omega) h57
          refine b_aload_n dX11_century_60 rfl rfl ?_
          refine b_getD lf_X11_26 rfl (by rw [U 0 (by decide) (by omega)]; exact h0) (town_31 ht) dX11_century_61 ?_
          refine b_getI lf_X11_124 (town_c ht) dX11_century_64 ?_
          refine b_topE (y := nI (t_n T)) ((U.tn ht hT).n) ?_
          refine b_if_le (tgt := 113) dX11_century_67 (by decide) (fun h67 => ?_) (fun h67 => ?_)
          · have e67 : (t_n T) = 0 := Nat.le_zero.mp (nn_le (b := 0) (by omega) (by decide) h67)
            refine b_aload_n dX11_century_113 rfl rfl ?_
            refine b_getR (b := 41) lf_X11_62 rfl rfl dX11_century_114 ?_
            refine b_aload_n dX11_century_117 rfl rfl ?_
            refine b_getD lf_X11_26 rfl (by rw [U 0 (by decide) (by omega)]; exact h0) (town_31 ht) dX11_century_118 ?_
            refine b_callV (As := [_]) (st := []) dX11_century_121 lk_X11_234 lm_X5_passYear lv_X5_passYear (life_c is_life41) (by decide) rfl rfl rfl (Nat.le_of_ble_eq_true rfl) (Nat.le_refl _) (by decide) ?_
            refine c_X5_passYear is_life41 ht hR3 (U.tn ht hT) (wfT_of oT) (fun h5 F5 hR5 => ?_)
            refine b_incN (j := i) (lv' := [(0, _), (1, _), (2, _), (3, _), (4, _), (5, _)]) dX11_century_124 rfl rfl (by decide) rfl rfl ?_
            refine b_goto (tgt := 54) dX11_century_127 (by decide) ?_
            refine b_take 6 ?_
            have z := ih (i + 1) (by omega) (by omega) h5 ?_ (U.tr (FU.py F5))
            · rw [cnC, if_pos e67] at z
              exact z
            · rw [cnC, if_pos e67]
              exact hR5
          · have e67 : 0 < (t_n T) := nn_nle (b := 0) (by omega) (by decide) h67
            refine b_iload dX11_century_70 rfl ?_
            refine b_callS (As := [_]) (st := []) dX11_century_72 lk_X11_374 lm_X11_nextSeed ls_X11_nextSeed rfl rfl (Nat.le_of_ble_eq_true rfl) (Nat.le_refl _) (by decide) ?_
            refine c_X11_nextSeed ?_
            refine b_istore (lv' := [(0, _), (1, _), (2, _), (3, _), (4, _), (5, _)]) dX11_century_75 (by decide) rfl rfl ?_
            refine b_iload dX11_century_77 rfl ?_
            refine b_aload_n dX11_century_79 rfl rfl ?_
            refine b_getD lf_X11_26 rfl (by rw [U 0 (by decide) (by omega)]; exact h0) (town_31 ht) dX11_century_80 ?_
            refine b_getI lf_X11_124 (town_c ht) dX11_century_83 ?_
            refine b_topE (y := nI (t_n T)) ((U.tn ht hT).n) ?_
            refine b_callS (As := [_, _]) (st := []) dX11_century_86 lk_X11_377 lm_X11_draw ls_X11_draw rfl rfl (Nat.le_of_ble_eq_true rfl) (Nat.le_refl _) (by decide) ?_
            refine c_X11_draw (by omega) (by omega) ?_
            obtain ⟨d9, d1, d2⟩ := drV_ok (s := nxS (cnC T S s i).2) (n := t_n T) (by omega) (by omega)
            rw [d2]
            refine b_istore (lv' := [(0, _), (1, _), (2, _), (3, _), (4, _), (5, _), (6, _)]) dX11_century_89 (by decide) rfl rfl ?_
            refine b_iload dX11_century_91 rfl ?_
            refine b_callS (As := [_]) (st := []) dX11_century_93 lk_X11_374 lm_X11_nextSeed ls_X11_nextSeed rfl rfl (Nat.le_of_ble_eq_true rfl) (Nat.le_refl _) (by decide) ?_
            refine c_X11_nextSeed ?_
            refine b_istore (lv' := [(0, _), (1, _), (2, _), (3, _), (4, _), (5, _), (6, _)]) dX11_century_96 (by decide) rfl rfl ?_
            refine b_aload_n dX11_century_98 rfl rfl ?_
            refine b_getR (b := 41) lf_X11_62 rfl rfl dX11_century_99 ?_
            refine b_iload dX11_century_102 rfl ?_
            refine b_iload dX11_century_104 rfl ?_
            refine b_iconst (v := 5) dX11_century_106 (by decide +kernel) ?_
            refine b_callS (As := [_, _]) (st := [_, _]) dX11_century_107 lk_X11_377 lm_X11_draw ls_X11_draw rfl rfl (Nat.le_of_ble_eq_true rfl) (Nat.le_refl _) (by decide) ?_
            refine c_X11_draw (n := 5) (by decide) (by decide) ?_
            refine b_callV (As := [_, _]) (st := []) dX11_century_110 lk_X11_380 lm_X5_befall lv_X5_befall (life_c is_life41) (by decide) rfl rfl rfl (Nat.le_of_ble_eq_true rfl) (Nat.le_refl _) (by decide) ?_
            refine c_X5_befall is_life41 (by omega) ?_
            have hR4 := RLf.bf (x := drV (nxS (nxS (cnC T S s i).2)) 5) (cnC_ok oT oS i).1 d1 hR3
            refine b_aload_n dX11_century_113 rfl rfl ?_
            refine b_getR (b := 41) lf_X11_62 rfl rfl dX11_century_114 ?_
            refine b_aload_n dX11_century_117 rfl rfl ?_
            refine b_getD lf_X11_26 rfl (by rw [(U.tr FU.bf) 0 (by decide) (by omega)]; exact h0) (town_31 ht) dX11_century_118 ?_
            refine b_callV (As := [_]) (st := []) dX11_century_121 lk_X11_234 lm_X5_passYear lv_X5_passYear (life_c is_life41) (by decide) rfl rfl rfl (Nat.le_of_ble_eq_true rfl) (Nat.le_refl _) (by decide) ?_
            refine c_X5_passYear is_life41 ht hR4 (FU.tn ht (U.tr FU.bf) hT) (wfT_of oT) (fun h5 F5 hR5 => ?_)
            refine b_incN (j := i) (lv' := [(0, _), (1, _), (2, _), (3, _), (4, _), (5, _), (6, _)]) dX11_century_124 rfl rfl (by decide) rfl rfl ?_
            refine b_goto (tgt := 54) dX11_century_127 (by decide) ?_
            refine b_take 6 ?_
            have z := ih (i + 1) (by omega) (by omega) h5 ?_ (U.tr (FU.bf.tr (FU.py F5)))
            · rw [cnC, if_neg (by omega)] at z
              exact z
            · rw [cnC, if_neg (by omega), d2, nI_cl (by omega)]
              exact hR5
      refine b_aload_n dX11_century_26 rfl rfl ?_
      refine b_getR (b := 41) lf_X11_62 rfl rfl dX11_century_27 ?_
      refine b_aload_n dX11_century_30 rfl rfl ?_
      refine b_getR (b := 31) lf_X11_33 rfl rfl dX11_century_31 ?_
      refine b_callV (As := [_]) (st := []) dX11_century_34 lk_X11_305 lm_X5_copyTune lv_X5_copyTune (life_c is_life41) (by decide) rfl rfl rfl (Nat.le_of_ble_eq_true rfl) (Nat.le_refl _) (by decide) ?_
      refine c_X5_copyTune is_life41 is_life31 (by decide) hR.n hR.le (fun h1 F1 t1 t2 t3 => ?_)
      have U1 : FU t g h1 := FU.ct F1
      have tu := TU.ct hR t1 t2 t3
      refine b_aload_n dX11_century_37 rfl rfl ?_
      refine b_getR (b := 41) lf_X11_62 rfl rfl dX11_century_38 ?_
      refine b_aload_n dX11_century_41 rfl rfl ?_
      refine b_getR (b := 31) lf_X11_33 rfl rfl dX11_century_42 ?_
      refine b_callV (As := [_]) (st := []) dX11_century_45 lk_X11_309 lm_X5_copyRest lv_X5_copyRest (life_c is_life41) (by decide) rfl rfl rfl (Nat.le_of_ble_eq_true rfl) (Nat.le_refl _) (by decide) ?_
      refine c_X5_copyRest (T := T) (sp := -1) (S := S) is_life41 is_life31 (by decide) hT.le (U1.lf ht hR) tu.1 tu.2.1 tu.2.2 (fun h2 F2 hR2 => ?_)
      have U2 := U1.tr (FU.cr F2)
      refine b_iload_n dX11_century_48 rfl rfl ?_
      refine b_istore (lv' := [(0, _), (1, _), (2, _), (3, _), (4, _)]) dX11_century_49 (by decide) rfl rfl ?_
      refine b_iconst (v := 0) dX11_century_51 (by decide +kernel) ?_
      refine b_istore (lv' := [(0, _), (1, _), (2, _), (3, _), (4, _), (5, _)]) dX11_century_52 (by decide) rfl rfl ?_
      exact LP 0 (Nat.zero_le _) h2 hR2 U2
    · have hy := hy g (FC.rf g) (by rw [cenM_2 hw (in_gt rfl h12)])
      refine b_throwW (text := "not so many years") (n := 39) rfl th_iae (by decide +kernel) (by omega) (by decide) (by decide) dX11_century_15 dX11_century_18 dX11_century_19 dX11_century_22 dX11_century_25 ?_
      exact hy
