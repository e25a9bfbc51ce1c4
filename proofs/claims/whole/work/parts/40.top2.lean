theorem RLf.n {g : G2} {a : Nat} {T : TD} {sp : Int32} {S : LfS} (h : RLf g a T sp S) : g a 3 = nI (l_n S) := h.1
theorem RLf.le {g : G2} {a : Nat} {T : TD} {sp : Int32} {S : LfS} (h : RLf g a T sp S) : l_n S ≤ 400 := h.2.1
theorem RLf.sg {g : G2} {a : Nat} {T : TD} {sp : Int32} {S : LfS} (h : RLf g a T sp S) : ∀ i, i < l_n S → g (a + 1) i = l_g S 0 i := h.2.2.1
theorem RLf.wh {g : G2} {a : Nat} {T : TD} {sp : Int32} {S : LfS} (h : RLf g a T sp S) : ∀ i, i < l_n S → g (a + 2) i = l_g S 1 i := h.2.2.2.1
theorem RLf.yi {g : G2} {a : Nat} {T : TD} {sp : Int32} {S : LfS} (h : RLf g a T sp S) : ∀ i, i < l_n S → g (a + 3) i = l_g S 2 i := h.2.2.2.2.1
theorem RLf.fld {g : G2} {a : Nat} {T : TD} {sp : Int32} {S : LfS} (h : RLf g a T sp S) : ∀ j, j < 5 → g a (4 + j) = l_g S 3 j := h.2.2.2.2.2.1
theorem RLf.ho {g : G2} {a : Nat} {T : TD} {sp : Int32} {S : LfS} (h : RLf g a T sp S) : ∀ p, p < t_n T → g (a + 4) p = l_g S 4 p := h.2.2.2.2.2.2.1
theorem RLf.ba {g : G2} {a : Nat} {T : TD} {sp : Int32} {S : LfS} (h : RLf g a T sp S) : ∀ p, p < t_n T → g (a + 5) p = l_g S 5 p := h.2.2.2.2.2.2.2.1
theorem RLf.fn {g : G2} {a : Nat} {T : TD} {sp : Int32} {S : LfS} (h : RLf g a T sp S) : g (a + 7) 2 = nI (l_fn S) := h.2.2.2.2.2.2.2.2.1
theorem RLf.f6 {g : G2} {a : Nat} {T : TD} {sp : Int32} {S : LfS} (h : RLf g a T sp S) : l_fn S ≤ 6 := h.2.2.2.2.2.2.2.2.2.1
theorem RLf.fa {g : G2} {a : Nat} {T : TD} {sp : Int32} {S : LfS} (h : RLf g a T sp S) : ∀ i, i < l_fn S → g (a + 8) i = l_g S 6 i := h.2.2.2.2.2.2.2.2.2.2.1
theorem RLf.fb {g : G2} {a : Nat} {T : TD} {sp : Int32} {S : LfS} (h : RLf g a T sp S) : ∀ i, i < l_fn S → g (a + 9) i = l_g S 7 i := h.2.2.2.2.2.2.2.2.2.2.2.1
theorem RLf.las {g : G2} {a : Nat} {T : TD} {sp : Int32} {S : LfS} (h : RLf g a T sp S) : g a 10 = lasC (l_g S 0) (l_n S) := h.2.2.2.2.2.2.2.2.2.2.2.2.1
theorem RLf.sun {g : G2} {a : Nat} {T : TD} {sp : Int32} {S : LfS} (h : RLf g a T sp S) : ∀ p, p < t_n T → g (a + 6) p = nI (sunM S p) := h.2.2.2.2.2.2.2.2.2.2.2.2.2.1
theorem RLf.low {g : G2} {a : Nat} {T : TD} {sp : Int32} {S : LfS} (h : RLf g a T sp S) : ∀ p, p < t_n T → (!(btI (g a 9) (nI p) == 0)) = lowB T sp p := h.2.2.2.2.2.2.2.2.2.2.2.2.2.2
theorem RLf.yy {g : G2} {a : Nat} {T : TD} {sp : Int32} {S : LfS} (h : RLf g a T sp S) : g a 4 = l_g S 3 0 := h.fld 0 (by decide)
theorem RLf.key {g : G2} {a : Nat} {T : TD} {sp : Int32} {S : LfS} (h : RLf g a T sp S) : g a 5 = l_g S 3 1 := h.fld 1 (by decide)
theorem RLf.aw {g : G2} {a : Nat} {T : TD} {sp : Int32} {S : LfS} (h : RLf g a T sp S) : g a 6 = l_g S 3 2 := h.fld 2 (by decide)
theorem RLf.de {g : G2} {a : Nat} {T : TD} {sp : Int32} {S : LfS} (h : RLf g a T sp S) : g a 7 = l_g S 3 3 := h.fld 3 (by decide)
theorem RLf.ma {g : G2} {a : Nat} {T : TD} {sp : Int32} {S : LfS} (h : RLf g a T sp S) : g a 8 = l_g S 3 4 := h.fld 4 (by decide)
theorem RTn.n {g : G2} {t : Nat} {T : TD} (h : RTn g t T) : g t 0 = nI (t_n T) := h.1
theorem RTn.le {g : G2} {t : Nat} {T : TD} (h : RTn g t T) : t_n T ≤ 8 := h.2.1
theorem RTn.kd {g : G2} {t : Nat} {T : TD} (h : RTn g t T) : ∀ p, p < t_n T → g (t + 1) p = t_g T 0 p := h.2.2.1
theorem RTn.bd {g : G2} {t : Nat} {T : TD} (h : RTn g t T) : ∀ p, p < t_n T → g (t + 3) p = t_g T 1 p := h.2.2.2.1
theorem RTn.ba {g : G2} {t : Nat} {T : TD} (h : RTn g t T) : ∀ p, p < t_n T → g (t + 4) p = t_g T 6 p := h.2.2.2.2.1
theorem RTn.od {g : G2} {t : Nat} {T : TD} (h : RTn g t T) : ∀ p, p < t_n T → g (t + 5) p = t_g T 2 p := h.2.2.2.2.2.1
theorem RTn.on {g : G2} {t : Nat} {T : TD} (h : RTn g t T) : g t 9 = nI (t_on T) := h.2.2.2.2.2.2.1
theorem RTn.ole {g : G2} {t : Nat} {T : TD} (h : RTn g t T) : t_on T ≤ 24 := h.2.2.2.2.2.2.2.1
theorem RTn.ot {g : G2} {t : Nat} {T : TD} (h : RTn g t T) : ∀ i, i < t_on T → g (t + 9) i = t_g T 4 i := h.2.2.2.2.2.2.2.2.1
theorem RTn.rn {g : G2} {t : Nat} {T : TD} (h : RTn g t T) : g (t + 10) 1 = nI (t_rn T) := h.2.2.2.2.2.2.2.2.2.1
theorem RTn.rle {g : G2} {t : Nat} {T : TD} (h : RTn g t T) : t_rn T ≤ 600 := h.2.2.2.2.2.2.2.2.2.2.1
theorem RTn.ru {g : G2} {t : Nat} {T : TD} (h : RTn g t T) : ∀ i, i < t_rn T → okC (g (t + 11) i) ∧ trC (g (t + 11) i) = t_g T 3 i := h.2.2.2.2.2.2.2.2.2.2.2.1
theorem RTn.op {g : G2} {t : Nat} {T : TD} (h : RTn g t T) : ∀ i, i < t_n T → ∃ p, p < t_n T ∧ t_g T 2 i = nI p := h.2.2.2.2.2.2.2.2.2.2.2.2
theorem RMl.n {g : G2} {T : TD} {S : LfS} (h : RMl g T S) : g 84 32 = nI (l_n S) := h.1
theorem RMl.le {g : G2} {T : TD} {S : LfS} (h : RMl g T S) : l_n S ≤ 400 := h.2.1
theorem RMl.sg {g : G2} {T : TD} {S : LfS} (h : RMl g T S) : ∀ i, i < l_n S → g 104 i = l_g S 0 i := h.2.2.1
theorem RMl.wh {g : G2} {T : TD} {S : LfS} (h : RMl g T S) : ∀ i, i < l_n S → g 105 i = l_g S 1 i := h.2.2.2.1
theorem RMl.yi {g : G2} {T : TD} {S : LfS} (h : RMl g T S) : ∀ i, i < l_n S → g 106 i = l_g S 2 i := h.2.2.2.2.1
theorem RMl.yy {g : G2} {T : TD} {S : LfS} (h : RMl g T S) : g 84 30 = l_g S 3 0 := h.2.2.2.2.2.1
theorem RMl.key {g : G2} {T : TD} {S : LfS} (h : RMl g T S) : g 84 31 = l_g S 3 1 := h.2.2.2.2.2.2.1
theorem RMl.aw {g : G2} {T : TD} {S : LfS} (h : RMl g T S) : g 84 33 = l_g S 3 2 := h.2.2.2.2.2.2.2.1
theorem RMl.de {g : G2} {T : TD} {S : LfS} (h : RMl g T S) : g 84 34 = l_g S 3 3 := h.2.2.2.2.2.2.2.2.1
theorem RMl.ma {g : G2} {T : TD} {S : LfS} (h : RMl g T S) : g 84 35 = l_g S 3 4 := h.2.2.2.2.2.2.2.2.2.1
theorem RMl.ho {g : G2} {T : TD} {S : LfS} (h : RMl g T S) : ∀ p, p < t_n T → g 99 p = l_g S 4 p := h.2.2.2.2.2.2.2.2.2.2.1
theorem RMl.ba {g : G2} {T : TD} {S : LfS} (h : RMl g T S) : ∀ p, p < t_n T → g 100 p = l_g S 5 p := h.2.2.2.2.2.2.2.2.2.2.2.1
theorem RMl.fn {g : G2} {T : TD} {S : LfS} (h : RMl g T S) : g 84 36 = nI (l_fn S) := h.2.2.2.2.2.2.2.2.2.2.2.2.1
theorem RMl.f6 {g : G2} {T : TD} {S : LfS} (h : RMl g T S) : l_fn S ≤ 6 := h.2.2.2.2.2.2.2.2.2.2.2.2.2.1
theorem RMl.fa {g : G2} {T : TD} {S : LfS} (h : RMl g T S) : ∀ i, i < l_fn S → g 101 i = l_g S 6 i := h.2.2.2.2.2.2.2.2.2.2.2.2.2.2.1
theorem RMl.fb {g : G2} {T : TD} {S : LfS} (h : RMl g T S) : ∀ i, i < l_fn S → g 102 i = l_g S 7 i := h.2.2.2.2.2.2.2.2.2.2.2.2.2.2.2
theorem RMt.n {g : G2} {T : TD} (h : RMt g T) : g 87 0 = nI (t_n T) := h.1
theorem RMt.le {g : G2} {T : TD} (h : RMt g T) : t_n T ≤ 8 := h.2.1
theorem RMt.on {g : G2} {T : TD} (h : RMt g T) : g 87 2 = nI (t_on T) := h.2.2.1
theorem RMt.ole {g : G2} {T : TD} (h : RMt g T) : t_on T ≤ 24 := h.2.2.2.1
theorem RMt.rn {g : G2} {T : TD} (h : RMt g T) : g 87 4 = nI (t_rn T) := h.2.2.2.2.1
theorem RMt.rle {g : G2} {T : TD} (h : RMt g T) : t_rn T ≤ 600 := h.2.2.2.2.2.1
theorem RMt.kd {g : G2} {T : TD} (h : RMt g T) : ∀ p, p < t_n T → g 88 p = t_g T 0 p := h.2.2.2.2.2.2.1
theorem RMt.bd {g : G2} {T : TD} (h : RMt g T) : ∀ p, p < t_n T → g 90 p = t_g T 1 p := h.2.2.2.2.2.2.2.1
theorem RMt.od {g : G2} {T : TD} (h : RMt g T) : ∀ i, i < t_n T → g 97 i = t_g T 2 i := h.2.2.2.2.2.2.2.2.1
theorem RMt.ot {g : G2} {T : TD} (h : RMt g T) : ∀ i, i < t_on T → g 94 i = t_g T 4 i := h.2.2.2.2.2.2.2.2.2.1
theorem RMt.ru {g : G2} {T : TD} (h : RMt g T) : ∀ i, i < t_rn T → g 95 i = t_g T 3 i := h.2.2.2.2.2.2.2.2.2.2
theorem in_lt {x : Int32} {b : Int} (h : x < 0) : inB x.toInt 0 b = false := by
  rw [Int32.lt_iff_toInt_lt, show (0 : Int32).toInt = 0 from by decide] at h
  unfold inB; exact decide_eq_false (by omega)
theorem in_gt {x m : Int32} {b : Int} (e : m.toInt = b) (h : ¬ x ≤ m) : inB x.toInt 0 b = false := by
  rw [Int32.le_iff_toInt_le] at h
  unfold inB; exact decide_eq_false (by omega)
theorem in_ok {x m : Int32} {b : Int} (e : m.toInt = b) (h1 : ¬ x < 0) (h : x ≤ m) : inB x.toInt 0 b = true := by
  rw [Int32.le_iff_toInt_le] at h
  rw [Int32.lt_iff_toInt_lt, show (0 : Int32).toInt = 0 from by decide] at h1
  unfold inB; exact decide_eq_true (by omega)
theorem in_ge {x : Int32} {n : Nat} (hn : n < 2 ^ 31) (h : nI n ≤ x) : inB x.toInt 0 (n - 1) = false := by
  rw [Int32.le_iff_toInt_le, nI_toInt hn] at h
  unfold inB; exact decide_eq_false (by omega)
theorem in_okn {x : Int32} {n : Nat} (hn : n < 2 ^ 31) (h1 : ¬ x < 0) (h : ¬ nI n ≤ x) : inB x.toInt 0 (n - 1) = true := by
  rw [Int32.le_iff_toInt_le, nI_toInt hn] at h
  rw [Int32.lt_iff_toInt_lt, show (0 : Int32).toInt = 0 from by decide] at h1
  unfold inB; exact decide_eq_true (by omega)
theorem in_nat {x : Int32} {n : Nat} (h : inB x.toInt 0 (n - 1) = true) : ∃ p, p < n ∧ x = nI p := by
  unfold inB at h
  have h2 := of_decide_eq_true h
  have h3 := x.toInt_lt
  refine ⟨x.toInt.toNat, by omega, ?_⟩
  rw [← Int32.toInt_inj, nI_toInt (by omega)]
  omega
theorem in_nI {p n : Nat} (hp : p < n) (hn : n < 2 ^ 31) : inB (nI p).toInt 0 (n - 1) = true := by
  rw [nI_toInt (by omega)]; unfold inB; exact decide_eq_true (by omega)
theorem in_64 {x : Int32} {b : Int64} {c : Int} (hb : b.toInt = c) : inB (x.toInt64).toInt (0 : Int64).toInt b.toInt = inB x.toInt 0 c := by
  rw [Int32.toInt_toInt64, hb, show (0 : Int64).toInt = 0 from by decide]
theorem in_64n {n : Nat} {y : Int32} (hy : y = nI n) (hn : n < 2 ^ 31) : ((y - 1).toInt64).toInt = (n : Int) - 1 := by
  rw [Int32.toInt_toInt64, hy, Int32.toInt_sub, nI_toInt hn, show (1 : Int32).toInt = 1 from by decide, Int.bmod_eq_of_le (by omega) (by omega)]
def kOf (x : Nat × Int32) : Nat := x.1
theorem nI_cl {p : Nat} (h : p < 2 ^ 31) : (nI p).toNatClampNeg = p := nI_clamp h
theorem c_X11_needWhat {E : En} {d : Nat} {Q : QT} {X : XT} {g : G2} {x m : Int32} (hq : inB x.toInt 0 m.toInt = true → Q none g) (hx : inB x.toInt 0 m.toInt = false → X nsN g) : M E md_X11_needWhat (d + 6) [.int x, .int m] g Q X := by
  refine M.of _ rfl rfl (Nat.le_of_ble_eq_true rfl) ?_
  refine b_iload_n dX11_needWhat_0 rfl rfl ?_
  refine b_if_lt (tgt := 9) dX11_needWhat_1 (by decide) (fun h1 => ?_) (fun h1 => ?_)
  · have e := in_lt (b := m.toInt) h1
    have hx := hx e
    refine b_throwN (text := "nothing such is answered") (is := 196) (n := 32) (nn := 6) rfl (by decide +kernel) (by omega) (by decide) (by decide) dX11_needWhat_9 dX11_needWhat_12 (Or.inl ⟨rfl, dX11_needWhat_13⟩) dX11_needWhat_15 dX11_needWhat_18 ?_
    exact hx
  · refine b_iload_n dX11_needWhat_4 rfl rfl ?_
    refine b_iload_n dX11_needWhat_5 rfl rfl ?_
    refine b_icmp_le (tgt := 19) dX11_needWhat_6 (by decide) (fun h6 => ?_) (fun h6 => ?_)
    · have hq := hq (in_ok rfl h1 h6)
      refine b_vret rfl (by decide) dX11_needWhat_19 ?_
      exact hq
    · have hx := hx (in_gt (b := m.toInt) rfl h6)
      refine b_throwN (text := "nothing such is answered") (is := 196) (n := 32) (nn := 6) rfl (by decide +kernel) (by omega) (by decide) (by decide) dX11_needWhat_9 dX11_needWhat_12 (Or.inl ⟨rfl, dX11_needWhat_13⟩) dX11_needWhat_15 dX11_needWhat_18 ?_
      exact hx
theorem c_X11_isPerson {E : En} {d : Nat} {Q : QT} {X : XT} {g : G2} {n : Nat} {x : Int32} {t : Nat} (ht : is_town t) (h0 : g 0 2 = nI t) (hn : g t 0 = nI n) (h8 : n ≤ 8) (hq : Q (some (.int (b2i (inB x.toInt 0 (n - 1))))) g) : M E md_X11_isPerson d [.ref 0, .int x] g Q X := by
  refine M.of _ rfl rfl (Nat.le_of_ble_eq_true rfl) ?_
  refine b_iload_n dX11_isPerson_0 rfl rfl ?_
  refine b_if_lt (tgt := 19) dX11_isPerson_1 (by decide) (fun h1 => ?_) (fun h1 => ?_)
  · rw [in_lt h1] at hq
    refine b_iconst (v := 0) dX11_isPerson_19 (by decide +kernel) ?_
    refine b_zret (by first | exact Or.inl rfl | exact Or.inr rfl) rfl (by decide) dX11_isPerson_20 ?_
    exact hq
  · refine b_iload_n dX11_isPerson_4 rfl rfl ?_
    refine b_aload_n dX11_isPerson_5 rfl rfl ?_
    refine b_getD lf_X11_26 rfl h0 (town_31 ht) dX11_isPerson_6 ?_
    refine b_getI lf_X11_124 (town_c ht) dX11_isPerson_9 ?_
    refine b_icmp_ge (tgt := 19) dX11_isPerson_12 (by decide) (fun h12 => ?_) (fun h12 => ?_)
    · rw [in_ge (by omega) (hn ▸ h12)] at hq
      refine b_iconst (v := 0) dX11_isPerson_19 (by decide +kernel) ?_
      refine b_zret (by first | exact Or.inl rfl | exact Or.inr rfl) rfl (by decide) dX11_isPerson_20 ?_
      exact hq
    · rw [in_okn (by omega) h1 (hn ▸ h12)] at hq
      refine b_iconst (v := 1) dX11_isPerson_15 (by decide +kernel) ?_
      refine b_goto (tgt := 20) dX11_isPerson_16 (by decide) ?_
      refine b_zret (by first | exact Or.inl rfl | exact Or.inr rfl) rfl (by decide) dX11_isPerson_20 ?_
      exact hq
theorem c_X11_needPerson {E : En} {d : Nat} {Q : QT} {X : XT} {g : G2} {n : Nat} {x : Int32} {t : Nat} (ht : is_town t) (h0 : g 0 2 = nI t) (hn : g t 0 = nI n) (h8 : n ≤ 8) (hq : inB x.toInt 0 (n - 1) = true → Q none g) (hx : inB x.toInt 0 (n - 1) = false → X nsN g) : M E md_X11_needPerson (d + 6) [.ref 0, .int x] g Q X := by
  refine M.of _ rfl rfl (Nat.le_of_ble_eq_true rfl) ?_
  refine b_aload_n dX11_needPerson_0 rfl rfl ?_
  refine b_iload_n dX11_needPerson_1 rfl rfl ?_
  refine b_callV (As := [_]) (st := []) dX11_needPerson_2 lk_X11_190 lm_X11_isPerson lv_X11_isPerson rfl (by decide) rfl rfl rfl (Nat.le_of_ble_eq_true rfl) (Nat.le_refl _) (by decide) ?_
  refine c_X11_isPerson ht h0 hn h8 ?_
  refine b_if_ne (tgt := 18) dX11_needPerson_5 (by decide) (fun h5 => ?_) (fun h5 => ?_)
  · have hq := hq (b2i_1 h5)
    refine b_vret rfl (by decide) dX11_needPerson_18 ?_
    exact hq
  · have hx := hx (b2i_0 h5)
    refine b_throwN (text := "no such person") (is := 194) (n := 30) (nn := 6) rfl (by decide +kernel) (by omega) (by decide) (by decide) dX11_needPerson_8 dX11_needPerson_11 (Or.inl ⟨rfl, dX11_needPerson_12⟩) dX11_needPerson_14 dX11_needPerson_17 ?_
    exact hx
def couM (T : TD) (S : LfS) (na nh fd : Int32) (u : Nat → Int32) (w : Int32) : Nat × Int32 :=
  if w = 0 then (0, nI (t_n T)) else if w = 1 then (0, nI (l_fn S)) else if w = 2 then (0, l_g S 3 1) else if w = 3 then (0, l_g S 3 0) else if w = 4 then (0, nI (l_n S)) else if w = 5 then (0, nI (t_on T)) else if w = 6 then (0, nI (cntN (tmP (l_g S 0) 12 0) (l_n S))) else if w = 7 then (0, l_g S 3 2) else if w = 8 then (0, l_g S 3 3) else if w = 9 then (0, l_g S 3 4) else if w = 10 then (0, na) else if w = 11 then (0, nh) else if w = 12 then (0, fd) else if w = 13 then (0, u 0) else if w = 14 then (0, u 1) else if w = 15 then (0, u 2) else (1, 0)
theorem c_X11_count {E : En} {d : Nat} {Q : QT} {X : XT} {g : G2} {t : Nat} (ht : is_town t) (h0 : g 0 2 = nI t) {T : TD} {S : LfS} {sp na nh fd : Int32} {u : Nat → Int32} {w : Int32} (hR : RLf g 31 T sp S) (hT : RTn g t T) (hna : g 61 1 = na) (hnh : g 65 2 = nh) (hfd : g 3 1 = fd) (hu : ∀ j, j < 3 → g 71 j = u j) (hq : ∀ v, couM T S na nh fd u w = (0, v) → Q (some (.int v)) g) (hx : ∀ v, couM T S na nh fd u w = (1, v) → X nsN g) : M E md_X11_count (d + 6) [.ref 0, .int w] g Q X := by
  refine M.of _ rfl rfl (Nat.le_of_ble_eq_true rfl) ?_
  refine b_iload_n dX11_count_0 rfl rfl ?_
  by_cases k0 : w = 0
  · subst k0
    refine b_tableIn (off := 79) (tgt := 80) dX11_count_1 (by decide +kernel) (by decide +kernel) (by decide +kernel) (by decide) ?_
    refine b_aload_n dX11_count_80 rfl rfl ?_
    refine b_getD lf_X11_26 rfl h0 (town_31 ht) dX11_count_81 ?_
    refine b_getI lf_X11_124 (town_c ht) dX11_count_84 ?_
    refine b_iret rfl (by decide) dX11_count_87 ?_
    refine hq _ ?_
    unfold couM
    rw [if_pos rfl]
    rw [hT.n]
  by_cases k1 : w = 1
  · subst k1
    refine b_tableIn (off := 87) (tgt := 88) dX11_count_1 (by decide +kernel) (by decide +kernel) (by decide +kernel) (by decide) ?_
    refine b_aload_n dX11_count_88 rfl rfl ?_
    refine b_getR (b := 31) lf_X11_33 rfl rfl dX11_count_89 ?_
    refine b_getR (b := 38) lf_X11_127 (life_c is_life31) (life_r14 is_life31) dX11_count_92 ?_
    refine b_getI lf_X11_131 (feuds_c (life_feuds is_life31)) dX11_count_95 ?_
    refine b_iret rfl (by decide) dX11_count_98 ?_
    refine hq _ ?_
    unfold couM
    rw [if_neg (by decide), if_pos rfl]
    rw [hR.fn]
  by_cases k2 : w = 2
  · subst k2
    refine b_tableIn (off := 98) (tgt := 99) dX11_count_1 (by decide +kernel) (by decide +kernel) (by decide +kernel) (by decide) ?_
    refine b_aload_n dX11_count_99 rfl rfl ?_
    refine b_getR (b := 31) lf_X11_33 rfl rfl dX11_count_100 ?_
    refine b_getI lf_X11_134 (life_c is_life31) dX11_count_103 ?_
    refine b_iret rfl (by decide) dX11_count_106 ?_
    refine hq _ ?_
    unfold couM
    rw [if_neg (by decide), if_neg (by decide), if_pos rfl]
    rw [hR.key]
  by_cases k3 : w = 3
  · subst k3
    refine b_tableIn (off := 106) (tgt := 107) dX11_count_1 (by decide +kernel) (by decide +kernel) (by decide +kernel) (by decide) ?_
    refine b_aload_n dX11_count_107 rfl rfl ?_
    refine b_getR (b := 31) lf_X11_33 rfl rfl dX11_count_108 ?_
    refine b_getI lf_X11_137 (life_c is_life31) dX11_count_111 ?_
    refine b_iret rfl (by decide) dX11_count_114 ?_
    refine hq _ ?_
    unfold couM
    rw [if_neg (by decide), if_neg (by decide), if_neg (by decide), if_pos rfl]
    rw [hR.yy]
  by_cases k4 : w = 4
  · subst k4
    refine b_tableIn (off := 114) (tgt := 115) dX11_count_1 (by decide +kernel) (by decide +kernel) (by decide +kernel) (by decide) ?_
    refine b_aload_n dX11_count_115 rfl rfl ?_
    refine b_getR (b := 31) lf_X11_33 rfl rfl dX11_count_116 ?_
    refine b_getI lf_X11_140 (life_c is_life31) dX11_count_119 ?_
    refine b_iret rfl (by decide) dX11_count_122 ?_
    refine hq _ ?_
    unfold couM
    rw [if_neg (by decide), if_neg (by decide), if_neg (by decide), if_neg (by decide), if_pos rfl]
    rw [hR.n]
  by_cases k5 : w = 5
  · subst k5
    refine b_tableIn (off := 122) (tgt := 123) dX11_count_1 (by decide +kernel) (by decide +kernel) (by decide +kernel) (by decide) ?_
    refine b_aload_n dX11_count_123 rfl rfl ?_
    refine b_getD lf_X11_26 rfl h0 (town_31 ht) dX11_count_124 ?_
    refine b_getI lf_X11_143 (town_c ht) dX11_count_127 ?_
    refine b_iret rfl (by decide) dX11_count_130 ?_
    refine hq _ ?_
    unfold couM
    rw [if_neg (by decide), if_neg (by decide), if_neg (by decide), if_neg (by decide), if_neg (by decide), if_pos rfl]
    rw [hT.on]
  by_cases k6 : w = 6
  · subst k6
    refine b_tableIn (off := 130) (tgt := 131) dX11_count_1 (by decide +kernel) (by decide +kernel) (by decide +kernel) (by decide) ?_
    refine b_aload_n dX11_count_131 rfl rfl ?_
    refine b_getR (b := 31) lf_X11_33 rfl rfl dX11_count_132 ?_
    refine b_callV (As := []) (st := []) dX11_count_135 lk_X11_146 lm_X5_rests lv_X5_rests (life_c is_life31) (by decide) rfl rfl rfl (Nat.le_of_ble_eq_true rfl) (Nat.le_refl _) (by decide) ?_
    refine c_X5_rests is_life31 hR.n hR.le ?_
    refine b_iret rfl (by decide) dX11_count_138 ?_
    refine hq _ ?_
    have e : cntN (tmP (l_g S 0) 12 0) (l_n S) = cntN (tmP (g 32) 12 0) (l_n S) := cntN_cg (fun i hi => by unfold tmP; rw [hR.sg i hi])
    unfold couM
    rw [if_neg (by decide), if_neg (by decide), if_neg (by decide), if_neg (by decide), if_neg (by decide), if_neg (by decide), if_pos rfl]
    rw [e]
  by_cases k7 : w = 7
  · subst k7
    refine b_tableIn (off := 138) (tgt := 139) dX11_count_1 (by decide +kernel) (by decide +kernel) (by decide +kernel) (by decide) ?_
    refine b_aload_n dX11_count_139 rfl rfl ?_
    refine b_getR (b := 31) lf_X11_33 rfl rfl dX11_count_140 ?_
    refine b_getI lf_X11_150 (life_c is_life31) dX11_count_143 ?_
    refine b_iret rfl (by decide) dX11_count_146 ?_
    refine hq _ ?_
    unfold couM
    rw [if_neg (by decide), if_neg (by decide), if_neg (by decide), if_neg (by decide), if_neg (by decide), if_neg (by decide), if_neg (by decide), if_pos rfl]
    rw [hR.aw]
  by_cases k8 : w = 8
  · subst k8
    refine b_tableIn (off := 146) (tgt := 147) dX11_count_1 (by decide +kernel) (by decide +kernel) (by decide +kernel) (by decide) ?_
    refine b_aload_n dX11_count_147 rfl rfl ?_
    refine b_getR (b := 31) lf_X11_33 rfl rfl dX11_count_148 ?_
    refine b_getI lf_X11_153 (life_c is_life31) dX11_count_151 ?_
    refine b_iret rfl (by decide) dX11_count_154 ?_
    refine hq _ ?_
    unfold couM
    rw [if_neg (by decide), if_neg (by decide), if_neg (by decide), if_neg (by decide), if_neg (by decide), if_neg (by decide), if_neg (by decide), if_neg (by decide), if_pos rfl]
    rw [hR.de]
  by_cases k9 : w = 9
  · subst k9
    refine b_tableIn (off := 154) (tgt := 155) dX11_count_1 (by decide +kernel) (by decide +kernel) (by decide +kernel) (by decide) ?_
    refine b_aload_n dX11_count_155 rfl rfl ?_
    refine b_getR (b := 31) lf_X11_33 rfl rfl dX11_count_156 ?_
    refine b_getI lf_X11_156 (life_c is_life31) dX11_count_159 ?_
    refine b_iret rfl (by decide) dX11_count_162 ?_
    refine hq _ ?_
    unfold couM
    rw [if_neg (by decide), if_neg (by decide), if_neg (by decide), if_neg (by decide), if_neg (by decide), if_neg (by decide), if_neg (by decide), if_neg (by decide), if_neg (by decide), if_pos rfl]
    rw [hR.ma]
  by_cases k10 : w = 10
  · subst k10
    refine b_tableIn (off := 162) (tgt := 163) dX11_count_1 (by decide +kernel) (by decide +kernel) (by decide +kernel) (by decide) ?_
    refine b_aload_n dX11_count_163 rfl rfl ?_
    refine b_getR (b := 61) lf_X11_40 rfl rfl dX11_count_164 ?_
    refine b_getI lf_X11_113 (acts_c is_acts61) dX11_count_167 ?_
    refine b_iret rfl (by decide) dX11_count_170 ?_
    refine hq _ ?_
    unfold couM
    rw [if_neg (by decide), if_neg (by decide), if_neg (by decide), if_neg (by decide), if_neg (by decide), if_neg (by decide), if_neg (by decide), if_neg (by decide), if_neg (by decide), if_neg (by decide), if_pos rfl]
    rw [hna]
  by_cases k11 : w = 11
  · subst k11
    refine b_tableIn (off := 170) (tgt := 171) dX11_count_1 (by decide +kernel) (by decide +kernel) (by decide +kernel) (by decide) ?_
    refine b_aload_n dX11_count_171 rfl rfl ?_
    refine b_getR (b := 65) lf_X11_47 rfl rfl dX11_count_172 ?_
    refine b_getI lf_X11_116 (heard_c is_heard65) dX11_count_175 ?_
    refine b_iret rfl (by decide) dX11_count_178 ?_
    refine hq _ ?_
    unfold couM
    rw [if_neg (by decide), if_neg (by decide), if_neg (by decide), if_neg (by decide), if_neg (by decide), if_neg (by decide), if_neg (by decide), if_neg (by decide), if_neg (by decide), if_neg (by decide), if_neg (by decide), if_pos rfl]
    rw [hnh]
  by_cases k12 : w = 12
  · subst k12
    refine b_tableIn (off := 178) (tgt := 179) dX11_count_1 (by decide +kernel) (by decide +kernel) (by decide +kernel) (by decide) ?_
    refine b_aload_n dX11_count_179 rfl rfl ?_
    refine b_getR (b := 3) lf_X11_20 rfl rfl dX11_count_180 ?_
    refine b_getI lf_X11_85 rfl dX11_count_183 ?_
    refine b_iret rfl (by decide) dX11_count_186 ?_
    refine hq _ ?_
    unfold couM
    rw [if_neg (by decide), if_neg (by decide), if_neg (by decide), if_neg (by decide), if_neg (by decide), if_neg (by decide), if_neg (by decide), if_neg (by decide), if_neg (by decide), if_neg (by decide), if_neg (by decide), if_neg (by decide), if_pos rfl]
    rw [hfd]
  by_cases k13 : w = 13
  · subst k13
    refine b_tableIn (off := 186) (tgt := 187) dX11_count_1 (by decide +kernel) (by decide +kernel) (by decide +kernel) (by decide) ?_
    refine b_aload_n dX11_count_187 rfl rfl ?_
    refine b_getR (b := 71) lf_X11_51 rfl rfl dX11_count_188 ?_
    refine b_iconst (v := 0) dX11_count_191 (by decide +kernel) ?_
    refine b_ildN (j := 0) dX11_count_192 (rfl) (by show _ < 3; decide) ?_
    refine b_iret rfl (by decide) dX11_count_193 ?_
    refine hq _ ?_
    unfold couM
    rw [if_neg (by decide), if_neg (by decide), if_neg (by decide), if_neg (by decide), if_neg (by decide), if_neg (by decide), if_neg (by decide), if_neg (by decide), if_neg (by decide), if_neg (by decide), if_neg (by decide), if_neg (by decide), if_neg (by decide), if_pos rfl]
    rw [hu 0 (by decide)]
  by_cases k14 : w = 14
  · subst k14
    refine b_tableIn (off := 193) (tgt := 194) dX11_count_1 (by decide +kernel) (by decide +kernel) (by decide +kernel) (by decide) ?_
    refine b_aload_n dX11_count_194 rfl rfl ?_
    refine b_getR (b := 71) lf_X11_51 rfl rfl dX11_count_195 ?_
    refine b_iconst (v := 1) dX11_count_198 (by decide +kernel) ?_
    refine b_ildN (j := 1) dX11_count_199 (rfl) (by show _ < 3; decide) ?_
    refine b_iret rfl (by decide) dX11_count_200 ?_
    refine hq _ ?_
    unfold couM
    rw [if_neg (by decide), if_neg (by decide), if_neg (by decide), if_neg (by decide), if_neg (by decide), if_neg (by decide), if_neg (by decide), if_neg (by decide), if_neg (by decide), if_neg (by decide), if_neg (by decide), if_neg (by decide), if_neg (by decide), if_neg (by decide), if_pos rfl]
    rw [hu 1 (by decide)]
  by_cases k15 : w = 15
  · subst k15
    refine b_tableIn (off := 200) (tgt := 201) dX11_count_1 (by decide +kernel) (by decide +kernel) (by decide +kernel) (by decide) ?_
    refine b_aload_n dX11_count_201 rfl rfl ?_
    refine b_getR (b := 71) lf_X11_51 rfl rfl dX11_count_202 ?_
    refine b_iconst (v := 2) dX11_count_205 (by decide +kernel) ?_
    refine b_ildN (j := 2) dX11_count_206 (rfl) (by show _ < 3; decide) ?_
    refine b_iret rfl (by decide) dX11_count_207 ?_
    refine hq _ ?_
    unfold couM
    rw [if_neg (by decide), if_neg (by decide), if_neg (by decide), if_neg (by decide), if_neg (by decide), if_neg (by decide), if_neg (by decide), if_neg (by decide), if_neg (by decide), if_neg (by decide), if_neg (by decide), if_neg (by decide), if_neg (by decide), if_neg (by decide), if_neg (by decide), if_pos rfl]
    rw [hu 2 (by decide)]
  refine b_tableOut (tgt := 208) dX11_count_1 ?_ (by decide) ?_
  · have j0 : ¬ (w).toInt = 0 := fun q => k0 (Int32.toInt_inj.mp q); have j1 : ¬ (w).toInt = 1 := fun q => k1 (Int32.toInt_inj.mp q); have j2 : ¬ (w).toInt = 2 := fun q => k2 (Int32.toInt_inj.mp q); have j3 : ¬ (w).toInt = 3 := fun q => k3 (Int32.toInt_inj.mp q); have j4 : ¬ (w).toInt = 4 := fun q => k4 (Int32.toInt_inj.mp q); have j5 : ¬ (w).toInt = 5 := fun q => k5 (Int32.toInt_inj.mp q); have j6 : ¬ (w).toInt = 6 := fun q => k6 (Int32.toInt_inj.mp q); have j7 : ¬ (w).toInt = 7 := fun q => k7 (Int32.toInt_inj.mp q); have j8 : ¬ (w).toInt = 8 := fun q => k8 (Int32.toInt_inj.mp q); have j9 : ¬ (w).toInt = 9 := fun q => k9 (Int32.toInt_inj.mp q); have j10 : ¬ (w).toInt = 10 := fun q => k10 (Int32.toInt_inj.mp q); have j11 : ¬ (w).toInt = 11 := fun q => k11 (Int32.toInt_inj.mp q); have j12 : ¬ (w).toInt = 12 := fun q => k12 (Int32.toInt_inj.mp q); have j13 : ¬ (w).toInt = 13 := fun q => k13 (Int32.toInt_inj.mp q); have j14 : ¬ (w).toInt = 14 := fun q => k14 (Int32.toInt_inj.mp q); have j15 : ¬ (w).toInt = 15 := fun q => k15 (Int32.toInt_inj.mp q); omega
  refine b_throwN (text := "no such count") (is := 161) (n := 29) (nn := 6) rfl (by decide +kernel) (by omega) (by decide) (by decide) dX11_count_208 dX11_count_211 (Or.inl ⟨rfl, dX11_count_212⟩) dX11_count_214 dX11_count_217 ?_
  refine hx 0 ?_
  unfold couM
  rw [if_neg k0, if_neg k1, if_neg k2, if_neg k3, if_neg k4, if_neg k5, if_neg k6, if_neg k7, if_neg k8, if_neg k9, if_neg k10, if_neg k11, if_neg k12, if_neg k13, if_neg k14, if_neg k15]
theorem c_X12_count {E : En} {d : Nat} {Q : QT} {X : XT} {g : G2} {T : TD} {S : LfS} {sp na nh fd : Int32} {u : Nat → Int32} {w : Int32} (hR : RMl g T S) (hT : RMt g T) (hna : g 84 37 = na) (hnh : g 84 38 = nh) (hfd : g 84 15 = fd) (hu : ∀ j, j < 3 → g 96 j = u j) (hq : ∀ v, couM T S na nh fd u w = (0, v) → Q (some (.int v)) (up2 g 84 2 0)) (hf : ∀ v, couM T S na nh fd u w = (1, v) → Q (some (.int 0)) (up2 (up2 g 84 2 0) 84 2 1)) : M E md_X12_count (d + 1) [.ref 84, .int w] g Q X := by
  refine M.of _ rfl rfl (Nat.le_of_ble_eq_true rfl) ?_
  refine b_aload_n dX12_count_0 rfl rfl ?_
  refine b_iconst (v := 0) dX12_count_1 (by decide +kernel) ?_
  refine b_putI lf_X12_165 lp_12_2 rfl dX12_count_2 ?_
  refine b_iload_n dX12_count_5 rfl rfl ?_
  by_cases k0 : w = 0
  · subst k0
    refine b_tableIn (off := 78) (tgt := 84) dX12_count_6 (by decide +kernel) (by decide +kernel) (by decide +kernel) (by decide) ?_
    refine b_aload_n dX12_count_84 rfl rfl ?_
    refine b_getR (b := 87) lf_X12_40 rfl rfl dX12_count_85 ?_
    refine b_iconst (v := 0) dX12_count_88 (by decide +kernel) ?_
    refine b_ildN (j := 0) dX12_count_89 (rfl) (by show _ < 10; decide) ?_
    refine b_iret rfl (by decide) dX12_count_90 ?_
    refine hq _ ?_
    unfold couM
    rw [if_pos rfl]
    rw [up2_a _ _ _ _ (by decide), hT.n]
  by_cases k1 : w = 1
  · subst k1
    refine b_tableIn (off := 85) (tgt := 91) dX12_count_6 (by decide +kernel) (by decide +kernel) (by decide +kernel) (by decide) ?_
    refine b_aload_n dX12_count_91 rfl rfl ?_
    refine b_getI lf_X12_332 rfl dX12_count_92 ?_
    refine b_iret rfl (by decide) dX12_count_95 ?_
    refine hq _ ?_
    unfold couM
    rw [if_neg (by decide), if_pos rfl]
    rw [up2_k _ _ _ _ (by decide), hR.fn]
  by_cases k2 : w = 2
  · subst k2
    refine b_tableIn (off := 90) (tgt := 96) dX12_count_6 (by decide +kernel) (by decide +kernel) (by decide +kernel) (by decide) ?_
    refine b_aload_n dX12_count_96 rfl rfl ?_
    refine b_getI lf_X12_318 rfl dX12_count_97 ?_
    refine b_iret rfl (by decide) dX12_count_100 ?_
    refine hq _ ?_
    unfold couM
    rw [if_neg (by decide), if_neg (by decide), if_pos rfl]
    rw [up2_k _ _ _ _ (by decide), hR.key]
  by_cases k3 : w = 3
  · subst k3
    refine b_tableIn (off := 95) (tgt := 101) dX12_count_6 (by decide +kernel) (by decide +kernel) (by decide +kernel) (by decide) ?_
    refine b_aload_n dX12_count_101 rfl rfl ?_
    refine b_getI lf_X12_316 rfl dX12_count_102 ?_
    refine b_iret rfl (by decide) dX12_count_105 ?_
    refine hq _ ?_
    unfold couM
    rw [if_neg (by decide), if_neg (by decide), if_neg (by decide), if_pos rfl]
    rw [up2_k _ _ _ _ (by decide), hR.yy]
  by_cases k4 : w = 4
  · subst k4
    refine b_tableIn (off := 100) (tgt := 106) dX12_count_6 (by decide +kernel) (by decide +kernel) (by decide +kernel) (by decide) ?_
    refine b_aload_n dX12_count_106 rfl rfl ?_
    refine b_getI lf_X12_320 rfl dX12_count_107 ?_
    refine b_iret rfl (by decide) dX12_count_110 ?_
    refine hq _ ?_
    unfold couM
    rw [if_neg (by decide), if_neg (by decide), if_neg (by decide), if_neg (by decide), if_pos rfl]
    rw [up2_k _ _ _ _ (by decide), hR.n]
  by_cases k5 : w = 5
  · subst k5
    refine b_tableIn (off := 105) (tgt := 111) dX12_count_6 (by decide +kernel) (by decide +kernel) (by decide +kernel) (by decide) ?_
    refine b_aload_n dX12_count_111 rfl rfl ?_
    refine b_getR (b := 87) lf_X12_40 rfl rfl dX12_count_112 ?_
    refine b_iconst (v := 2) dX12_count_115 (by decide +kernel) ?_
    refine b_ildN (j := 2) dX12_count_116 (rfl) (by show _ < 10; decide) ?_
    refine b_iret rfl (by decide) dX12_count_117 ?_
    refine hq _ ?_
    unfold couM
    rw [if_neg (by decide), if_neg (by decide), if_neg (by decide), if_neg (by decide), if_neg (by decide), if_pos rfl]
    rw [up2_a _ _ _ _ (by decide), hT.on]
  by_cases k6 : w = 6
  · subst k6
    refine b_tableIn (off := 112) (tgt := 118) dX12_count_6 (by decide +kernel) (by decide +kernel) (by decide +kernel) (by decide) ?_
    refine b_aload_n dX12_count_118 rfl rfl ?_
    refine b_callV (As := []) (st := []) dX12_count_119 lk_X12_379 lm_X12_rests lv_X12_rests rfl (by decide) rfl rfl rfl (Nat.le_of_ble_eq_true rfl) (Nat.le_refl _) (by decide) ?_
    refine c_X12_rests (n := l_n S) (by rw [up2_k _ _ _ _ (by decide)]; exact hR.n) hR.le ?_
    rw [show up2 g 84 2 0 104 = g 104 from up2_f _ _ _ _ (by decide)]
    refine b_iret rfl (by decide) dX12_count_122 ?_
    refine hq _ ?_
    have e : cntN (tmP (l_g S 0) 12 0) (l_n S) = cntN (tmP (g 104) 12 0) (l_n S) := cntN_cg (fun i hi => by unfold tmP; rw [hR.sg i hi])
    unfold couM
    rw [if_neg (by decide), if_neg (by decide), if_neg (by decide), if_neg (by decide), if_neg (by decide), if_neg (by decide), if_pos rfl]
    rw [e]
  by_cases k7 : w = 7
  · subst k7
    refine b_tableIn (off := 117) (tgt := 123) dX12_count_6 (by decide +kernel) (by decide +kernel) (by decide +kernel) (by decide) ?_
    refine b_aload_n dX12_count_123 rfl rfl ?_
    refine b_getI lf_X12_323 rfl dX12_count_124 ?_
    refine b_iret rfl (by decide) dX12_count_127 ?_
    refine hq _ ?_
    unfold couM
    rw [if_neg (by decide), if_neg (by decide), if_neg (by decide), if_neg (by decide), if_neg (by decide), if_neg (by decide), if_neg (by decide), if_pos rfl]
    rw [up2_k _ _ _ _ (by decide), hR.aw]
  by_cases k8 : w = 8
  · subst k8
    refine b_tableIn (off := 122) (tgt := 128) dX12_count_6 (by decide +kernel) (by decide +kernel) (by decide +kernel) (by decide) ?_
    refine b_aload_n dX12_count_128 rfl rfl ?_
    refine b_getI lf_X12_326 rfl dX12_count_129 ?_
    refine b_iret rfl (by decide) dX12_count_132 ?_
    refine hq _ ?_
    unfold couM
    rw [if_neg (by decide), if_neg (by decide), if_neg (by decide), if_neg (by decide), if_neg (by decide), if_neg (by decide), if_neg (by decide), if_neg (by decide), if_pos rfl]
    rw [up2_k _ _ _ _ (by decide), hR.de]
  by_cases k9 : w = 9
  · subst k9
    refine b_tableIn (off := 127) (tgt := 133) dX12_count_6 (by decide +kernel) (by decide +kernel) (by decide +kernel) (by decide) ?_
    refine b_aload_n dX12_count_133 rfl rfl ?_
    refine b_getI lf_X12_329 rfl dX12_count_134 ?_
    refine b_iret rfl (by decide) dX12_count_137 ?_
    refine hq _ ?_
    unfold couM
    rw [if_neg (by decide), if_neg (by decide), if_neg (by decide), if_neg (by decide), if_neg (by decide), if_neg (by decide), if_neg (by decide), if_neg (by decide), if_neg (by decide), if_pos rfl]
    rw [up2_k _ _ _ _ (by decide), hR.ma]
  by_cases k10 : w = 10
  · subst k10
    refine b_tableIn (off := 132) (tgt := 138) dX12_count_6 (by decide +kernel) (by decide +kernel) (by decide +kernel) (by decide) ?_
    refine b_aload_n dX12_count_138 rfl rfl ?_
    refine b_getI lf_X12_338 rfl dX12_count_139 ?_
    refine b_iret rfl (by decide) dX12_count_142 ?_
    refine hq _ ?_
    unfold couM
    rw [if_neg (by decide), if_neg (by decide), if_neg (by decide), if_neg (by decide), if_neg (by decide), if_neg (by decide), if_neg (by decide), if_neg (by decide), if_neg (by decide), if_neg (by decide), if_pos rfl]
    rw [up2_k _ _ _ _ (by decide), hna]
  by_cases k11 : w = 11
  · subst k11
    refine b_tableIn (off := 137) (tgt := 143) dX12_count_6 (by decide +kernel) (by decide +kernel) (by decide +kernel) (by decide) ?_
    refine b_aload_n dX12_count_143 rfl rfl ?_
    refine b_getI lf_X12_341 rfl dX12_count_144 ?_
    refine b_iret rfl (by decide) dX12_count_147 ?_
    refine hq _ ?_
    unfold couM
    rw [if_neg (by decide), if_neg (by decide), if_neg (by decide), if_neg (by decide), if_neg (by decide), if_neg (by decide), if_neg (by decide), if_neg (by decide), if_neg (by decide), if_neg (by decide), if_neg (by decide), if_pos rfl]
    rw [up2_k _ _ _ _ (by decide), hnh]
  by_cases k12 : w = 12
  · subst k12
    refine b_tableIn (off := 142) (tgt := 148) dX12_count_6 (by decide +kernel) (by decide +kernel) (by decide +kernel) (by decide) ?_
    refine b_aload_n dX12_count_148 rfl rfl ?_
    refine b_getI lf_X12_172 rfl dX12_count_149 ?_
    refine b_iret rfl (by decide) dX12_count_152 ?_
    refine hq _ ?_
    unfold couM
    rw [if_neg (by decide), if_neg (by decide), if_neg (by decide), if_neg (by decide), if_neg (by decide), if_neg (by decide), if_neg (by decide), if_neg (by decide), if_neg (by decide), if_neg (by decide), if_neg (by decide), if_neg (by decide), if_pos rfl]
    rw [up2_k _ _ _ _ (by decide), hfd]
  by_cases k13 : w = 13
  · subst k13
    refine b_tableIn (off := 147) (tgt := 153) dX12_count_6 (by decide +kernel) (by decide +kernel) (by decide +kernel) (by decide) ?_
    refine b_aload_n dX12_count_153 rfl rfl ?_
    refine b_getR (b := 96) lf_X12_67 rfl rfl dX12_count_154 ?_
    refine b_iload_n dX12_count_157 rfl rfl ?_
    refine b_bipush (v := 13) dX12_count_158 (by decide +kernel) ?_
    refine b_isub dX12_count_160 ?_
    refine b_ildN (j := 0) dX12_count_161 (by decide +kernel) (by show _ < 3; decide) ?_
    refine b_iret rfl (by decide) dX12_count_162 ?_
    refine hq _ ?_
    unfold couM
    rw [if_neg (by decide), if_neg (by decide), if_neg (by decide), if_neg (by decide), if_neg (by decide), if_neg (by decide), if_neg (by decide), if_neg (by decide), if_neg (by decide), if_neg (by decide), if_neg (by decide), if_neg (by decide), if_neg (by decide), if_pos rfl]
    rw [up2_a _ _ _ _ (by decide), hu 0 (by decide)]
  by_cases k14 : w = 14
  · subst k14
    refine b_tableIn (off := 147) (tgt := 153) dX12_count_6 (by decide +kernel) (by decide +kernel) (by decide +kernel) (by decide) ?_
    refine b_aload_n dX12_count_153 rfl rfl ?_
    refine b_getR (b := 96) lf_X12_67 rfl rfl dX12_count_154 ?_
    refine b_iload_n dX12_count_157 rfl rfl ?_
    refine b_bipush (v := 13) dX12_count_158 (by decide +kernel) ?_
    refine b_isub dX12_count_160 ?_
    refine b_ildN (j := 1) dX12_count_161 (by decide +kernel) (by show _ < 3; decide) ?_
    refine b_iret rfl (by decide) dX12_count_162 ?_
    refine hq _ ?_
    unfold couM
    rw [if_neg (by decide), if_neg (by decide), if_neg (by decide), if_neg (by decide), if_neg (by decide), if_neg (by decide), if_neg (by decide), if_neg (by decide), if_neg (by decide), if_neg (by decide), if_neg (by decide), if_neg (by decide), if_neg (by decide), if_neg (by decide), if_pos rfl]
    rw [up2_a _ _ _ _ (by decide), hu 1 (by decide)]
  by_cases k15 : w = 15
  · subst k15
    refine b_tableIn (off := 147) (tgt := 153) dX12_count_6 (by decide +kernel) (by decide +kernel) (by decide +kernel) (by decide) ?_
    refine b_aload_n dX12_count_153 rfl rfl ?_
    refine b_getR (b := 96) lf_X12_67 rfl rfl dX12_count_154 ?_
    refine b_iload_n dX12_count_157 rfl rfl ?_
    refine b_bipush (v := 13) dX12_count_158 (by decide +kernel) ?_
    refine b_isub dX12_count_160 ?_
    refine b_ildN (j := 2) dX12_count_161 (by decide +kernel) (by show _ < 3; decide) ?_
    refine b_iret rfl (by decide) dX12_count_162 ?_
    refine hq _ ?_
    unfold couM
    rw [if_neg (by decide), if_neg (by decide), if_neg (by decide), if_neg (by decide), if_neg (by decide), if_neg (by decide), if_neg (by decide), if_neg (by decide), if_neg (by decide), if_neg (by decide), if_neg (by decide), if_neg (by decide), if_neg (by decide), if_neg (by decide), if_neg (by decide), if_pos rfl]
    rw [up2_a _ _ _ _ (by decide), hu 2 (by decide)]
  refine b_tableOut (tgt := 163) dX12_count_6 ?_ (by decide) ?_
  · have j0 : ¬ (w).toInt = 0 := fun q => k0 (Int32.toInt_inj.mp q); have j1 : ¬ (w).toInt = 1 := fun q => k1 (Int32.toInt_inj.mp q); have j2 : ¬ (w).toInt = 2 := fun q => k2 (Int32.toInt_inj.mp q); have j3 : ¬ (w).toInt = 3 := fun q => k3 (Int32.toInt_inj.mp q); have j4 : ¬ (w).toInt = 4 := fun q => k4 (Int32.toInt_inj.mp q); have j5 : ¬ (w).toInt = 5 := fun q => k5 (Int32.toInt_inj.mp q); have j6 : ¬ (w).toInt = 6 := fun q => k6 (Int32.toInt_inj.mp q); have j7 : ¬ (w).toInt = 7 := fun q => k7 (Int32.toInt_inj.mp q); have j8 : ¬ (w).toInt = 8 := fun q => k8 (Int32.toInt_inj.mp q); have j9 : ¬ (w).toInt = 9 := fun q => k9 (Int32.toInt_inj.mp q); have j10 : ¬ (w).toInt = 10 := fun q => k10 (Int32.toInt_inj.mp q); have j11 : ¬ (w).toInt = 11 := fun q => k11 (Int32.toInt_inj.mp q); have j12 : ¬ (w).toInt = 12 := fun q => k12 (Int32.toInt_inj.mp q); have j13 : ¬ (w).toInt = 13 := fun q => k13 (Int32.toInt_inj.mp q); have j14 : ¬ (w).toInt = 14 := fun q => k14 (Int32.toInt_inj.mp q); have j15 : ¬ (w).toInt = 15 := fun q => k15 (Int32.toInt_inj.mp q); omega
  refine b_aload_n dX12_count_163 rfl rfl ?_
  refine b_iconst (v := 1) dX12_count_164 (by decide +kernel) ?_
  refine b_callV (As := [_]) (st := []) dX12_count_165 lk_X12_303 lm_X12_fail lv_X12_fail rfl (by decide) rfl rfl rfl (Nat.le_of_ble_eq_true rfl) (Nat.le_refl _) (by decide) ?_
  refine c_X12_fail ?_
  refine b_iret rfl (by decide) dX12_count_168 ?_
  refine hf 0 ?_
  unfold couM
  rw [if_neg k0, if_neg k1, if_neg k2, if_neg k3, if_neg k4, if_neg k5, if_neg k6, if_neg k7, if_neg k8, if_neg k9, if_neg k10, if_neg k11, if_neg k12, if_neg k13, if_neg k14, if_neg k15]
