/-! the class's reader at s : TxS, reading into the town u -/
def RPp (g : G2) (u np : Nat) (H : Nat → Nat → Nat) : Prop := g u 0 = nI np ∧ ∀ p, p < np → g (u + 1) p = nI (H 0 p) ∧ g (u + 2) p = nI (H 5 p) ∧ g (u + 3) p = nI (H 1 p) ∧ g (u + 4) p = nI (H 6 p)
def RFd (g : G2) (u nf : Nat) (H : Nat → Nat → Nat) : Prop := g (u + 6) 2 = nI nf ∧ ∀ i, i < nf → g (u + 7) i = nI (H 7 i) ∧ g (u + 8) i = nI (H 8 i)
def ROt (g : G2) (u no : Nat) (H : Nat → Nat → Nat) : Prop := g u 9 = nI no ∧ ∀ i, i < no → g (u + 9) i = nI (H 4 i)
def RHd (g : G2) (u : Nat) (a b c : Bool) : Prop := g 1 0 = nI u ∧ g 1 2 = 0 ∧ g 1 3 = -1 ∧ g 1 4 = b2i a ∧ g 1 5 = b2i b ∧ g 1 6 = b2i c
def RCl (g : G2) (f : Nat → Nat) (n u : Nat) (s : TxS) : Prop := RTc g f n ∧ Rtk g s.t ∧ RHd g u s.dk s.dt s.ds ∧ RPp g u s.np s.H ∧ g u 6 = nI (s.H 9 0) ∧ RFd g u s.nf s.H ∧ ROt g u s.no s.H ∧ RPc g u s.c
def FLn (u : Nat) (g h : G2) : Prop := (∀ y, y ≠ 1 → y ≠ 2 → y ≠ 3 → ¬ (u ≤ y ∧ y ≤ u + 12) → h y = g y) ∧ h 1 0 = g 1 0 ∧ ∀ j, j < 3 → h 3 j = g 3 j
theorem FLn.rf (u : Nat) (g : G2) : FLn u g g := ⟨fun _ _ _ _ _ => rfl, rfl, fun _ _ => rfl⟩
theorem FLn.tr {u : Nat} {g h k : G2} (h1 : FLn u g h) (h2 : FLn u h k) : FLn u g k := ⟨fun y a b c e => (h2.1 y a b c e).trans (h1.1 y a b c e), h2.2.1.trans h1.2.1, fun j q => (h2.2.2 j q).trans (h1.2.2 j q)⟩
theorem FLn.tk {u : Nat} {g h : G2} (F : FTk g h) : FLn u g h := ⟨fun y _ _ e _ => F.1 y e, by rw [F.1 1 (by decide)], F.2⟩
theorem FLn.fq {u : Nat} {g h : G2} (F : FSg u g h) : FLn u g h := ⟨fun y a b c e => F.1 y a b c (by omega) (by omega), F.2.1 0 (by decide), F.2.2⟩
theorem FLn.up1 {u : Nat} {g : G2} {j : Nat} {x : Int32} (hj : j ≠ 0) : FLn u g (up2 g 1 j x) := ⟨fun y a _ _ _ => up2_f _ _ _ _ a, up2_k _ _ _ _ (fun e => hj e.symm), fun i _ => up2_a _ _ _ _ (by decide) _⟩
theorem FLn.upu {u : Nat} {g : G2} {a j : Nat} {x : Int32} (hu : is_town u) (h1 : u ≤ a) (h2 : a ≤ u + 12) : FLn u g (up2 g a j x) := by
  unfold is_town at hu
  exact ⟨fun y _ _ _ e => up2_f _ _ _ _ (fun q => e (q ▸ ⟨h1, h2⟩)), up2_a _ _ _ _ (by omega) _, fun i _ => up2_a _ _ _ _ (by omega) _⟩
theorem FLn.ref {u : Nat} {g : G2} {x y : Int32} : FLn u g (up2 (up2 g 1 2 x) 1 3 y) := (FLn.up1 (by decide)).tr (FLn.up1 (by decide))
/-- what a fault leaves -/
def FLt (h : G2) (u k p : Nat) : Prop := h 1 2 = nI k ∧ h 1 3 = nI p ∧ ∃ m, m ≤ 8 ∧ h u 0 = nI m
theorem FLt.ref {g : G2} {u k p m : Nat} (hu : is_town u) (h0 : g u 0 = nI m) (hm : m ≤ 8) : FLt (up2 (up2 g 1 2 (nI k)) 1 3 (nI p)) u k p := by
  unfold is_town at hu
  exact ⟨by rw [up2_k _ _ _ _ (by decide)]; exact up2_s _ _ _ _, up2_s _ _ _ _, m, hm, by rw [up2_a _ _ _ _ (by omega), up2_a _ _ _ _ (by omega)]; exact h0⟩
theorem RCl.cg {g h : G2} {f : Nat → Nat} {n u : Nat} {s : TxS} (hu : is_town u) (hC : RCl g f n u s) (h1 : h 1 = g 1) (h3 : ∀ j, j < 3 → h 3 j = g 3 j) (h4 : h 4 = g 4) (hy : ∀ y, u ≤ y → y ≤ u + 12 → y ≠ u + 5 → h y = g y) {t : Tk} (ht : Rtk h t) : RCl h f n u (tkL s t) := by
  obtain ⟨a1, a2, a3, a4, a5, a6, a7, a8⟩ := hC
  refine ⟨a1.c3 h3 h4, ht, ?_, ?_, ?_, ?_, ?_, ?_⟩
  · unfold RHd; rw [h1]; exact a3
  · unfold RPp; rw [hy u (by omega) (by omega) (by omega), hy (u + 1) (by omega) (by omega) (by omega), hy (u + 2) (by omega) (by omega) (by omega), hy (u + 3) (by omega) (by omega) (by omega), hy (u + 4) (by omega) (by omega) (by omega)]; exact a4
  · rw [hy u (by omega) (by omega) (by omega)]; exact a5
  · unfold RFd; rw [hy (u + 6) (by omega) (by omega) (by omega), hy (u + 7) (by omega) (by omega) (by omega), hy (u + 8) (by omega) (by omega) (by omega)]; exact a6
  · unfold ROt; rw [hy u (by omega) (by omega) (by omega), hy (u + 9) (by omega) (by omega) (by omega)]; exact a7
  · unfold RPc; rw [hy (u + 10) (by omega) (by omega) (by omega), hy (u + 11) (by omega) (by omega) (by omega)]; exact a8
theorem RCl.tk {g h : G2} {f : Nat → Nat} {n u : Nat} {s : TxS} (hu : is_town u) (hC : RCl g f n u s) (F : FTk g h) {t : Tk} (ht : Rtk h t) : RCl h f n u (tkL s t) := by
  unfold is_town at hu
  exact hC.cg hu (F.1 1 (by decide)) F.2 (F.1 4 (by decide)) (fun y a b _ => F.1 y (by omega)) ht
/-- what a reader of a line comes to -/
def LQ (Q : QT) (f : Nat → Nat) (n u : Nat) (g : G2) (r : LR) : Prop := (∀ h, r.b = 0 → FLn u g h → RCl h f n u r.s → Q (some (.int 1)) h) ∧ (∀ h, r.b ≠ 0 → FLn u g h → FLt h u r.b r.p → Q (some (.int 0)) h)
theorem c_X7_readEnd {E : En} {d : Nat} {Q : QT} {X : XT} {g : G2} {f : Nat → Nat} {n u : Nat} {s : TxS} (hu : is_town u) (hC : RCl g f n u s) (hO : isTk f n s.t) (h8 : s.np ≤ 8) (hq : LQ Q f n u g (enL f n (0, 0, s))) : M E md_X7_readEnd (d + 7) [.ref 1] g Q X := by
  refine M.of _ rfl rfl (Nat.le_of_ble_eq_true rfl) ?_
  unfold enL at hq
  rw [if_neg (fun q => q rfl)] at hq
  refine b_aload_n dX7_readEnd_0 rfl rfl ?_
  refine b_getR (b := 3) lf_X7_21 rfl rfl dX7_readEnd_1 ?_
  refine b_getI lf_X7_59 rfl dX7_readEnd_4 ?_
  refine b_topE (hC.2.1.2.1) ?_
  refine b_bipush (v := 59) dX7_readEnd_7 (by decide +kernel) ?_
  have hk := hO.vd.1
  refine b_icmp_eq (tgt := 18) dX7_readEnd_9 (by decide) (fun h9 => ?_) (fun h9 => ?_)
  · have e9 : s.t.k = 59 := nI_inj (a := s.t.k) (b := 59) (by omega) (by omega) h9
    rw [if_pos e9] at hq
    refine b_aload_n dX7_readEnd_18 rfl rfl ?_
    refine b_getR (b := 3) lf_X7_21 rfl rfl dX7_readEnd_19 ?_
    refine b_callV (As := []) (st := []) dX7_readEnd_22 lk_X7_94 lm_X9_next lv_X9_next rfl (by decide) rfl rfl rfl (Nat.le_of_ble_eq_true rfl) (Nat.le_refl _) (by decide) ?_
    refine c_X9_next hC.1 hC.2.1.1 hO.ok.1 (fun h1 F1 T1 => ?_)
    refine b_iconst (v := 1) dX7_readEnd_25 (by decide +kernel) ?_
    refine b_zret (Or.inr rfl) rfl (by decide) dX7_readEnd_26 ?_
    exact hq.1 _ rfl (FLn.tk F1) (RCl.tk hu hC F1 T1)
  · have e9 : s.t.k ≠ 59 := fun q => h9 (congrArg nI q)
    rw [if_neg e9] at hq
    refine b_aload_n dX7_readEnd_12 rfl rfl ?_
    refine b_iconst (v := 1) dX7_readEnd_13 (by decide +kernel) ?_
    refine b_callV (As := [_]) (st := []) dX7_readEnd_14 lk_X7_91 lm_X7_refuse lv_X7_refuse rfl (by decide) rfl rfl rfl (Nat.le_of_ble_eq_true rfl) (Nat.le_refl _) (by decide) ?_
    refine c_X7_refuse (k := 1) hC.2.1.2.2.1 ?_
    refine b_zret (Or.inl rfl) rfl (by decide) dX7_readEnd_17 ?_
    exact hq.2 _ (Nat.succ_ne_zero _) FLn.ref (FLt.ref hu hC.2.2.2.1.1 h8)
theorem nI_beq {a b : Nat} (ha : a < 2 ^ 31) (hb : b < 2 ^ 31) : (nI a == nI b) = (a == b) := by
  by_cases h : a = b
  · rw [h, beq_self_eq_true, beq_self_eq_true]
  · rw [beq_eq_false_iff_ne.mpr h, beq_eq_false_iff_ne.mpr (fun q => h (nI_inj ha hb q))]
theorem FLn.add {u : Nat} {g h : G2} (hu : is_town u) (F : FR [u, u + 1, u + 2, u + 3, u + 4] g h) : FLn u g h := by
  have e : ∀ y, ¬ (u ≤ y ∧ y ≤ u + 12) → h y = g y := fun y q => F y (by simp; omega)
  unfold is_town at hu
  exact ⟨fun y _ _ _ q => e y q, by rw [e 1 (by omega)], fun j _ => by rw [e 3 (by omega)]⟩
theorem RCl.add {g h : G2} {f : Nat → Nat} {n u : Nat} {s : TxS} {k a b c : Nat} (hu : is_town u) (hC : RCl g f n u s) (F : FR [u, u + 1, u + 2, u + 3, u + 4] g h) (a0 : ∀ j, j ≠ 0 → h u j = g u j) (a1 : h u 0 = nI (s.np + 1)) (b0 : ∀ j, j ≠ s.np → h (u + 1) j = g (u + 1) j) (b1 : h (u + 1) s.np = nI k) (b2 : ∀ j, j ≠ s.np → h (u + 2) j = g (u + 2) j) (b3 : h (u + 2) s.np = nI a) (b4 : ∀ j, j ≠ s.np → h (u + 3) j = g (u + 3) j) (b5 : h (u + 3) s.np = nI b) (b6 : ∀ j, j ≠ s.np → h (u + 4) j = g (u + 4) j) (b7 : h (u + 4) s.np = nI c) : RCl h f n u (s.t, s.np + 1, s.nf, s.no, s.dk, s.dt, s.ds, s.c, uN (uN (uN (uN s.H 0 s.np k) 5 s.np a) 1 s.np b) 6 s.np c) := by
  have e : ∀ y, (y < u ∨ u + 4 < y) → h y = g y := fun y q => F y (by simp; omega)
  have hu2 := hu
  unfold is_town at hu
  obtain ⟨c1, c2, c3, c4, c5, c6, c7, c8⟩ := hC
  refine ⟨c1.c3 (fun j _ => by rw [e 3 (by omega)]) (e 4 (by omega)), c2.c3 (e 3 (by omega)), ?_, ⟨a1, ?_⟩, ?_, ?_, ?_, ?_⟩
  · unfold RHd; rw [e 1 (by omega)]; exact c3
  · intro p hp
    have hp : p < s.np + 1 := hp
    show h (u + 1) p = nI (uN (uN (uN (uN s.H 0 s.np k) 5 s.np a) 1 s.np b) 6 s.np c 0 p) ∧ h (u + 2) p = nI (uN (uN (uN (uN s.H 0 s.np k) 5 s.np a) 1 s.np b) 6 s.np c 5 p) ∧ h (u + 3) p = nI (uN (uN (uN (uN s.H 0 s.np k) 5 s.np a) 1 s.np b) 6 s.np c 1 p) ∧ h (u + 4) p = nI (uN (uN (uN (uN s.H 0 s.np k) 5 s.np a) 1 s.np b) 6 s.np c 6 p)
    rw [uN_r _ _ _ _ (show 0 ≠ 6 by decide), uN_r _ _ _ _ (show 0 ≠ 1 by decide), uN_r _ _ _ _ (show 0 ≠ 5 by decide), uN_r _ _ _ _ (show 5 ≠ 6 by decide), uN_r _ _ _ _ (show 5 ≠ 1 by decide), uN_r _ _ _ _ (show 1 ≠ 6 by decide)]
    by_cases q : p = s.np
    · rw [q, uN_s, uN_s, uN_s, uN_s]; exact ⟨b1, b3, b5, b7⟩
    · rw [uN_j _ _ _ _ q, uN_j _ _ _ _ q, uN_j _ _ _ _ q, uN_j _ _ _ _ q, uN_r _ _ _ _ (by decide), uN_r _ _ _ _ (by decide), uN_r _ _ _ _ (by decide), uN_r _ _ _ _ (by decide), uN_r _ _ _ _ (by decide), uN_r _ _ _ _ (by decide), b0 p q, b2 p q, b4 p q, b6 p q]
      exact c4.2 p (by omega)
  · show h u 6 = nI (uN (uN (uN (uN s.H 0 s.np k) 5 s.np a) 1 s.np b) 6 s.np c 9 0)
    rw [uN_r _ _ _ _ (by decide), uN_r _ _ _ _ (by decide), uN_r _ _ _ _ (by decide), uN_r _ _ _ _ (by decide), a0 6 (by decide)]; exact c5
  · refine ⟨by rw [e (u + 6) (by omega)]; exact c6.1, fun i hi => ?_⟩
    show h (u + 7) i = nI (uN (uN (uN (uN s.H 0 s.np k) 5 s.np a) 1 s.np b) 6 s.np c 7 i) ∧ h (u + 8) i = nI (uN (uN (uN (uN s.H 0 s.np k) 5 s.np a) 1 s.np b) 6 s.np c 8 i)
    rw [uN_r _ _ _ _ (show 7 ≠ 6 by decide), uN_r _ _ _ _ (show 7 ≠ 1 by decide), uN_r _ _ _ _ (show 7 ≠ 5 by decide), uN_r _ _ _ _ (show 7 ≠ 0 by decide), uN_r _ _ _ _ (show 8 ≠ 6 by decide), uN_r _ _ _ _ (show 8 ≠ 1 by decide), uN_r _ _ _ _ (show 8 ≠ 5 by decide), uN_r _ _ _ _ (show 8 ≠ 0 by decide), e (u + 7) (by omega), e (u + 8) (by omega)]
    exact c6.2 i hi
  · refine ⟨by rw [a0 9 (by decide)]; exact c7.1, fun i hi => ?_⟩
    show h (u + 9) i = nI (uN (uN (uN (uN s.H 0 s.np k) 5 s.np a) 1 s.np b) 6 s.np c 4 i)
    rw [uN_r _ _ _ _ (by decide), uN_r _ _ _ _ (by decide), uN_r _ _ _ _ (by decide), uN_r _ _ _ _ (by decide), e (u + 9) (by omega)]
    exact c7.2 i hi
  · exact c8.cg (e (u + 10) (by omega)) (e (u + 11) (by omega))
theorem c_X7_readPerson {E : En} {d : Nat} {Q : QT} {X : XT} {g : G2} {k : Nat} {f : Nat → Nat} {n u : Nat} {s : TxS} (hu : is_town u) (hC : RCl g f n u s) (hO : okLs f n s) (hq : LQ Q f n u g (lnP f n k s)) : M E md_X7_readPerson (d + 7) [.ref 1, .int (nI k)] g Q X := by
  refine M.of _ rfl rfl (Nat.le_of_ble_eq_true rfl) ?_
  unfold lnP at hq
  simp only at hq
  have h1 := hC.2.2.1.1
  have h8 := hO.2.1
  have h6 := hO.2.2.1
  have h24 := hO.2.2.2.1
  have hn6 := hC.1.2.1
  have hk := hO.1.vd.1
  refine b_aload_n dX7_readPerson_0 rfl rfl ?_
  refine b_getD lf_X7_12 rfl h1 (town_31 hu) dX7_readPerson_1 ?_
  refine b_getI lf_X7_103 (town_c hu) dX7_readPerson_4 ?_
  refine b_topE (hC.2.2.2.1.1) ?_
  refine b_bipush (v := 8) dX7_readPerson_7 (by decide +kernel) ?_
  refine b_icmp_lt (tgt := 18) dX7_readPerson_9 (by decide) (fun h9 => ?_) (fun h9 => ?_)
  · have e9 : s.np < 8 := nn_lt (a := s.np) (b := 8) (by omega) (by omega) h9
    rw [if_neg (by omega)] at hq
    refine b_aload_n dX7_readPerson_18 rfl rfl ?_
    refine b_getR (b := 3) lf_X7_21 rfl rfl dX7_readPerson_19 ?_
    refine b_callV (As := []) (st := []) dX7_readPerson_22 lk_X7_94 lm_X9_next lv_X9_next rfl (by decide) rfl rfl rfl (Nat.le_of_ble_eq_true rfl) (Nat.le_refl _) (by decide) ?_
    refine c_X9_next hC.1 hC.2.1.1 hO.1.ok.1 (fun h1 F1 T1 => ?_)
    have i1 := hO.1.nx
    generalize nxt f n s.t.af = t1 at T1 hq i1
    have C1 := RCl.tk hu hC F1 T1
    have L1 : FLn u g h1 := FLn.tk F1
    obtain ⟨k1, v1, d1⟩ := i1.vd
    refine b_aload_n dX7_readPerson_25 rfl rfl ?_
    refine b_iconst (v := 0) dX7_readPerson_26 (by decide +kernel) ?_
    refine b_iconst (v := 3) dX7_readPerson_27 (by decide +kernel) ?_
    refine b_callV (As := [_, _]) (st := []) dX7_readPerson_28 lk_X7_106 lm_X7_isNumber lv_X7_isNumber rfl (by decide) rfl rfl rfl (Nat.le_of_ble_eq_true rfl) (Nat.le_refl _) (by decide) ?_
    refine c_X7_isNumber (t := t1) (lo := 0) (hi := 3) C1.2.1 k1 (by omega) v1 (by decide) (by decide) (fun y1 => ?_) (fun z1 x1 y1 => ?_)
    · rw [if_neg (Decidable.not_not.mpr y1)] at hq
      obtain ⟨q1, -, m1, w1⟩ := nuC_0 y1
      refine b_if_ne (tgt := 36) dX7_readPerson_31 (by decide) (fun h31 => ?_) (fun h31 => ?_)
      · refine b_aload_n dX7_readPerson_36 rfl rfl ?_
        refine b_getR (b := 3) lf_X7_21 rfl rfl dX7_readPerson_37 ?_
        refine b_getI lf_X7_100 rfl dX7_readPerson_40 ?_
        refine b_topE (y := nI t1.v) ((C1.2.1.2.2.2 q1).1) ?_
        refine b_istore_n (lv' := [(0, _), (1, _), (2, _)]) dX7_readPerson_43 rfl (by decide) rfl rfl ?_
        refine b_aload_n dX7_readPerson_44 rfl rfl ?_
        refine b_getR (b := 3) lf_X7_21 rfl rfl dX7_readPerson_45 ?_
        refine b_callV (As := []) (st := []) dX7_readPerson_48 lk_X7_94 lm_X9_next lv_X9_next rfl (by decide) rfl rfl rfl (Nat.le_of_ble_eq_true rfl) (Nat.le_refl _) (by decide) ?_
        refine c_X9_next C1.1 C1.2.1.1 i1.ok.1 (fun h2 F2 T2 => ?_)
        have i2 := i1.nx
        generalize nxt f n t1.af = t2 at T2 hq i2
        have C2 := RCl.tk hu C1 F2 T2
        have L2 : FLn u g h2 := L1.tr (FLn.tk F2)
        obtain ⟨k2, v2, d2⟩ := i2.vd
        refine b_aload_n dX7_readPerson_51 rfl rfl ?_
        refine b_iconst (v := 1) dX7_readPerson_52 (by decide +kernel) ?_
        refine b_sipush (v := 365) dX7_readPerson_53 (by decide +kernel) ?_
        refine b_callV (As := [_, _]) (st := []) dX7_readPerson_56 lk_X7_106 lm_X7_isNumber lv_X7_isNumber rfl (by decide) rfl rfl rfl (Nat.le_of_ble_eq_true rfl) (Nat.le_refl _) (by decide) ?_
        refine c_X7_isNumber (t := t2) (lo := 1) (hi := 365) C2.2.1 k2 (by omega) v2 (by decide) (by decide) (fun y2 => ?_) (fun z2 x2 y2 => ?_)
        · rw [if_neg (Decidable.not_not.mpr y2)] at hq
          obtain ⟨q2, -, m2, w2⟩ := nuC_0 y2
          refine b_if_ne (tgt := 64) dX7_readPerson_59 (by decide) (fun h59 => ?_) (fun h59 => ?_)
          · refine b_aload_n dX7_readPerson_64 rfl rfl ?_
            refine b_getR (b := 3) lf_X7_21 rfl rfl dX7_readPerson_65 ?_
            refine b_getI lf_X7_100 rfl dX7_readPerson_68 ?_
            refine b_topE (y := nI t2.v) ((C2.2.1.2.2.2 q2).1) ?_
            refine b_istore_n (lv' := [(0, _), (1, _), (2, _), (3, _)]) dX7_readPerson_71 rfl (by decide) rfl rfl ?_
            refine b_aload_n dX7_readPerson_72 rfl rfl ?_
            refine b_getD lf_X7_12 rfl C2.2.2.1.1 (town_31 hu) dX7_readPerson_73 ?_
            refine b_iload_n dX7_readPerson_76 rfl rfl ?_
            refine b_callV (As := [_]) (st := []) dX7_readPerson_77 lk_X7_110 lm_X10_hasBirthday lv_X10_hasBirthday (town_c hu) (by decide) rfl rfl rfl (Nat.le_of_ble_eq_true rfl) (Nat.le_refl _) (by decide) ?_
            refine c_X10_hasBirthday hu C2.2.2.2.1.1 h8 ?_
            have eB : anyN (fun i => h2 (u + 3) i == nI t2.v) s.np = anyN (fun i => s.H 1 i == t2.v) s.np := anyN_cg (fun i hi => by
              have e3 : h2 (u + 3) i = nI (s.H 1 i) := (C2.2.2.2.1.2 i hi).2.2.1
              rw [e3]
              exact nI_beq (by have := hO.2.2.2.2.1 i hi; omega) (by omega))
            rw [eB]
            refine b_if_eq (tgt := 89) dX7_readPerson_80 (by decide) (fun h80 => ?_) (fun h80 => ?_)
            · have e80 := b2i_0 h80
              rw [if_neg (by rw [e80]; exact Bool.false_ne_true)] at hq
              refine b_aload_n dX7_readPerson_89 rfl rfl ?_
              refine b_getR (b := 3) lf_X7_21 rfl rfl dX7_readPerson_90 ?_
              refine b_callV (As := []) (st := []) dX7_readPerson_93 lk_X7_94 lm_X9_next lv_X9_next rfl (by decide) rfl rfl rfl (Nat.le_of_ble_eq_true rfl) (Nat.le_refl _) (by decide) ?_
              refine c_X9_next C2.1 C2.2.1.1 i2.ok.1 (fun h3 F3 T3 => ?_)
              have i3 := i2.nx
              generalize nxt f n t2.af = t3 at T3 hq i3
              have C3 := RCl.tk hu C2 F3 T3
              have L3 : FLn u g h3 := L2.tr (FLn.tk F3)
              obtain ⟨k3, v3, d3⟩ := i3.vd
              refine b_aload_n dX7_readPerson_96 rfl rfl ?_
              refine b_iconst (v := 0) dX7_readPerson_97 (by decide +kernel) ?_
              refine b_bipush (v := 11) dX7_readPerson_98 (by decide +kernel) ?_
              refine b_callV (As := [_, _]) (st := []) dX7_readPerson_100 lk_X7_106 lm_X7_isNumber lv_X7_isNumber rfl (by decide) rfl rfl rfl (Nat.le_of_ble_eq_true rfl) (Nat.le_refl _) (by decide) ?_
              refine c_X7_isNumber (t := t3) (lo := 0) (hi := 11) C3.2.1 k3 (by omega) v3 (by decide) (by decide) (fun y3 => ?_) (fun z3 x3 y3 => ?_)
              · rw [if_neg (Decidable.not_not.mpr y3)] at hq
                obtain ⟨q3, -, m3, w3⟩ := nuC_0 y3
                refine b_if_ne (tgt := 108) dX7_readPerson_103 (by decide) (fun h103 => ?_) (fun h103 => ?_)
                · refine b_aload_n dX7_readPerson_108 rfl rfl ?_
                  refine b_getD lf_X7_12 rfl C3.2.2.1.1 (town_31 hu) dX7_readPerson_109 ?_
                  refine b_iload_n dX7_readPerson_112 rfl rfl ?_
                  refine b_iload_n dX7_readPerson_113 rfl rfl ?_
                  refine b_iload_n dX7_readPerson_114 rfl rfl ?_
                  refine b_aload_n dX7_readPerson_115 rfl rfl ?_
                  refine b_getR (b := 3) lf_X7_21 rfl rfl dX7_readPerson_116 ?_
                  refine b_getI lf_X7_100 rfl dX7_readPerson_119 ?_
                  refine b_topE (y := nI t3.v) ((C3.2.1.2.2.2 q3).1) ?_
                  refine b_callV (As := [_, _, _, _]) (st := []) dX7_readPerson_122 lk_X7_113 lm_X10_add lv_X10_add (town_c hu) (by decide) rfl rfl rfl (Nat.le_of_ble_eq_true rfl) (Nat.le_refl _) (by decide) ?_
                  refine c_X10_add hu C3.2.2.2.1.1 (by omega) (fun h4 G4 a0 a1 b0 b1 b2 b3 b4 b5 b6 b7 => ?_)
                  have C4 := C3.add hu G4 a0 a1 b0 b1 b2 b3 b4 b5 b6 b7
                  have L4 := L3.tr (FLn.add hu G4)
                  refine b_aload_n dX7_readPerson_125 rfl rfl ?_
                  refine b_getR (b := 3) lf_X7_21 rfl rfl dX7_readPerson_126 ?_
                  refine b_callV (As := []) (st := []) dX7_readPerson_129 lk_X7_94 lm_X9_next lv_X9_next rfl (by decide) rfl rfl rfl (Nat.le_of_ble_eq_true rfl) (Nat.le_refl _) (by decide) ?_
                  refine c_X9_next C4.1 C4.2.1.1 i3.ok.1 (fun h5 F5 T5 => ?_)
                  refine b_iconst (v := 1) dX7_readPerson_132 (by decide +kernel) ?_
                  refine b_zret (Or.inr rfl) rfl (by decide) dX7_readPerson_133 ?_
                  exact hq.1 _ rfl (L4.tr (FLn.tk F5)) (RCl.tk hu C4 F5 T5)
                · exact absurd h103 (by decide)
              · rw [y3, if_pos x3] at hq
                refine b_if_ne (tgt := 108) dX7_readPerson_103 (by decide) (fun h103 => ?_) (fun h103 => ?_)
                · exact absurd rfl h103
                · refine b_iconst (v := 0) dX7_readPerson_106 (by decide +kernel) ?_
                  refine b_zret (Or.inl rfl) rfl (by decide) dX7_readPerson_107 ?_
                  exact hq.2 _ x3 (L3.tr FLn.ref) (FLt.ref hu C3.2.2.2.1.1 h8)
            · have e80 := b2i_1 h80
              rw [if_pos e80] at hq
              refine b_aload_n dX7_readPerson_83 rfl rfl ?_
              refine b_iconst (v := 4) dX7_readPerson_84 (by decide +kernel) ?_
              refine b_callV (As := [_]) (st := []) dX7_readPerson_85 lk_X7_91 lm_X7_refuse lv_X7_refuse rfl (by decide) rfl rfl rfl (Nat.le_of_ble_eq_true rfl) (Nat.le_refl _) (by decide) ?_
              refine c_X7_refuse (k := 4) C2.2.1.2.2.1 ?_
              refine b_zret (Or.inl rfl) rfl (by decide) dX7_readPerson_88 ?_
              exact hq.2 _ (Nat.succ_ne_zero _) (L2.tr FLn.ref) (FLt.ref hu C2.2.2.2.1.1 h8)
          · exact absurd h59 (by decide)
        · rw [y2, if_pos x2] at hq
          refine b_if_ne (tgt := 64) dX7_readPerson_59 (by decide) (fun h59 => ?_) (fun h59 => ?_)
          · exact absurd rfl h59
          · refine b_iconst (v := 0) dX7_readPerson_62 (by decide +kernel) ?_
            refine b_zret (Or.inl rfl) rfl (by decide) dX7_readPerson_63 ?_
            exact hq.2 _ x2 (L2.tr FLn.ref) (FLt.ref hu C2.2.2.2.1.1 h8)
      · exact absurd h31 (by decide)
    · rw [y1, if_pos x1] at hq
      refine b_if_ne (tgt := 36) dX7_readPerson_31 (by decide) (fun h31 => ?_) (fun h31 => ?_)
      · exact absurd rfl h31
      · refine b_iconst (v := 0) dX7_readPerson_34 (by decide +kernel) ?_
        refine b_zret (Or.inl rfl) rfl (by decide) dX7_readPerson_35 ?_
        exact hq.2 _ x1 (L1.tr FLn.ref) (FLt.ref hu C1.2.2.2.1.1 h8)
  · have e9 : 8 ≤ s.np := nn_nlt (a := s.np) (b := 8) (by omega) (by omega) h9
    rw [if_pos e9] at hq
    refine b_aload_n dX7_readPerson_12 rfl rfl ?_
    refine b_iconst (v := 2) dX7_readPerson_13 (by decide +kernel) ?_
    refine b_callV (As := [_]) (st := []) dX7_readPerson_14 lk_X7_91 lm_X7_refuse lv_X7_refuse rfl (by decide) rfl rfl rfl (Nat.le_of_ble_eq_true rfl) (Nat.le_refl _) (by decide) ?_
    refine c_X7_refuse (k := 2) hC.2.1.2.2.1 ?_
    refine b_zret (Or.inl rfl) rfl (by decide) dX7_readPerson_17 ?_
    exact hq.2 _ (Nat.succ_ne_zero _) FLn.ref (FLt.ref hu hC.2.2.2.1.1 h8)
theorem RCl.fl {g : G2} {f : Nat → Nat} {n u : Nat} {s : TxS} {j : Nat} {x : Int32} (hu : is_town u) (hC : RCl g f n u s) (hj : j = 4 ∨ j = 5 ∨ j = 6) (a b c : Bool) (h4 : up2 g 1 j x 1 4 = b2i a) (h5 : up2 g 1 j x 1 5 = b2i b) (h6 : up2 g 1 j x 1 6 = b2i c) : RCl (up2 g 1 j x) f n u (s.t, s.np, s.nf, s.no, a, b, c, s.c, s.H) := by
  have hu2 := hu
  unfold is_town at hu
  obtain ⟨c1, c2, c3, c4, c5, c6, c7, c8⟩ := hC
  have e : ∀ y, y ≠ 1 → up2 g 1 j x y = g y := fun y q => up2_f _ _ _ _ q
  refine ⟨c1.c3 (fun j _ => by rw [e 3 (by decide)]) (e 4 (by decide)), c2.c3 (e 3 (by decide)), ⟨?_, ?_, ?_, h4, h5, h6⟩, ?_, ?_, ?_, ?_, c8.up hu2 (Or.inl rfl)⟩
  · rw [up2_k _ _ _ _ (by omega)]; exact c3.1
  · rw [up2_k _ _ _ _ (by omega)]; exact c3.2.1
  · rw [up2_k _ _ _ _ (by omega)]; exact c3.2.2.1
  · unfold RPp; rw [e u (by omega), e (u + 1) (by omega), e (u + 2) (by omega), e (u + 3) (by omega), e (u + 4) (by omega)]; exact c4
  · rw [e u (by omega)]; exact c5
  · unfold RFd; rw [e (u + 6) (by omega), e (u + 7) (by omega), e (u + 8) (by omega)]; exact c6
  · unfold ROt; rw [e u (by omega), e (u + 9) (by omega)]; exact c7
theorem RCl.key {g : G2} {f : Nat → Nat} {n u v : Nat} {s : TxS} (hu : is_town u) (hC : RCl g f n u s) : RCl (up2 g u 6 (nI v)) f n u (s.t, s.np, s.nf, s.no, s.dk, s.dt, s.ds, s.c, uN s.H 9 0 v) := by
  have hu2 := hu
  unfold is_town at hu
  obtain ⟨c1, c2, c3, c4, c5, c6, c7, c8⟩ := hC
  have e : ∀ y, y ≠ u → up2 g u 6 (nI v) y = g y := fun y q => up2_f _ _ _ _ q
  have hR : ∀ r p, r ≠ 9 → uN s.H 9 0 v r p = s.H r p := fun r p q => uN_r _ _ _ _ q _
  refine ⟨c1.c3 (fun j _ => by rw [e 3 (by omega)]) (e 4 (by omega)), c2.c3 (e 3 (by omega)), ?_, ⟨?_, ?_⟩, ?_, ⟨?_, ?_⟩, ⟨?_, ?_⟩, ?_⟩
  · unfold RHd; rw [e 1 (by omega)]; exact c3
  · rw [up2_k _ _ _ _ (by decide)]; exact c4.1
  · intro p hp
    show _ = nI (uN s.H 9 0 v 0 p) ∧ _ = nI (uN s.H 9 0 v 5 p) ∧ _ = nI (uN s.H 9 0 v 1 p) ∧ _ = nI (uN s.H 9 0 v 6 p)
    rw [hR _ _ (by decide), hR _ _ (by decide), hR _ _ (by decide), hR _ _ (by decide), e (u + 1) (by omega), e (u + 2) (by omega), e (u + 3) (by omega), e (u + 4) (by omega)]; exact c4.2 p hp
  · show _ = nI (uN s.H 9 0 v 9 0)
    rw [uN_s]; exact up2_s _ _ _ _
  · rw [e (u + 6) (by omega)]; exact c6.1
  · intro i hi
    show _ = nI (uN s.H 9 0 v 7 i) ∧ _ = nI (uN s.H 9 0 v 8 i)
    rw [hR _ _ (by decide), hR _ _ (by decide), e (u + 7) (by omega), e (u + 8) (by omega)]; exact c6.2 i hi
  · rw [up2_k _ _ _ _ (by decide)]; exact c7.1
  · intro i hi
    show _ = nI (uN s.H 9 0 v 4 i)
    rw [hR _ _ (by decide), e (u + 9) (by omega)]; exact c7.2 i hi
  · exact c8.cg (e (u + 10) (by omega)) (e (u + 11) (by omega))
theorem RCl.ins {g h : G2} {f : Nat → Nat} {n u a b : Nat} {s : TxS} (hu : is_town u) (hC : RCl g f n u s) (F : FR [u + 6, u + 6 + 1, u + 6 + 2] g h) (h2 : h (u + 6) 2 = nI (s.nf + 1)) (ha : ∀ j, h (u + 6 + 1) j = insF (g (u + 6 + 1)) s.nf s.nf (nI a) j) (hb : ∀ j, h (u + 6 + 2) j = insF (g (u + 6 + 2)) s.nf s.nf (nI b) j) : FLn u g h ∧ RCl h f n u (s.t, s.np, s.nf + 1, s.no, s.dk, s.dt, s.ds, s.c, uN (uN s.H 7 s.nf a) 8 s.nf b) := by
  have hu2 := hu
  unfold is_town at hu
  obtain ⟨c1, c2, c3, c4, c5, c6, c7, c8⟩ := hC
  have e : ∀ y, (y < u + 6 ∨ u + 8 < y) → h y = g y := fun y q => F y (by simp; omega)
  have hR : ∀ r p, r ≠ 7 → r ≠ 8 → uN (uN s.H 7 s.nf a) 8 s.nf b r p = s.H r p := fun r p e1 e2 => by rw [uN_r _ _ _ _ e2, uN_r _ _ _ _ e1]
  refine ⟨⟨fun y _ _ _ q => e y (by omega), by rw [e 1 (by omega)], fun j _ => by rw [e 3 (by omega)]⟩, c1.c3 (fun j _ => by rw [e 3 (by omega)]) (e 4 (by omega)), c2.c3 (e 3 (by omega)), ?_, ⟨?_, ?_⟩, ?_, ⟨h2, ?_⟩, ⟨?_, ?_⟩, ?_⟩
  · unfold RHd; rw [e 1 (by omega)]; exact c3
  · rw [e u (by omega)]; exact c4.1
  · intro p hp
    show _ = nI (uN (uN s.H 7 s.nf a) 8 s.nf b 0 p) ∧ _ = nI (uN (uN s.H 7 s.nf a) 8 s.nf b 5 p) ∧ _ = nI (uN (uN s.H 7 s.nf a) 8 s.nf b 1 p) ∧ _ = nI (uN (uN s.H 7 s.nf a) 8 s.nf b 6 p)
    rw [hR _ _ (by decide) (by decide), hR _ _ (by decide) (by decide), hR _ _ (by decide) (by decide), hR _ _ (by decide) (by decide), e (u + 1) (by omega), e (u + 2) (by omega), e (u + 3) (by omega), e (u + 4) (by omega)]; exact c4.2 p hp
  · show h u 6 = nI (uN (uN s.H 7 s.nf a) 8 s.nf b 9 0)
    rw [hR _ _ (by decide) (by decide), e u (by omega)]; exact c5
  · intro i hi
    have hi : i < s.nf + 1 := hi
    show h (u + 6 + 1) i = nI (uN (uN s.H 7 s.nf a) 8 s.nf b 7 i) ∧ h (u + 6 + 2) i = nI (uN (uN s.H 7 s.nf a) 8 s.nf b 8 i)
    rw [ha, hb, insF_end hi, insF_end hi, uN_r _ _ _ _ (show 7 ≠ 8 by decide)]
    by_cases q : i = s.nf
    · rw [if_pos q, if_pos q, q, uN_s, uN_s]; exact ⟨rfl, rfl⟩
    · rw [if_neg q, if_neg q, uN_j _ _ _ _ q, uN_j _ _ _ _ q, uN_r _ _ _ _ (by decide)]; exact c6.2 i (by omega)
  · rw [e u (by omega)]; exact c7.1
  · intro i hi
    show _ = nI (uN (uN s.H 7 s.nf a) 8 s.nf b 4 i)
    rw [hR _ _ (by decide) (by decide), e (u + 9) (by omega)]; exact c7.2 i hi
  · exact c8.cg (e (u + 10) (by omega)) (e (u + 11) (by omega))
theorem RCl.oth {g : G2} {f : Nat → Nat} {n u v : Nat} {s : TxS} (hu : is_town u) (hC : RCl g f n u s) : RCl (up2 (up2 g (u + 9) s.no (nI v)) u 9 (nI (s.no + 1))) f n u (s.t, s.np, s.nf, s.no + 1, s.dk, s.dt, s.ds, s.c, uN s.H 4 s.no v) := by
  have hu2 := hu
  unfold is_town at hu
  obtain ⟨c1, c2, c3, c4, c5, c6, c7, c8⟩ := hC
  have e : ∀ y, y ≠ u → y ≠ u + 9 → up2 (up2 g (u + 9) s.no (nI v)) u 9 (nI (s.no + 1)) y = g y := fun y q q2 => by rw [up2_f _ _ _ _ q, up2_f _ _ _ _ q2]
  have e0 : ∀ j, j ≠ 9 → up2 (up2 g (u + 9) s.no (nI v)) u 9 (nI (s.no + 1)) u j = g u j := fun j q => by rw [up2_k _ _ _ _ q, up2_a _ _ _ _ (by omega)]
  have hR : ∀ r p, r ≠ 4 → uN s.H 4 s.no v r p = s.H r p := fun r p q => uN_r _ _ _ _ q _
  refine ⟨c1.c3 (fun j _ => by rw [e 3 (by omega) (by omega)]) (e 4 (by omega) (by omega)), c2.c3 (e 3 (by omega) (by omega)), ?_, ⟨?_, ?_⟩, ?_, ⟨?_, ?_⟩, ⟨up2_s _ _ _ _, ?_⟩, ?_⟩
  · unfold RHd; rw [e 1 (by omega) (by omega)]; exact c3
  · rw [e0 0 (by decide)]; exact c4.1
  · intro p hp
    show _ = nI (uN s.H 4 s.no v 0 p) ∧ _ = nI (uN s.H 4 s.no v 5 p) ∧ _ = nI (uN s.H 4 s.no v 1 p) ∧ _ = nI (uN s.H 4 s.no v 6 p)
    rw [hR _ _ (by decide), hR _ _ (by decide), hR _ _ (by decide), hR _ _ (by decide), e (u + 1) (by omega) (by omega), e (u + 2) (by omega) (by omega), e (u + 3) (by omega) (by omega), e (u + 4) (by omega) (by omega)]; exact c4.2 p hp
  · show _ = nI (uN s.H 4 s.no v 9 0)
    rw [hR _ _ (by decide), e0 6 (by decide)]; exact c5
  · rw [e (u + 6) (by omega) (by omega)]; exact c6.1
  · intro i hi
    show _ = nI (uN s.H 4 s.no v 7 i) ∧ _ = nI (uN s.H 4 s.no v 8 i)
    rw [hR _ _ (by decide), hR _ _ (by decide), e (u + 7) (by omega) (by omega), e (u + 8) (by omega) (by omega)]; exact c6.2 i hi
  · intro i hi
    have hi : i < s.no + 1 := hi
    show up2 (up2 g (u + 9) s.no (nI v)) u 9 (nI (s.no + 1)) (u + 9) i = nI (uN s.H 4 s.no v 4 i)
    rw [up2_a _ _ _ _ (by omega)]
    by_cases q : i = s.no
    · rw [q, up2_s, uN_s]
    · rw [up2_k _ _ _ _ q, uN_j _ _ _ _ q]; exact c7.2 i (by omega)
  · exact c8.cg (e (u + 10) (by omega) (by omega)) (e (u + 11) (by omega) (by omega))
theorem c_X7_readKey {E : En} {d : Nat} {Q : QT} {X : XT} {g : G2} {f : Nat → Nat} {n u : Nat} {s : TxS} (hu : is_town u) (hC : RCl g f n u s) (hO : okLs f n s) (hq : LQ Q f n u g (lnK f n s)) : M E md_X7_readKey (d + 7) [.ref 1] g Q X := by
  refine M.of _ rfl rfl (Nat.le_of_ble_eq_true rfl) ?_
  unfold lnK at hq
  simp only at hq
  have h1 := hC.2.2.1.1
  have h8 := hO.2.1
  have h6 := hO.2.2.1
  have h24 := hO.2.2.2.1
  have hn6 := hC.1.2.1
  have hk := hO.1.vd.1
  refine b_aload_n dX7_readKey_0 rfl rfl ?_
  refine b_getZ lf_X7_32 rfl dX7_readKey_1 ?_
  refine b_topE (hC.2.2.1.2.2.2.1) ?_
  refine b_if_eq (tgt := 13) dX7_readKey_4 (by decide) (fun h4 => ?_) (fun h4 => ?_)
  · have e4 := b2i_0 h4
    rw [if_neg (by rw [e4]; exact Bool.false_ne_true)] at hq
    refine b_aload_n dX7_readKey_13 rfl rfl ?_
    refine b_iconst (v := 1) dX7_readKey_14 (by decide +kernel) ?_
    refine b_putZ (Or.inr rfl) lf_X7_32 lp_7_4 rfl dX7_readKey_15 ?_
    refine b_aload_n dX7_readKey_18 rfl rfl ?_
    refine b_getR (b := 3) lf_X7_21 rfl rfl dX7_readKey_19 ?_
    refine b_callV (As := []) (st := []) dX7_readKey_22 lk_X7_94 lm_X9_next lv_X9_next rfl (by decide) rfl rfl rfl (Nat.le_of_ble_eq_true rfl) (Nat.le_refl _) (by decide) ?_
    have C0 : RCl (up2 g 1 4 1) f n u (s.t, s.np, s.nf, s.no, true, s.dt, s.ds, s.c, s.H) := RCl.fl hu hC (by decide) true s.dt s.ds (up2_s _ _ _ _) (by rw [up2_k _ _ _ _ (by decide)]; exact hC.2.2.1.2.2.2.2.1) (by rw [up2_k _ _ _ _ (by decide)]; exact hC.2.2.1.2.2.2.2.2)
    have L0 : FLn u g (up2 g 1 4 1) := FLn.up1 (by decide)
    refine c_X9_next C0.1 C0.2.1.1 hO.1.ok.1 (fun h1 F1 T1 => ?_)
    have i1 := hO.1.nx
    generalize nxt f n s.t.af = t1 at T1 hq i1
    have C1 := RCl.tk hu C0 F1 T1
    have L1 : FLn u g h1 := L0.tr (FLn.tk F1)
    obtain ⟨k1, v1, d1⟩ := i1.vd
    refine b_aload_n dX7_readKey_25 rfl rfl ?_
    refine b_iconst (v := 0) dX7_readKey_26 (by decide +kernel) ?_
    refine b_bipush (v := 11) dX7_readKey_27 (by decide +kernel) ?_
    refine b_callV (As := [_, _]) (st := []) dX7_readKey_29 lk_X7_106 lm_X7_isNumber lv_X7_isNumber rfl (by decide) rfl rfl rfl (Nat.le_of_ble_eq_true rfl) (Nat.le_refl _) (by decide) ?_
    refine c_X7_isNumber (t := t1) (lo := 0) (hi := 11) C1.2.1 k1 (by omega) v1 (by decide) (by decide) (fun y1 => ?_) (fun z1 x1 y1 => ?_)
    · rw [if_neg (Decidable.not_not.mpr y1)] at hq
      obtain ⟨q1, -, m1, w1⟩ := nuC_0 y1
      refine b_if_ne (tgt := 37) dX7_readKey_32 (by decide) (fun h32 => ?_) (fun h32 => ?_)
      · refine b_aload_n dX7_readKey_37 rfl rfl ?_
        refine b_getD lf_X7_12 rfl C1.2.2.1.1 (town_31 hu) dX7_readKey_38 ?_
        refine b_aload_n dX7_readKey_41 rfl rfl ?_
        refine b_getR (b := 3) lf_X7_21 rfl rfl dX7_readKey_42 ?_
        refine b_getI lf_X7_100 rfl dX7_readKey_45 ?_
        refine b_topE (y := nI t1.v) ((C1.2.1.2.2.2 q1).1) ?_
        refine b_putI lf_X7_117 lp_10_6 (town_c hu) dX7_readKey_48 ?_
        refine b_aload_n dX7_readKey_51 rfl rfl ?_
        refine b_getR (b := 3) lf_X7_21 rfl rfl dX7_readKey_52 ?_
        refine b_callV (As := []) (st := []) dX7_readKey_55 lk_X7_94 lm_X9_next lv_X9_next rfl (by decide) rfl rfl rfl (Nat.le_of_ble_eq_true rfl) (Nat.le_refl _) (by decide) ?_
        have C4 := C1.key (v := t1.v) hu
        refine c_X9_next C4.1 C4.2.1.1 i1.ok.1 (fun h5 F5 T5 => ?_)
        refine b_iconst (v := 1) dX7_readKey_58 (by decide +kernel) ?_
        refine b_zret (Or.inr rfl) rfl (by decide) dX7_readKey_59 ?_
        exact hq.1 _ rfl ((L1.tr (FLn.upu hu (Nat.le_refl _) (by omega))).tr (FLn.tk F5)) (RCl.tk hu C4 F5 T5)
      · exact absurd h32 (by decide)
    · rw [y1, if_pos x1] at hq
      refine b_if_ne (tgt := 37) dX7_readKey_32 (by decide) (fun h32 => ?_) (fun h32 => ?_)
      · exact absurd rfl h32
      · refine b_iconst (v := 0) dX7_readKey_35 (by decide +kernel) ?_
        refine b_zret (Or.inl rfl) rfl (by decide) dX7_readKey_36 ?_
        exact hq.2 _ x1 (L1.tr FLn.ref) (FLt.ref hu C1.2.2.2.1.1 h8)
  · have e4 := b2i_1 h4
    rw [if_pos e4] at hq
    refine b_aload_n dX7_readKey_7 rfl rfl ?_
    refine b_iconst (v := 5) dX7_readKey_8 (by decide +kernel) ?_
    refine b_callV (As := [_]) (st := []) dX7_readKey_9 lk_X7_91 lm_X7_refuse lv_X7_refuse rfl (by decide) rfl rfl rfl (Nat.le_of_ble_eq_true rfl) (Nat.le_refl _) (by decide) ?_
    refine c_X7_refuse (k := 5) hC.2.1.2.2.1 ?_
    refine b_zret (Or.inl rfl) rfl (by decide) dX7_readKey_12 ?_
    exact hq.2 _ (Nat.succ_ne_zero _) FLn.ref (FLt.ref hu hC.2.2.2.1.1 h8)
theorem c_X7_isToldPerson {E : En} {d : Nat} {Q : QT} {X : XT} {g : G2} {f : Nat → Nat} {n u : Nat} {s : TxS} (hu : is_town u) (hC : RCl g f n u s) (hO : isTk f n s.t) (h8 : s.np ≤ 8) (hy : pnC s.np s.t = 0 → Q (some (.int 1)) g) (hn : ∀ k, k ≠ 0 → pnC s.np s.t = k → Q (some (.int 0)) (up2 (up2 g 1 2 (nI k)) 1 3 (nI s.t.pl))) : M E md_X7_isToldPerson (d + 2) [.ref 1] g Q X := by
  refine M.of _ rfl rfl (Nat.le_of_ble_eq_true rfl) ?_
  have h1 := hC.2.2.1.1
  have hn6 := hC.1.2.1
  obtain ⟨hk, hv, hd⟩ := hO.vd
  refine b_aload_n dX7_isToldPerson_0 rfl rfl ?_
  refine b_iconst (v := 0) dX7_isToldPerson_1 (by decide +kernel) ?_
  refine b_sipush (v := 9999) dX7_isToldPerson_2 (by decide +kernel) ?_
  refine b_callV (As := [_, _]) (st := []) dX7_isToldPerson_5 lk_X7_106 lm_X7_isNumber lv_X7_isNumber rfl (by decide) rfl rfl rfl (Nat.le_of_ble_eq_true rfl) (Nat.le_refl _) (by decide) ?_
  refine c_X7_isNumber (lo := 0) (hi := 9999) hC.2.1 hk (by omega) hv (by decide) (by decide) (fun y1 => ?_) (fun z1 x1 y1 => ?_)
  · obtain ⟨q1, -, -, -⟩ := nuC_0 y1
    refine b_if_ne (tgt := 13) dX7_isToldPerson_8 (by decide) (fun h8 => ?_) (fun h8 => ?_)
    · refine b_aload_n dX7_isToldPerson_13 rfl rfl ?_
      refine b_getR (b := 3) lf_X7_21 rfl rfl dX7_isToldPerson_14 ?_
      refine b_getI lf_X7_100 rfl dX7_isToldPerson_17 ?_
      refine b_topE (y := nI s.t.v) ((hC.2.1.2.2.2 q1).1) ?_
      refine b_aload_n dX7_isToldPerson_20 rfl rfl ?_
      refine b_getD lf_X7_12 rfl h1 (town_31 hu) dX7_isToldPerson_21 ?_
      refine b_getI lf_X7_103 (town_c hu) dX7_isToldPerson_24 ?_
      refine b_topE (hC.2.2.2.1.1) ?_
      refine b_icmp_lt (tgt := 38) dX7_isToldPerson_27 (by decide) (fun h27 => ?_) (fun h27 => ?_)
      · have e27 : s.t.v < s.np := nn_lt (a := s.t.v) (b := s.np) (by omega) (by omega) h27
        refine b_iconst (v := 1) dX7_isToldPerson_38 (by decide +kernel) ?_
        refine b_goto (tgt := 43) dX7_isToldPerson_39 (by decide) ?_
        refine b_zret (Or.inr rfl) rfl (by decide) dX7_isToldPerson_43 ?_
        exact hy (by unfold pnC; rw [if_pos y1, if_pos e27])
      · have e27 : s.np ≤ s.t.v := nn_nlt (a := s.t.v) (b := s.np) (by omega) (by omega) h27
        refine b_aload_n dX7_isToldPerson_30 rfl rfl ?_
        refine b_iconst (v := 3) dX7_isToldPerson_31 (by decide +kernel) ?_
        refine b_callV (As := [_]) (st := []) dX7_isToldPerson_32 lk_X7_91 lm_X7_refuse lv_X7_refuse rfl (by decide) rfl rfl rfl (Nat.le_of_ble_eq_true rfl) (Nat.le_refl _) (by decide) ?_
        refine c_X7_refuse (k := 3) hC.2.1.2.2.1 ?_
        refine b_if_eq (tgt := 42) dX7_isToldPerson_35 (by decide) (fun h35 => ?_) (fun h35 => ?_)
        · refine b_iconst (v := 0) dX7_isToldPerson_42 (by decide +kernel) ?_
          refine b_zret (Or.inl rfl) rfl (by decide) dX7_isToldPerson_43 ?_
          exact hn 3 (by decide) (by unfold pnC; rw [if_pos y1, if_neg (by omega)])
        · exact absurd rfl h35
    · exact absurd h8 (by decide)
  · refine b_if_ne (tgt := 13) dX7_isToldPerson_8 (by decide) (fun h8 => ?_) (fun h8 => ?_)
    · exact absurd rfl h8
    · refine b_iconst (v := 0) dX7_isToldPerson_11 (by decide +kernel) ?_
      refine b_zret (Or.inl rfl) rfl (by decide) dX7_isToldPerson_12 ?_
      exact hn _ x1 (by unfold pnC; rw [if_neg (by rw [y1]; exact x1)]; exact y1)
theorem c_X7_readFeud {E : En} {d : Nat} {Q : QT} {X : XT} {g : G2} {f : Nat → Nat} {n u : Nat} {s : TxS} (hu : is_town u) (hC : RCl g f n u s) (hO : okLs f n s) (hq : LQ Q f n u g (lnF f n s)) : M E md_X7_readFeud (d + 7) [.ref 1] g Q X := by
  refine M.of _ rfl rfl (Nat.le_of_ble_eq_true rfl) ?_
  unfold lnF at hq
  simp only at hq
  have h1 := hC.2.2.1.1
  have h8 := hO.2.1
  have h6 := hO.2.2.1
  have h24 := hO.2.2.2.1
  have hn6 := hC.1.2.1
  have hk := hO.1.vd.1
  refine b_aload_n dX7_readFeud_0 rfl rfl ?_
  refine b_getD lf_X7_12 rfl h1 (town_31 hu) dX7_readFeud_1 ?_
  refine b_getR (b := (u + 6)) lf_X7_120 (town_c hu) (town_r7 hu) dX7_readFeud_4 ?_
  refine b_getI lf_X7_124 (feuds_c (town_feuds hu)) dX7_readFeud_7 ?_
  refine b_topE (hC.2.2.2.2.2.1.1) ?_
  refine b_bipush (v := 6) dX7_readFeud_10 (by decide +kernel) ?_
  refine b_icmp_lt (tgt := 21) dX7_readFeud_12 (by decide) (fun h12 => ?_) (fun h12 => ?_)
  · have e12 : s.nf < 6 := nn_lt (a := s.nf) (b := 6) (by omega) (by omega) h12
    rw [if_neg (by omega)] at hq
    refine b_aload_n dX7_readFeud_21 rfl rfl ?_
    refine b_getR (b := 3) lf_X7_21 rfl rfl dX7_readFeud_22 ?_
    refine b_callV (As := []) (st := []) dX7_readFeud_25 lk_X7_94 lm_X9_next lv_X9_next rfl (by decide) rfl rfl rfl (Nat.le_of_ble_eq_true rfl) (Nat.le_refl _) (by decide) ?_
    refine c_X9_next hC.1 hC.2.1.1 hO.1.ok.1 (fun h1 F1 T1 => ?_)
    have i1 := hO.1.nx
    generalize nxt f n s.t.af = t1 at T1 hq i1
    have C1 := RCl.tk hu hC F1 T1
    have L1 : FLn u g h1 := FLn.tk F1
    obtain ⟨k1, v1, d1⟩ := i1.vd
    refine b_aload_n dX7_readFeud_28 rfl rfl ?_
    refine b_callV (As := []) (st := []) dX7_readFeud_29 lk_X7_129 lm_X7_isToldPerson lv_X7_isToldPerson rfl (by decide) rfl rfl rfl (Nat.le_of_ble_eq_true rfl) (Nat.le_refl _) (by decide) ?_
    refine c_X7_isToldPerson hu C1 i1 h8 (fun y1 => ?_) (fun z1 x1 y1 => ?_)
    all_goals have y1 : pnC s.np t1 = _ := y1
    · rw [if_neg (Decidable.not_not.mpr y1)] at hq
      obtain ⟨⟨q1, -, m1, w1⟩, b1⟩ := And.imp_left nuC_0 (pnC_0 y1)
      refine b_if_ne (tgt := 37) dX7_readFeud_32 (by decide) (fun h32 => ?_) (fun h32 => ?_)
      · refine b_aload_n dX7_readFeud_37 rfl rfl ?_
        refine b_getR (b := 3) lf_X7_21 rfl rfl dX7_readFeud_38 ?_
        refine b_getI lf_X7_100 rfl dX7_readFeud_41 ?_
        refine b_topE (y := nI t1.v) ((C1.2.1.2.2.2 q1).1) ?_
        refine b_istore_n (lv' := [(0, _), (1, _)]) dX7_readFeud_44 rfl (by decide) rfl rfl ?_
        refine b_aload_n dX7_readFeud_45 rfl rfl ?_
        refine b_getR (b := 3) lf_X7_21 rfl rfl dX7_readFeud_46 ?_
        refine b_callV (As := []) (st := []) dX7_readFeud_49 lk_X7_94 lm_X9_next lv_X9_next rfl (by decide) rfl rfl rfl (Nat.le_of_ble_eq_true rfl) (Nat.le_refl _) (by decide) ?_
        refine c_X9_next C1.1 C1.2.1.1 i1.ok.1 (fun h2 F2 T2 => ?_)
        have i2 := i1.nx
        generalize nxt f n t1.af = t2 at T2 hq i2
        have C2 := RCl.tk hu C1 F2 T2
        have L2 : FLn u g h2 := L1.tr (FLn.tk F2)
        obtain ⟨k2, v2, d2⟩ := i2.vd
        refine b_aload_n dX7_readFeud_52 rfl rfl ?_
        refine b_callV (As := []) (st := []) dX7_readFeud_53 lk_X7_129 lm_X7_isToldPerson lv_X7_isToldPerson rfl (by decide) rfl rfl rfl (Nat.le_of_ble_eq_true rfl) (Nat.le_refl _) (by decide) ?_
        refine c_X7_isToldPerson hu C2 i2 h8 (fun y2 => ?_) (fun z2 x2 y2 => ?_)
        all_goals have y2 : pnC s.np t2 = _ := y2
        · rw [if_neg (Decidable.not_not.mpr y2)] at hq
          obtain ⟨⟨q2, -, m2, w2⟩, b2⟩ := And.imp_left nuC_0 (pnC_0 y2)
          refine b_if_ne (tgt := 61) dX7_readFeud_56 (by decide) (fun h56 => ?_) (fun h56 => ?_)
          · refine b_aload_n dX7_readFeud_61 rfl rfl ?_
            refine b_getR (b := 3) lf_X7_21 rfl rfl dX7_readFeud_62 ?_
            refine b_getI lf_X7_100 rfl dX7_readFeud_65 ?_
            refine b_topE (y := nI t2.v) ((C2.2.1.2.2.2 q2).1) ?_
            refine b_istore_n (lv' := [(0, _), (1, _), (2, _)]) dX7_readFeud_68 rfl (by decide) rfl rfl ?_
            refine b_iload_n dX7_readFeud_69 rfl rfl ?_
            refine b_iload_n dX7_readFeud_70 rfl rfl ?_
            refine b_icmp_eq (tgt := 89) dX7_readFeud_71 (by decide) (fun h71 => ?_) (fun h71 => ?_)
            · have e71 : t1.v = t2.v := nI_inj (a := t1.v) (b := t2.v) (by omega) (by omega) h71
              rw [if_pos (Or.inl e71)] at hq
              refine b_aload_n dX7_readFeud_89 rfl rfl ?_
              refine b_iconst (v := 4) dX7_readFeud_90 (by decide +kernel) ?_
              refine b_callV (As := [_]) (st := []) dX7_readFeud_91 lk_X7_91 lm_X7_refuse lv_X7_refuse rfl (by decide) rfl rfl rfl (Nat.le_of_ble_eq_true rfl) (Nat.le_refl _) (by decide) ?_
              refine c_X7_refuse (k := 4) C2.2.1.2.2.1 ?_
              refine b_zret (Or.inl rfl) rfl (by decide) dX7_readFeud_94 ?_
              exact hq.2 _ (Nat.succ_ne_zero _) (L2.tr FLn.ref) (FLt.ref hu C2.2.2.2.1.1 h8)
            · have e71 : t1.v ≠ t2.v := fun q => h71 (congrArg nI q)
              refine b_aload_n dX7_readFeud_74 rfl rfl ?_
              refine b_getD lf_X7_12 rfl C2.2.2.1.1 (town_31 hu) dX7_readFeud_75 ?_
              refine b_getR (b := (u + 6)) lf_X7_120 (town_c hu) (town_r7 hu) dX7_readFeud_78 ?_
              refine b_iload_n dX7_readFeud_81 rfl rfl ?_
              refine b_iload_n dX7_readFeud_82 rfl rfl ?_
              refine b_callV (As := [_, _]) (st := []) dX7_readFeud_83 lk_X7_132 lm_X1_between lv_X1_between (feuds_c (town_feuds hu)) (by decide) rfl rfl rfl (Nat.le_of_ble_eq_true rfl) (Nat.le_refl _) (by decide) ?_
              refine c_X1_between (town_feuds hu) C2.2.2.2.2.2.1.1 h6 ?_
              have eB : anyN (fdP (h2 (u + 6 + 1)) (h2 (u + 6 + 2)) (nI t1.v) (nI t2.v)) s.nf = anyN (fdN s.H t1.v t2.v) s.nf := anyN_cg (fun i hi => by
                have hb := hO.2.2.2.2.2.2.1 i hi
                have e7 : h2 (u + 6 + 1) i = nI (s.H 7 i) := (C2.2.2.2.2.2.1.2 i hi).1
                have e8 : h2 (u + 6 + 2) i = nI (s.H 8 i) := (C2.2.2.2.2.2.1.2 i hi).2
                unfold fdP fdN
                rw [e7, e8, nI_beq (by omega) (by omega), nI_beq (by omega) (by omega), nI_beq (by omega) (by omega), nI_beq (by omega) (by omega)])
              rw [eB]
              refine b_if_eq (tgt := 95) dX7_readFeud_86 (by decide) (fun h86 => ?_) (fun h86 => ?_)
              · have e86 := b2i_0 h86
                rw [if_neg (fun q => q.elim e71 (fun q => by rw [e86] at q; cases q))] at hq
                refine b_aload_n dX7_readFeud_95 rfl rfl ?_
                refine b_getD lf_X7_12 rfl C2.2.2.1.1 (town_31 hu) dX7_readFeud_96 ?_
                refine b_getR (b := (u + 6)) lf_X7_120 (town_c hu) (town_r7 hu) dX7_readFeud_99 ?_
                refine b_aload_n dX7_readFeud_102 rfl rfl ?_
                refine b_getD lf_X7_12 rfl C2.2.2.1.1 (town_31 hu) dX7_readFeud_103 ?_
                refine b_getR (b := (u + 6)) lf_X7_120 (town_c hu) (town_r7 hu) dX7_readFeud_106 ?_
                refine b_getI lf_X7_124 (feuds_c (town_feuds hu)) dX7_readFeud_109 ?_
                refine b_topE (C2.2.2.2.2.2.1.1) ?_
                refine b_iload_n dX7_readFeud_112 rfl rfl ?_
                refine b_iload_n dX7_readFeud_113 rfl rfl ?_
                refine b_callV (As := [_, _, _]) (st := []) dX7_readFeud_114 lk_X7_135 lm_X1_insert lv_X1_insert (feuds_c (town_feuds hu)) (by decide) rfl rfl rfl (Nat.le_of_ble_eq_true rfl) (Nat.le_refl _) (by decide) ?_
                refine c_X1_insert (town_feuds hu) C2.2.2.2.2.2.1.1 (by omega) (Nat.le_refl _) (fun h4 G4 a0 a1 b0 b1 => ?_)
                obtain ⟨L4, C4⟩ := C2.ins hu G4 a1 b0 b1
                refine b_aload_n dX7_readFeud_117 rfl rfl ?_
                refine b_getR (b := 3) lf_X7_21 rfl rfl dX7_readFeud_118 ?_
                refine b_callV (As := []) (st := []) dX7_readFeud_121 lk_X7_94 lm_X9_next lv_X9_next rfl (by decide) rfl rfl rfl (Nat.le_of_ble_eq_true rfl) (Nat.le_refl _) (by decide) ?_
                refine c_X9_next C4.1 C4.2.1.1 i2.ok.1 (fun h5 F5 T5 => ?_)
                refine b_iconst (v := 1) dX7_readFeud_124 (by decide +kernel) ?_
                refine b_zret (Or.inr rfl) rfl (by decide) dX7_readFeud_125 ?_
                exact hq.1 _ rfl ((L2.tr L4).tr (FLn.tk F5)) (RCl.tk hu C4 F5 T5)
              · have e86 := b2i_1 h86
                rw [if_pos (Or.inr e86)] at hq
                refine b_aload_n dX7_readFeud_89 rfl rfl ?_
                refine b_iconst (v := 4) dX7_readFeud_90 (by decide +kernel) ?_
                refine b_callV (As := [_]) (st := []) dX7_readFeud_91 lk_X7_91 lm_X7_refuse lv_X7_refuse rfl (by decide) rfl rfl rfl (Nat.le_of_ble_eq_true rfl) (Nat.le_refl _) (by decide) ?_
                refine c_X7_refuse (k := 4) C2.2.1.2.2.1 ?_
                refine b_zret (Or.inl rfl) rfl (by decide) dX7_readFeud_94 ?_
                exact hq.2 _ (Nat.succ_ne_zero _) (L2.tr FLn.ref) (FLt.ref hu C2.2.2.2.1.1 h8)
          · exact absurd h56 (by decide)
        · rw [y2, if_pos x2] at hq
          refine b_if_ne (tgt := 61) dX7_readFeud_56 (by decide) (fun h56 => ?_) (fun h56 => ?_)
          · exact absurd rfl h56
          · refine b_iconst (v := 0) dX7_readFeud_59 (by decide +kernel) ?_
            refine b_zret (Or.inl rfl) rfl (by decide) dX7_readFeud_60 ?_
            exact hq.2 _ x2 (L2.tr FLn.ref) (FLt.ref hu C2.2.2.2.1.1 h8)
      · exact absurd h32 (by decide)
    · rw [y1, if_pos x1] at hq
      refine b_if_ne (tgt := 37) dX7_readFeud_32 (by decide) (fun h32 => ?_) (fun h32 => ?_)
      · exact absurd rfl h32
      · refine b_iconst (v := 0) dX7_readFeud_35 (by decide +kernel) ?_
        refine b_zret (Or.inl rfl) rfl (by decide) dX7_readFeud_36 ?_
        exact hq.2 _ x1 (L1.tr FLn.ref) (FLt.ref hu C1.2.2.2.1.1 h8)
  · have e12 : 6 ≤ s.nf := nn_nlt (a := s.nf) (b := 6) (by omega) (by omega) h12
    rw [if_pos e12] at hq
    refine b_aload_n dX7_readFeud_15 rfl rfl ?_
    refine b_iconst (v := 2) dX7_readFeud_16 (by decide +kernel) ?_
    refine b_callV (As := [_]) (st := []) dX7_readFeud_17 lk_X7_91 lm_X7_refuse lv_X7_refuse rfl (by decide) rfl rfl rfl (Nat.le_of_ble_eq_true rfl) (Nat.le_refl _) (by decide) ?_
    refine c_X7_refuse (k := 2) hC.2.1.2.2.1 ?_
    refine b_zret (Or.inl rfl) rfl (by decide) dX7_readFeud_20 ?_
    exact hq.2 _ (Nat.succ_ne_zero _) FLn.ref (FLt.ref hu hC.2.2.2.1.1 h8)
