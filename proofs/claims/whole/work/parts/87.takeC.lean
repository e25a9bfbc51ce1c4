/-! the codes put so far in the rule of the town u; what a sings line may change -/
def rpc (f : Nat → Int32) : List Int32 → Prop
  | [] => True
  | x :: r => f r.length = x ∧ rpc f r
theorem rpc_cg {f h : Nat → Int32} : ∀ {c : List Int32}, rpc f c → (∀ j, j < c.length → h j = f j) → rpc h c
  | [], _, _ => trivial
  | x :: r, a, b => ⟨by rw [b _ (by simp)]; exact a.1, rpc_cg a.2 (fun j hj => b j (by simp; omega))⟩
def RPc (g : G2) (u : Nat) (c : List Int32) : Prop := g (u + 10) 1 = nI c.length ∧ rpc (g (u + 11)) c
def FSg (u : Nat) (g h : G2) : Prop := (∀ y, y ≠ 1 → y ≠ 2 → y ≠ 3 → y ≠ u + 10 → y ≠ u + 11 → h y = g y) ∧ (∀ j, ¬ (j = 2 ∨ j = 3 ∨ j = 8 ∨ j = 9) → h 1 j = g 1 j) ∧ ∀ j, j < 3 → h 3 j = g 3 j
theorem FSg.rf (u : Nat) (g : G2) : FSg u g g := ⟨fun _ _ _ _ _ _ => rfl, fun _ _ => rfl, fun _ _ => rfl⟩
theorem FSg.tr {u : Nat} {g h k : G2} (h1 : FSg u g h) (h2 : FSg u h k) : FSg u g k := ⟨fun y a b c e f => (h2.1 y a b c e f).trans (h1.1 y a b c e f), fun j q => (h2.2.1 j q).trans (h1.2.1 j q), fun j q => (h2.2.2 j q).trans (h1.2.2 j q)⟩
theorem FSg.tk {u : Nat} {g h : G2} (F : FTk g h) : FSg u g h := ⟨fun y _ _ e _ _ => F.1 y e, fun j _ => by rw [F.1 1 (by decide)], F.2⟩
theorem FSg.up1 {u : Nat} {g : G2} {j : Nat} {x : Int32} (hj : j = 2 ∨ j = 3 ∨ j = 8 ∨ j = 9) : FSg u g (up2 g 1 j x) := ⟨fun y a _ _ _ _ => up2_f _ _ _ _ a, fun i q => up2_k _ _ _ _ (fun e => q (e ▸ hj)), fun i _ => up2_a _ _ _ _ (by decide) _⟩
theorem FSg.uo {u : Nat} {g : G2} {j : Nat} {x : Int32} : FSg u g (up2 g 2 j x) := ⟨fun y _ b _ _ _ => up2_f _ _ _ _ b, fun i _ => up2_a _ _ _ _ (by decide) _, fun i _ => up2_a _ _ _ _ (by decide) _⟩
theorem is_town.ne {u : Nat} (hu : is_town u) : u + 10 ≠ 1 ∧ u + 10 ≠ 2 ∧ u + 10 ≠ 3 ∧ u + 11 ≠ 1 ∧ u + 11 ≠ 2 ∧ u + 11 ≠ 3 := by unfold is_town at hu; omega
theorem FSg.put {u : Nat} {g h : G2} (hu : is_town u) (F : FR [u + 10, u + 10 + 1] g h) : FSg u g h ∧ h 1 = g 1 ∧ h 2 = g 2 ∧ h 3 = g 3 ∧ h 4 = g 4 := by
  have e : ∀ y, y ≠ u + 10 → y ≠ u + 11 → h y = g y := fun y a b => F y (by simp; omega)
  unfold is_town at hu
  have e1 := e 1 (by omega) (by omega)
  have e3 := e 3 (by omega) (by omega)
  exact ⟨⟨fun y _ _ _ a b => e y a b, fun j _ => by rw [e1], fun j _ => by rw [e3]⟩, e1, e 2 (by omega) (by omega), e3, e 4 (by omega) (by omega)⟩
theorem RPc.put {u : Nat} {g h : G2} {c : List Int32} {x : Int32} (hP : RPc g u c) (a1 : h (u + 10) 1 = nI (c.length + 1)) (a2 : ∀ j, j ≠ c.length → h (u + 10 + 1) j = g (u + 10 + 1) j) (a3 : h (u + 10 + 1) c.length = x) : RPc h u (x :: c) := ⟨a1, a3, rpc_cg hP.2 (fun j hj => a2 j (by omega))⟩
theorem RPc.cg {u : Nat} {g h : G2} {c : List Int32} (hP : RPc g u c) (h1 : h (u + 10) = g (u + 10)) (h2 : h (u + 11) = g (u + 11)) : RPc h u c := ⟨by rw [h1]; exact hP.1, by rw [h2]; exact hP.2⟩
theorem RPc.up {u : Nat} {g : G2} {c : List Int32} {a k : Nat} {x : Int32} (hP : RPc g u c) (hu : is_town u) (h : a = 1 ∨ a = 2 ∨ a = 3) : RPc (up2 g a k x) u c := by
  unfold is_town at hu
  exact hP.cg (up2_f _ _ _ _ (by omega)) (up2_f _ _ _ _ (by omega))
theorem RCo.cg {g h : G2} {o : List Nat} (hR : RCo g o) (h1 : h 1 8 = g 1 8) (h2 : h 2 = g 2) : RCo h o := ⟨by rw [h1]; exact hR.1, by rw [h2]; exact hR.2.1, hR.2.2⟩
theorem c_X7_closeDownTo {E : En} {d : Nat} {Q : QT} {X : XT} {u b : Nat} (hu : is_town u) (hb : b ≤ 7) {g : G2} {o : List Nat} {c : List Int32} (h1 : g 1 0 = nI u) (hR : RCo g o) (hP : RPc g u c) (hl : c.length + o.length ≤ 600) (hq : ∀ h, FSg u g h → (h 3 = g 3 ∧ ∀ j, j ≠ 8 → h 1 j = g 1 j) → RCo h (clsTo b o c).1 → RPc h u (clsTo b o c).2 → Q none h) : M E md_X7_closeDownTo (d + 1) [.ref 1, .int (nI b)] g Q X := by
  refine M.of _ rfl rfl (Nat.le_of_ble_eq_true rfl) ?_
  revert c g
  suffices H : ∀ (o : List Nat) (c : List Int32) (g : G2), g 1 0 = nI u → RCo g o → RPc g u c → c.length + o.length ≤ 600 → (∀ h, FSg u g h → (h 3 = g 3 ∧ ∀ j, j ≠ 8 → h 1 j = g 1 j) → RCo h (clsTo b o c).1 → RPc h u (clsTo b o c).2 → Q none h) → B E md_X7_closeDownTo (d + 1) Q X 0 [(0, .ref 1), (1, .int (nI b))] [] g 0 by
    intro g c h1 hR hP hl hq
    exact H o c g h1 hR hP hl hq
  clear o
  intro o
  induction o with
  | nil =>
    intro c g h1 hR hP hl hq
    refine b_aload_n dX7_closeDownTo_0 rfl rfl ?_
    refine b_getI lf_X7_46 rfl dX7_closeDownTo_1 ?_
    refine b_topE (hR.1) ?_
    refine b_if_le (tgt := 75) dX7_closeDownTo_4 (by decide) (fun h4 => ?_) (fun h4 => ?_)
    · have e4 : 0 = 0 := Nat.le_zero.mp (nn_le (b := 0) (by omega) (by decide) h4)
      refine b_vret rfl (by decide) dX7_closeDownTo_75 ?_
      exact hq _ (FSg.rf u g) ⟨rfl, fun _ _ => rfl⟩ hR hP
    · have e4 : 0 < 0 := nn_nle (b := 0) (by omega) (by decide) h4
      exact absurd e4 (by decide)
  | cons x r ih =>
    intro c g h1 hR hP hl hq
    have hl9 : (x :: r).length = r.length + 1 := rfl
    have hx := hR.2.2.2 x List.mem_cons_self
    have h84 := hR.2.2.1
    have hb6 := bnd_le x
    rw [hl9] at hl h84
    refine b_aload_n dX7_closeDownTo_0 rfl rfl ?_
    refine b_getI lf_X7_46 rfl dX7_closeDownTo_1 ?_
    refine b_topE (hR.1) ?_
    refine b_if_le (tgt := 75) dX7_closeDownTo_4 (by decide) (fun h4 => ?_) (fun h4 => ?_)
    · have e4 : ((r.length + 1)) = 0 := Nat.le_zero.mp (nn_le (b := 0) (by omega) (by decide) h4)
      exact absurd e4 (by omega)
    · have e4 : 0 < ((r.length + 1)) := nn_nle (b := 0) (by omega) (by decide) h4
      refine b_aload_n dX7_closeDownTo_7 rfl rfl ?_
      refine b_getR (b := 2) lf_X7_42 rfl rfl dX7_closeDownTo_8 ?_
      refine b_aload_n dX7_closeDownTo_11 rfl rfl ?_
      refine b_getI lf_X7_46 rfl dX7_closeDownTo_12 ?_
      refine b_topE (hR.1) ?_
      refine b_iconst (v := 1) dX7_closeDownTo_15 (by decide +kernel) ?_
      refine b_isub dX7_closeDownTo_16 ?_
      refine b_topE (nI_sub ((r.length + 1)) 1 (by omega)) ?_
      refine b_ildN (j := r.length) dX7_closeDownTo_17 (congrArg nI (by omega)) (by show _ < 84; omega) ?_
      refine b_topE (y := nI x) (hR.2.1.1) ?_
      refine b_bipush (v := 40) dX7_closeDownTo_18 (by decide +kernel) ?_
      refine b_icmp_eq (tgt := 75) dX7_closeDownTo_20 (by decide) (fun h20 => ?_) (fun h20 => ?_)
      · have e20 : x = 40 := nI_inj (a := x) (b := 40) (by omega) (by omega) h20
        refine b_vret rfl (by decide) dX7_closeDownTo_75 ?_
        exact hq _ (FSg.rf u g) ⟨rfl, fun _ _ => rfl⟩ (by rw [show clsTo b (x :: r) c = (x :: r, c) from if_neg (by omega)]; exact hR) (by rw [show clsTo b (x :: r) c = (x :: r, c) from if_neg (by omega)]; exact hP)
      · have e20 : x ≠ 40 := fun q => h20 (congrArg nI q)
        refine b_aload_n dX7_closeDownTo_23 rfl rfl ?_
        refine b_getR (b := 2) lf_X7_42 rfl rfl dX7_closeDownTo_24 ?_
        refine b_aload_n dX7_closeDownTo_27 rfl rfl ?_
        refine b_getI lf_X7_46 rfl dX7_closeDownTo_28 ?_
        refine b_topE (hR.1) ?_
        refine b_iconst (v := 1) dX7_closeDownTo_31 (by decide +kernel) ?_
        refine b_isub dX7_closeDownTo_32 ?_
        refine b_topE (nI_sub ((r.length + 1)) 1 (by omega)) ?_
        refine b_ildN (j := r.length) dX7_closeDownTo_33 (congrArg nI (by omega)) (by show _ < 84; omega) ?_
        refine b_topE (y := nI x) (hR.2.1.1) ?_
        refine b_callS (As := [_]) (st := []) dX7_closeDownTo_34 lk_X7_188 lm_X7_binding ls_X7_binding rfl rfl (Nat.le_of_ble_eq_true rfl) (Nat.le_refl _) (by decide) ?_
        refine c_X7_binding0 rfl hx ?_
        refine b_iload_n dX7_closeDownTo_37 rfl rfl ?_
        refine b_icmp_lt (tgt := 75) dX7_closeDownTo_38 (by decide) (fun h38 => ?_) (fun h38 => ?_)
        · have e38 : (bnd x) < b := nn_lt (a := (bnd x)) (b := b) (by omega) (by omega) h38
          refine b_vret rfl (by decide) dX7_closeDownTo_75 ?_
          exact hq _ (FSg.rf u g) ⟨rfl, fun _ _ => rfl⟩ (by rw [show clsTo b (x :: r) c = (x :: r, c) from if_neg (by omega)]; exact hR) (by rw [show clsTo b (x :: r) c = (x :: r, c) from if_neg (by omega)]; exact hP)
        · have e38 : b ≤ (bnd x) := nn_nlt (a := (bnd x)) (b := b) (by omega) (by omega) h38
          refine b_aload_n dX7_closeDownTo_41 rfl rfl ?_
          refine b_dup dX7_closeDownTo_42 rfl ?_
          refine b_getI lf_X7_46 rfl dX7_closeDownTo_43 ?_
          refine b_topE (hR.1) ?_
          refine b_iconst (v := 1) dX7_closeDownTo_46 (by decide +kernel) ?_
          refine b_isub dX7_closeDownTo_47 ?_
          refine b_topE (nI_sub ((r.length + 1)) 1 (by omega)) ?_
          refine b_putI lf_X7_46 lp_7_8 rfl dX7_closeDownTo_48 ?_
          refine b_aload_n dX7_closeDownTo_51 rfl rfl ?_
          refine b_getD lf_X7_12 rfl (by rw [up2_k _ _ _ _ (by decide)]; exact h1) (town_31 hu) dX7_closeDownTo_52 ?_
          refine b_getR (b := (u + 10)) lf_X7_164 (town_c hu) (town_r10 hu) dX7_closeDownTo_55 ?_
          refine b_aload_n dX7_closeDownTo_58 rfl rfl ?_
          refine b_getR (b := 2) lf_X7_42 rfl rfl dX7_closeDownTo_59 ?_
          refine b_aload_n dX7_closeDownTo_62 rfl rfl ?_
          refine b_getI lf_X7_46 rfl dX7_closeDownTo_63 ?_
          refine b_topE (by rw [up2_s]) ?_
          refine b_ildN (j := r.length) dX7_closeDownTo_66 (congrArg nI (by omega)) (by show _ < 84; omega) ?_
          refine b_topE (y := nI x) ((congrFun (up2_f _ _ _ _ (by decide)) _).trans hR.2.1.1) ?_
          refine b_ineg dX7_closeDownTo_67 ?_
          refine b_callV (As := [_]) (st := []) dX7_closeDownTo_68 lk_X7_168 lm_X8_put lv_X8_put (rule_c (town_rule hu)) (by decide) rfl rfl rfl (Nat.le_of_ble_eq_true rfl) (Nat.le_refl _) (by decide) ?_
          refine c_X8_put (n := c.length) (town_rule hu) ?_ (by omega) (fun g2 F2 a0 a1 a2 a3 => ?_)
          · exact (up2_a _ _ _ _ (is_town.ne hu).1 _).trans hP.1
          refine b_pop dX7_closeDownTo_71 rfl ?_
          refine b_goto (tgt := 0) dX7_closeDownTo_72 (by decide) ?_
          obtain ⟨F3, p1, p2, p3, p4⟩ := FSg.put hu F2
          have F4 : FSg u g g2 := (FSg.up1 (by decide)).tr F3
          have z : clsTo b (x :: r) c = clsTo b r (-(nI x) :: c) := if_pos (by omega)
          refine ih (-(nI x) :: c) g2 (by rw [p1, up2_k _ _ _ _ (by decide)]; exact h1) ⟨by rw [p1, up2_s]; congr 1, by rw [p2, up2_f _ _ _ _ (by decide)]; exact hR.2.1.2, by have := hR.2.2.1; rw [hl9] at this; omega, fun y hy => hR.2.2.2 y (List.mem_cons_of_mem _ hy)⟩ ?_ (by simp only [List.length_cons]; omega) (fun h F5 f5 hR5 hP5 => hq h (F4.tr F5) ⟨f5.1.trans (p3.trans (up2_f _ _ _ _ (by decide))), fun j hj => (f5.2 j hj).trans (by rw [p1]; exact up2_k _ _ _ _ hj)⟩ (by rw [z]; exact hR5) (by rw [z]; exact hP5))
          refine RPc.put (g := up2 g 1 8 (nI (r.length + 1 - 1))) (hP.up hu (Or.inl rfl)) a1 a2 a3
theorem isTk.vd {f : Nat → Nat} {n : Nat} {t : Tk} (h : isTk f n t) : t.k < 128 ∧ t.v ≤ 9999 ∧ t.dg ≤ n := by
  have hc := h.cs
  refine ⟨by omega, ?_⟩
  obtain ⟨p, hp, rfl⟩ := h
  by_cases h2 : (nxt f n p).k = 2
  · have : (nxt f n p).v ≤ 9999 ∧ (nxt f n p).dg ≤ n := by omega
    exact this
  · revert h2
    unfold nxt
    generalize sk pB f n p = q
    unfold tkA
    (repeat' split) <;> intro h2 <;> first | exact ⟨Nat.zero_le _, Nat.zero_le _⟩ | exact absurd rfl h2
/-- the class's reader in a sings line, at s -/
def RCs (g : G2) (f : Nat → Nat) (n u : Nat) (s : PS) : Prop := RTc g f n ∧ Rtk g s.t ∧ RCo g s.op ∧ g 1 9 = nI s.ne ∧ RPc g u s.c ∧ g 1 0 = nI u ∧ g 1 2 = 0 ∧ g 1 3 = -1
theorem RTc.c3 {g h : G2} {f : Nat → Nat} {n : Nat} (hT : RTc g f n) (h3 : ∀ j, j < 3 → h 3 j = g 3 j) (h4 : h 4 = g 4) : RTc h f n := ⟨by rw [h3 2 (by decide)]; exact hT.1, hT.2.1, by rw [h4]; exact hT.2.2⟩
theorem Rtk.c3 {g h : G2} {t : Tk} (hT : Rtk g t) (h3 : h 3 = g 3) : Rtk h t := by unfold Rtk; rw [h3]; exact hT
theorem RCs.put {g h : G2} {f : Nat → Nat} {n u : Nat} {s : PS} {x : Int32} (hS : RCs g f n u s) (hu : is_town u) (F : FR [u + 10, u + 10 + 1] g h) (a1 : h (u + 10) 1 = nI (s.c.length + 1)) (a2 : ∀ j, j ≠ s.c.length → h (u + 10 + 1) j = g (u + 10 + 1) j) (a3 : h (u + 10 + 1) s.c.length = x) : FSg u g h ∧ RCs h f n u ⟨s.w, s.t, s.ne, s.op, x :: s.c⟩ := by
  obtain ⟨F3, p1, p2, p3, p4⟩ := FSg.put hu F
  exact ⟨F3, hS.1.c3 F3.2.2 p4, hS.2.1.c3 p3, hS.2.2.1.cg (by rw [p1]) p2, by rw [p1]; exact hS.2.2.2.1, hS.2.2.2.2.1.put a1 a2 a3, by rw [p1]; exact hS.2.2.2.2.2⟩
theorem FSg.ref {u : Nat} {g : G2} {x y : Int32} : FSg u g (up2 (up2 g 1 2 x) 1 3 y) := (FSg.up1 (by decide)).tr (FSg.up1 (by decide))
theorem c_X7_takePart {E : En} {d : Nat} {Q : QT} {X : XT} {g : G2} {f : Nat → Nat} {n u : Nat} {s : PS} (hu : is_town u) (hS : RCs g f n u s) (hI : InvP f n s) (hy : ∀ h, FSg u g h → (tkP s).1 = 0 → RCs h f n u (tkP s).2 → Q (some (.int 1)) h) (hn : ∀ h, FSg u g h → (tkP s).1 ≠ 0 → h 1 2 = nI (tkP s).1 → h 1 3 = nI s.t.pl → Q (some (.int 0)) h) : M E md_X7_takePart (d + 2) [.ref 1] g Q X := by
  refine M.of _ rfl rfl (Nat.le_of_ble_eq_true rfl) ?_
  have hln := hI.len
  have hpl := hI.2.2.2.2.1
  have htk := hI.2.2.2.2.2.1
  have hcs := htk.cs
  obtain ⟨hk, hv, hdg⟩ := htk.vd
  have hn6 := hS.1.2.1
  have h1 := hS.2.2.2.2.2.1
  have hz := hS.2.2.2.2.2.2
  have h5 := hS.2.1.2.2.1
  have hne := hI.2.2.1
  have hlo := hS.2.2.1.last
  have hnu : s.t.k = 2 → nuC 0 9999 s.t = if 4 < s.t.dg then 2 else 0 := by
    intro q
    unfold nuC; rw [if_pos q]
    by_cases d4 : 4 < s.t.dg
    · rw [if_pos (Or.inl d4), if_pos d4]
    · rw [if_neg (by omega), if_neg d4]
  have K58 : (c1 : ¬ (¬ s.t.k = 2 ∧ ¬ s.t.k = 40 ∧ ¬ 99 ≤ s.t.k)) → (¬ (lastO s.op = 40 ∧ 5 < s.ne)) → B E md_X7_takePart (d + 2) Q X 58 [(0, .ref 1), (1, .int (nI s.t.k))] [] g 0 := by
    intro c1 c2
    refine b_iload_n dX7_takePart_58 rfl rfl ?_
    refine b_iconst (v := 2) dX7_takePart_59 (by decide +kernel) ?_
    refine b_icmp_ne (tgt := 100) dX7_takePart_60 (by decide) (fun h60 => ?_) (fun h60 => ?_)
    · have e60 : s.t.k ≠ 2 := fun q => h60 (congrArg nI q)
      refine b_iload_n dX7_takePart_100 rfl rfl ?_
      refine b_bipush (v := 40) dX7_takePart_101 (by decide +kernel) ?_
      refine b_icmp_ne (tgt := 124) dX7_takePart_103 (by decide) (fun h103 => ?_) (fun h103 => ?_)
      · have e103 : s.t.k ≠ 40 := fun q => h103 (congrArg nI q)
        refine b_iload_n dX7_takePart_124 rfl rfl ?_
        refine b_bipush (v := 109) dX7_takePart_125 (by decide +kernel) ?_
        refine b_icmp_ne (tgt := 142) dX7_takePart_127 (by decide) (fun h127 => ?_) (fun h127 => ?_)
        · have e127 : s.t.k ≠ 109 := fun q => h127 (congrArg nI q)
          refine b_iload_n dX7_takePart_142 rfl rfl ?_
          refine b_bipush (v := 110) dX7_takePart_143 (by decide +kernel) ?_
          refine b_icmp_lt (tgt := 163) dX7_takePart_145 (by decide) (fun h145 => ?_) (fun h145 => ?_)
          · have e145 : s.t.k < 110 := nn_lt (a := s.t.k) (b := 110) (by omega) (by omega) h145
            refine b_aload_n dX7_takePart_163 rfl rfl ?_
            refine b_iconst (v := 3) dX7_takePart_164 (by decide +kernel) ?_
            refine b_callV (As := [_]) (st := []) dX7_takePart_165 lk_X7_91 lm_X7_refuse lv_X7_refuse rfl (by decide) rfl rfl rfl (Nat.le_of_ble_eq_true rfl) (Nat.le_refl _) (by decide) ?_
            refine c_X7_refuse (k := 3) h5 ?_
            refine b_zret (Or.inl rfl) rfl (by decide) dX7_takePart_168 ?_
            have z : tkP s = (3, s) := by
              unfold tkP; rw [if_neg (by omega), if_neg (by omega), if_neg (by omega), if_neg (by omega), if_neg (fun q => e127 q.1), if_neg (by omega)]
            exact hn _ FSg.ref (by rw [z]; exact Nat.succ_ne_zero _) (by rw [z, up2_k _ _ _ _ (by decide)]; exact up2_s _ _ _ _) (up2_s _ _ _ _)
          · have e145 : 110 ≤ s.t.k := nn_nlt (a := s.t.k) (b := 110) (by omega) (by omega) h145
            refine b_aload_n dX7_takePart_148 rfl rfl ?_
            refine b_getD lf_X7_12 rfl h1 (town_31 hu) dX7_takePart_149 ?_
            refine b_getR (b := (u + 10)) lf_X7_164 (town_c hu) (town_r10 hu) dX7_takePart_152 ?_
            refine b_iload_n dX7_takePart_155 rfl rfl ?_
            refine b_ineg dX7_takePart_156 ?_
            refine b_callV (As := [_]) (st := []) dX7_takePart_157 lk_X7_168 lm_X8_put lv_X8_put (rule_c (town_rule hu)) (by decide) rfl rfl rfl (Nat.le_of_ble_eq_true rfl) (Nat.le_refl _) (by decide) ?_
            refine c_X8_put (n := s.c.length) (town_rule hu) hS.2.2.2.2.1.1 (by omega) (fun g2 F2 a0 a1 a2 a3 => ?_)
            refine b_goto (tgt := 168) dX7_takePart_160 (by decide) ?_
            refine b_zret (Or.inr rfl) rfl (by decide) dX7_takePart_168 ?_
            have z : tkP s = (0, ⟨s.w, s.t, s.ne, s.op, -(nI s.t.k) :: s.c⟩) := by
              unfold tkP; rw [if_neg (by omega), if_neg (by omega), if_neg (by omega), if_neg (by omega), if_neg (fun q => e127 q.1), if_pos (by omega)]
            obtain ⟨F3, R3⟩ := hS.put hu F2 a1 a2 a3
            exact hy _ F3 (by rw [z]) (by rw [z]; exact R3)
        · have e127 : s.t.k = 109 := nI_inj (a := s.t.k) (b := 109) (by omega) (by omega) h127
          refine b_aload_n dX7_takePart_130 rfl rfl ?_
          refine b_callV (As := []) (st := []) dX7_takePart_131 lk_X7_176 lm_X7_mayBeNot lv_X7_mayBeNot rfl (by decide) rfl rfl rfl (Nat.le_of_ble_eq_true rfl) (Nat.le_refl _) (by decide) ?_
          refine c_X7_mayBeNot hS.2.2.1 ?_
          refine b_if_eq (tgt := 142) dX7_takePart_134 (by decide) (fun h134 => ?_) (fun h134 => ?_)
          · have e134 := b2i_0 h134
            have e134 := of_decide_eq_false e134
            refine b_iload_n dX7_takePart_142 rfl rfl ?_
            refine b_bipush (v := 110) dX7_takePart_143 (by decide +kernel) ?_
            refine b_icmp_lt (tgt := 163) dX7_takePart_145 (by decide) (fun h145 => ?_) (fun h145 => ?_)
            · have e145 : s.t.k < 110 := nn_lt (a := s.t.k) (b := 110) (by omega) (by omega) h145
              refine b_aload_n dX7_takePart_163 rfl rfl ?_
              refine b_iconst (v := 3) dX7_takePart_164 (by decide +kernel) ?_
              refine b_callV (As := [_]) (st := []) dX7_takePart_165 lk_X7_91 lm_X7_refuse lv_X7_refuse rfl (by decide) rfl rfl rfl (Nat.le_of_ble_eq_true rfl) (Nat.le_refl _) (by decide) ?_
              refine c_X7_refuse (k := 3) h5 ?_
              refine b_zret (Or.inl rfl) rfl (by decide) dX7_takePart_168 ?_
              have z : tkP s = (3, s) := by
                unfold tkP; rw [if_neg (by omega), if_neg (by omega), if_neg (by omega), if_neg (by omega), if_neg (fun q => e134 q.2), if_neg (by omega)]
              exact hn _ FSg.ref (by rw [z]; exact Nat.succ_ne_zero _) (by rw [z, up2_k _ _ _ _ (by decide)]; exact up2_s _ _ _ _) (up2_s _ _ _ _)
            · have e145 : 110 ≤ s.t.k := nn_nlt (a := s.t.k) (b := 110) (by omega) (by omega) h145
              refine b_aload_n dX7_takePart_148 rfl rfl ?_
              refine b_getD lf_X7_12 rfl h1 (town_31 hu) dX7_takePart_149 ?_
              refine b_getR (b := (u + 10)) lf_X7_164 (town_c hu) (town_r10 hu) dX7_takePart_152 ?_
              refine b_iload_n dX7_takePart_155 rfl rfl ?_
              refine b_ineg dX7_takePart_156 ?_
              refine b_callV (As := [_]) (st := []) dX7_takePart_157 lk_X7_168 lm_X8_put lv_X8_put (rule_c (town_rule hu)) (by decide) rfl rfl rfl (Nat.le_of_ble_eq_true rfl) (Nat.le_refl _) (by decide) ?_
              refine c_X8_put (n := s.c.length) (town_rule hu) hS.2.2.2.2.1.1 (by omega) (fun g2 F2 a0 a1 a2 a3 => ?_)
              refine b_goto (tgt := 168) dX7_takePart_160 (by decide) ?_
              refine b_zret (Or.inr rfl) rfl (by decide) dX7_takePart_168 ?_
              have z : tkP s = (0, ⟨s.w, s.t, s.ne, s.op, -(nI s.t.k) :: s.c⟩) := by
                unfold tkP; rw [if_neg (by omega), if_neg (by omega), if_neg (by omega), if_neg (by omega), if_neg (fun q => e134 q.2), if_pos (by omega)]
              obtain ⟨F3, R3⟩ := hS.put hu F2 a1 a2 a3
              exact hy _ F3 (by rw [z]) (by rw [z]; exact R3)
          · have e134 := b2i_1 h134
            have e134 := of_decide_eq_true e134
            refine b_aload_n dX7_takePart_137 rfl rfl ?_
            refine b_callV (As := []) (st := []) dX7_takePart_138 lk_X7_179 lm_X7_takeNot lv_X7_takeNot rfl (by decide) rfl rfl rfl (Nat.le_of_ble_eq_true rfl) (Nat.le_refl _) (by decide) ?_
            have z0 : tkP s = if 6 ≤ ntsO s.op then (2, s) else (0, ⟨s.w, s.t, s.ne, 109 :: s.op, s.c⟩) := by
              unfold tkP; rw [if_neg (by omega), if_neg (by omega), if_neg (by omega), if_neg (by omega), if_pos ⟨e127, e134⟩]
            refine c_X7_takeNot hS.2.2.1 (by omega) h5 (fun q => ?_) (fun q => ?_)
            · rw [if_neg q] at z0
              have F4 : FSg u g (up2 (up2 g 2 s.op.length (nI 109)) 1 8 (nI (s.op.length + 1))) := FSg.uo.tr (FSg.up1 (by decide))
              refine b_zret (Or.inr rfl) rfl (by decide) dX7_takePart_141 ?_
              refine hy _ F4 (by rw [z0]) ?_
              rw [z0]
              exact ⟨hS.1.c3 F4.2.2 (by rw [up2_f _ _ _ _ (by decide), up2_f _ _ _ _ (by decide)]), hS.2.1.c3 (by rw [up2_f _ _ _ _ (by decide), up2_f _ _ _ _ (by decide)]), RCo.push hS.2.2.1 (by omega) (by decide), by rw [up2_k _ _ _ _ (by decide), up2_a _ _ _ _ (by decide)]; exact hS.2.2.2.1, (hS.2.2.2.2.1.up hu (Or.inr (Or.inl rfl))).up hu (Or.inl rfl), by rw [up2_k _ _ _ _ (by decide), up2_a _ _ _ _ (by decide)]; exact h1, by rw [up2_k _ _ _ _ (by decide), up2_a _ _ _ _ (by decide)]; exact hz.1, by rw [up2_k _ _ _ _ (by decide), up2_a _ _ _ _ (by decide)]; exact hz.2⟩
            · rw [if_pos q] at z0
              refine b_zret (Or.inl rfl) rfl (by decide) dX7_takePart_141 ?_
              exact hn _ FSg.ref (by rw [z0]; exact Nat.succ_ne_zero _) (by rw [z0, up2_k _ _ _ _ (by decide)]; exact up2_s _ _ _ _) (up2_s _ _ _ _)
      · have e103 : s.t.k = 40 := nI_inj (a := s.t.k) (b := 40) (by omega) (by omega) h103
        refine b_aload_n dX7_takePart_106 rfl rfl ?_
        refine b_dup dX7_takePart_107 rfl ?_
        refine b_getI lf_X7_49 rfl dX7_takePart_108 ?_
        refine b_topE (hS.2.2.2.1) ?_
        refine b_iconst (v := 1) dX7_takePart_111 (by decide +kernel) ?_
        refine b_iadd dX7_takePart_112 ?_
        refine b_topE (nI_add s.ne 1) ?_
        refine b_putI lf_X7_49 lp_7_9 rfl dX7_takePart_113 ?_
        refine b_aload_n dX7_takePart_116 rfl rfl ?_
        refine b_bipush (v := 40) dX7_takePart_117 (by decide +kernel) ?_
        refine b_callV (As := [_]) (st := []) dX7_takePart_119 lk_X7_173 lm_X7_pushOpen lv_X7_pushOpen rfl (by decide) rfl rfl rfl (Nat.le_of_ble_eq_true rfl) (Nat.le_refl _) (by decide) ?_
        refine c_X7_pushOpen (x := 40) (hS.2.2.1.cg (up2_k _ _ _ _ (by decide)) (up2_f _ _ _ _ (by decide))) (by omega) ?_
        refine b_iconst (v := 1) dX7_takePart_122 (by decide +kernel) ?_
        refine b_zret (Or.inr rfl) rfl (by decide) dX7_takePart_123 ?_
        have z : tkP s = (0, ⟨s.w, s.t, s.ne + 1, 40 :: s.op, s.c⟩) := by
          unfold tkP; rw [if_neg (by omega), if_neg (by omega), if_neg (by omega), if_pos (by omega)]
        have F4 : FSg u g (up2 (up2 (up2 g 1 9 (nI (s.ne + 1))) 2 s.op.length (nI 40)) 1 8 (nI (s.op.length + 1))) := ((FSg.up1 (by decide)).tr FSg.uo).tr (FSg.up1 (by decide))
        refine hy _ F4 (by rw [z]) ?_
        rw [z]
        exact ⟨hS.1.c3 F4.2.2 (by rw [up2_f _ _ _ _ (by decide), up2_f _ _ _ _ (by decide), up2_f _ _ _ _ (by decide)]), hS.2.1.c3 (by rw [up2_f _ _ _ _ (by decide), up2_f _ _ _ _ (by decide), up2_f _ _ _ _ (by decide)]), RCo.push (hS.2.2.1.cg (up2_k _ _ _ _ (by decide)) (up2_f _ _ _ _ (by decide))) (by omega) (by decide), by rw [up2_k _ _ _ _ (by decide), up2_a _ _ _ _ (by decide), up2_s], ((hS.2.2.2.2.1.up hu (Or.inl rfl)).up hu (Or.inr (Or.inl rfl))).up hu (Or.inl rfl), by rw [up2_k _ _ _ _ (by decide), up2_a _ _ _ _ (by decide), up2_k _ _ _ _ (by decide)]; exact h1, by rw [up2_k _ _ _ _ (by decide), up2_a _ _ _ _ (by decide), up2_k _ _ _ _ (by decide)]; exact hz.1, by rw [up2_k _ _ _ _ (by decide), up2_a _ _ _ _ (by decide), up2_k _ _ _ _ (by decide)]; exact hz.2⟩
    · have e60 : s.t.k = 2 := nI_inj (a := s.t.k) (b := 2) (by omega) (by omega) h60
      refine b_aload_n dX7_takePart_63 rfl rfl ?_
      refine b_iconst (v := 0) dX7_takePart_64 (by decide +kernel) ?_
      refine b_sipush (v := 9999) dX7_takePart_65 (by decide +kernel) ?_
      refine b_callV (As := [_, _]) (st := []) dX7_takePart_68 lk_X7_106 lm_X7_isNumber lv_X7_isNumber rfl (by decide) rfl rfl rfl (Nat.le_of_ble_eq_true rfl) (Nat.le_refl _) (by decide) ?_
      refine c_X7_isNumber (lo := 0) (hi := 9999) hS.2.1 hk (by omega) hv (by decide) (by decide) (fun y => ?_) (fun k hk0 y => ?_)
      · rw [hnu (by omega)] at y
        have d4 : ¬ 4 < s.t.dg := fun q => by rw [if_pos q] at y; cases y
        refine b_if_eq (tgt := 98) dX7_takePart_71 (by decide) (fun h71 => ?_) (fun h71 => ?_)
        · exact absurd h71 (by decide)
        · refine b_aload_n dX7_takePart_74 rfl rfl ?_
          refine b_getD lf_X7_12 rfl h1 (town_31 hu) dX7_takePart_75 ?_
          refine b_getR (b := (u + 10)) lf_X7_164 (town_c hu) (town_r10 hu) dX7_takePart_78 ?_
          refine b_aload_n dX7_takePart_81 rfl rfl ?_
          refine b_getR (b := 3) lf_X7_21 rfl rfl dX7_takePart_82 ?_
          refine b_getI lf_X7_100 rfl dX7_takePart_85 ?_
          refine b_topE (y := nI s.t.v) ((hS.2.1.2.2.2 (by omega)).1) ?_
          refine b_callV (As := [_]) (st := []) dX7_takePart_88 lk_X7_168 lm_X8_put lv_X8_put (rule_c (town_rule hu)) (by decide) rfl rfl rfl (Nat.le_of_ble_eq_true rfl) (Nat.le_refl _) (by decide) ?_
          refine c_X8_put (n := s.c.length) (town_rule hu) hS.2.2.2.2.1.1 (by omega) (fun g2 F2 a0 a1 a2 a3 => ?_)
          refine b_if_eq (tgt := 98) dX7_takePart_91 (by decide) (fun h91 => ?_) (fun h91 => ?_)
          · exact absurd h91 (by decide)
          · refine b_iconst (v := 1) dX7_takePart_94 (by decide +kernel) ?_
            refine b_goto (tgt := 99) dX7_takePart_95 (by decide) ?_
            refine b_zret (Or.inr rfl) rfl (by decide) dX7_takePart_99 ?_
            have z : tkP s = (0, ⟨s.w, s.t, s.ne, s.op, nI s.t.v :: s.c⟩) := by
              unfold tkP; rw [if_neg (by omega), if_neg (by omega), if_pos (by omega), if_neg d4]
            obtain ⟨F3, R3⟩ := hS.put hu F2 a1 a2 a3
            exact hy _ F3 (by rw [z]) (by rw [z]; exact R3)
      · rw [hnu (by omega)] at y
        have d4 : 4 < s.t.dg := by
          by_cases q : 4 < s.t.dg
          · exact q
          · rw [if_neg q] at y; exact absurd y.symm hk0
        refine b_if_eq (tgt := 98) dX7_takePart_71 (by decide) (fun h71 => ?_) (fun h71 => ?_)
        · refine b_iconst (v := 0) dX7_takePart_98 (by decide +kernel) ?_
          refine b_zret (Or.inl rfl) rfl (by decide) dX7_takePart_99 ?_
          have z : tkP s = (2, s) := by
            unfold tkP; rw [if_neg (by omega), if_neg (by omega), if_pos (by omega), if_pos d4]
          rw [if_pos d4] at y; subst y
          exact hn _ FSg.ref (by rw [z]; exact Nat.succ_ne_zero _) (by rw [z, up2_k _ _ _ _ (by decide)]; exact up2_s _ _ _ _) (up2_s _ _ _ _)
        · exact absurd rfl h71
  have K35 : (¬ (¬ s.t.k = 2 ∧ ¬ s.t.k = 40 ∧ ¬ 99 ≤ s.t.k)) → B E md_X7_takePart (d + 2) Q X 35 [(0, .ref 1), (1, .int (nI s.t.k))] [] g 0 := by
    intro c1
    refine b_aload_n dX7_takePart_35 rfl rfl ?_
    refine b_callV (As := []) (st := []) dX7_takePart_36 lk_X7_160 lm_X7_lastOpen lv_X7_lastOpen rfl (by decide) rfl rfl rfl (Nat.le_of_ble_eq_true rfl) (Nat.le_refl _) (by decide) ?_
    refine c_X7_lastOpen hS.2.2.1 ?_
    refine b_bipush (v := 40) dX7_takePart_39 (by decide +kernel) ?_
    refine b_icmp_ne (tgt := 58) dX7_takePart_41 (by decide) (fun h41 => ?_) (fun h41 => ?_)
    · have e41 : ((lastO s.op)) ≠ 40 := fun q => h41 (congrArg nI q)
      exact K58 c1 (by omega)
    · have e41 : ((lastO s.op)) = 40 := nI_inj (a := ((lastO s.op))) (b := 40) (by omega) (by omega) h41
      refine b_aload_n dX7_takePart_44 rfl rfl ?_
      refine b_getI lf_X7_49 rfl dX7_takePart_45 ?_
      refine b_topE (hS.2.2.2.1) ?_
      refine b_iconst (v := 5) dX7_takePart_48 (by decide +kernel) ?_
      refine b_icmp_le (tgt := 58) dX7_takePart_49 (by decide) (fun h49 => ?_) (fun h49 => ?_)
      · have e49 : s.ne ≤ 5 := nn_le (a := s.ne) (b := 5) (by omega) (by omega) h49
        exact K58 c1 (by omega)
      · have e49 : 5 < s.ne := nn_nle (a := s.ne) (b := 5) (by omega) (by omega) h49
        refine b_aload_n dX7_takePart_52 rfl rfl ?_
        refine b_iconst (v := 2) dX7_takePart_53 (by decide +kernel) ?_
        refine b_callV (As := [_]) (st := []) dX7_takePart_54 lk_X7_91 lm_X7_refuse lv_X7_refuse rfl (by decide) rfl rfl rfl (Nat.le_of_ble_eq_true rfl) (Nat.le_refl _) (by decide) ?_
        refine c_X7_refuse (k := 2) h5 ?_
        refine b_zret (Or.inl rfl) rfl (by decide) dX7_takePart_57 ?_
        have z : tkP s = (2, s) := by
          unfold tkP; rw [if_neg (by omega), if_pos (by omega)]
        exact hn _ FSg.ref (by rw [z]; exact Nat.succ_ne_zero _) (by rw [z, up2_k _ _ _ _ (by decide)]; exact up2_s _ _ _ _) (up2_s _ _ _ _)
  refine b_aload_n dX7_takePart_0 rfl rfl ?_
  refine b_getR (b := 3) lf_X7_21 rfl rfl dX7_takePart_1 ?_
  refine b_getI lf_X7_59 rfl dX7_takePart_4 ?_
  refine b_topE (hS.2.1.2.1) ?_
  refine b_istore_n (lv' := [(0, _), (1, _)]) dX7_takePart_7 rfl (by decide) rfl rfl ?_
  refine b_iload_n dX7_takePart_8 rfl rfl ?_
  refine b_iconst (v := 2) dX7_takePart_9 (by decide +kernel) ?_
  refine b_icmp_eq (tgt := 35) dX7_takePart_10 (by decide) (fun h10 => ?_) (fun h10 => ?_)
  · have e10 : s.t.k = 2 := nI_inj (a := s.t.k) (b := 2) (by omega) (by omega) h10
    exact K35 (by omega)
  · have e10 : s.t.k ≠ 2 := fun q => h10 (congrArg nI q)
    refine b_iload_n dX7_takePart_13 rfl rfl ?_
    refine b_bipush (v := 40) dX7_takePart_14 (by decide +kernel) ?_
    refine b_icmp_eq (tgt := 35) dX7_takePart_16 (by decide) (fun h16 => ?_) (fun h16 => ?_)
    · have e16 : s.t.k = 40 := nI_inj (a := s.t.k) (b := 40) (by omega) (by omega) h16
      exact K35 (by omega)
    · have e16 : s.t.k ≠ 40 := fun q => h16 (congrArg nI q)
      refine b_aload_n dX7_takePart_19 rfl rfl ?_
      refine b_getR (b := 3) lf_X7_21 rfl rfl dX7_takePart_20 ?_
      refine b_callV (As := []) (st := []) dX7_takePart_23 lk_X7_157 lm_X9_isWord lv_X9_isWord rfl (by decide) rfl rfl rfl (Nat.le_of_ble_eq_true rfl) (Nat.le_refl _) (by decide) ?_
      refine c_X9_isWord (t := s.t) hS.2.1.2.1 (by omega) ?_
      refine b_if_ne (tgt := 35) dX7_takePart_26 (by decide) (fun h26 => ?_) (fun h26 => ?_)
      · have e26 := b2i_1 h26
        have e26 := of_decide_eq_true e26
        exact K35 (by omega)
      · have e26 := b2i_0 h26
        have e26 := of_decide_eq_false e26
        refine b_aload_n dX7_takePart_29 rfl rfl ?_
        refine b_iconst (v := 1) dX7_takePart_30 (by decide +kernel) ?_
        refine b_callV (As := [_]) (st := []) dX7_takePart_31 lk_X7_91 lm_X7_refuse lv_X7_refuse rfl (by decide) rfl rfl rfl (Nat.le_of_ble_eq_true rfl) (Nat.le_refl _) (by decide) ?_
        refine c_X7_refuse (k := 1) h5 ?_
        refine b_zret (Or.inl rfl) rfl (by decide) dX7_takePart_34 ?_
        have z : tkP s = (1, s) := by
          unfold tkP; rw [if_pos (by omega)]
        exact hn _ FSg.ref (by rw [z]; exact Nat.succ_ne_zero _) (by rw [z, up2_k _ _ _ _ (by decide)]; exact up2_s _ _ _ _) (up2_s _ _ _ _)
theorem max0 {m : Nat} (h : m < 2 ^ 31) : (if (0 : Int32) < nI m then nI m else 0) = nI m := by
  split
  · rfl
  · rename_i q
    have : m = 0 := Nat.le_zero.mp (nn_nlt (a := 0) (by decide) h q)
    rw [this]; rfl
theorem c_X7_takeOperator {E : En} {d : Nat} {Q : QT} {X : XT} {g : G2} {f : Nat → Nat} {n u : Nat} {s : PS} (hu : is_town u) (hS : RCs g f n u s) (hI : InvP f n s) (hw : s.w = false) (hy : ∀ h, FSg u g h → (tkO s).1 = 0 → RCs h f n u (tkO s).2 → Q (some (.int 1)) h) (hn : ∀ h, FSg u g h → (tkO s).1 ≠ 0 → h 1 2 = nI (tkO s).1 → h 1 3 = nI s.t.pl → Q (some (.int 0)) h) : M E md_X7_takeOperator (d + 2) [.ref 1] g Q X := by
  refine M.of _ rfl rfl (Nat.le_of_ble_eq_true rfl) ?_
  have hln := hI.len
  have hpl := hI.2.2.2.2.1
  have htk := hI.2.2.2.2.2.1
  have hcs := htk.cs
  obtain ⟨hk, hv, hdg⟩ := htk.vd
  have hn6 := hS.1.2.1
  have h1 := hS.2.2.2.2.2.1
  have hz := hS.2.2.2.2.2.2
  have h5 := hS.2.1.2.2.1
  have hne := hI.2.2.1
  have hlo := hS.2.2.1.last
  have hne5 : s.ne ≤ 5 := by
    rcases hne with q | q
    · exact q
    · rw [hw] at q; cases q.2.1
  have hpar := hI.2.1
  have hgc : hgt s.c = some (binO s.op + 1) := by
    have := hI.2.2.2.1
    rw [hw, if_neg Bool.false_ne_true] at this
    exact this
  have hb6 := bnd_le s.t.k
  have K67 : (c41 : ¬ (s.t.k = 41 ∧ 0 < s.ne)) → (c2 : bnd s.t.k = 0 ∨ s.t.k = 109) → B E md_X7_takeOperator (d + 2) Q X 67 [(0, .ref 1), (1, .int (nI s.t.k)), (2, .int (nI (bnd s.t.k)))] [] g 0 := by
    intro c41 c2
    refine b_aload_n dX7_takeOperator_67 rfl rfl ?_
    refine b_iconst (v := 1) dX7_takeOperator_68 (by decide +kernel) ?_
    refine b_callV (As := [_]) (st := []) dX7_takeOperator_69 lk_X7_91 lm_X7_refuse lv_X7_refuse rfl (by decide) rfl rfl rfl (Nat.le_of_ble_eq_true rfl) (Nat.le_refl _) (by decide) ?_
    refine c_X7_refuse (k := 1) h5 ?_
    refine b_zret (Or.inl rfl) rfl (by decide) dX7_takeOperator_72 ?_
    have z : tkO s = (1, s) := by
      unfold tkO; rw [if_neg c41, if_pos (by omega)]
    exact hn _ FSg.ref (by rw [z]; exact Nat.succ_ne_zero _) (by rw [z, up2_k _ _ _ _ (by decide)]; exact up2_s _ _ _ _) (up2_s _ _ _ _)
  have K85 : (c41 : ¬ (s.t.k = 41 ∧ 0 < s.ne)) → (c2 : ¬ (bnd s.t.k = 0 ∨ s.t.k = 109)) → (c3 : s.t.k = 60 ∨ s.t.k = 61) → B E md_X7_takeOperator (d + 2) Q X 85 [(0, .ref 1), (1, .int (nI s.t.k)), (2, .int (nI (bnd s.t.k)))] [] g 0 := by
    intro c41 c2 c3
    refine b_iconst (v := 1) dX7_takeOperator_85 (by decide +kernel) ?_
    refine b_goto (tgt := 90) dX7_takeOperator_86 (by decide) ?_
    refine b_istore_n (lv' := [(0, _), (1, _), (2, _), (3, _)]) dX7_takeOperator_90 rfl (by decide) rfl rfl ?_
    refine b_aload_n dX7_takeOperator_91 rfl rfl ?_
    refine b_iload_n dX7_takeOperator_92 rfl rfl ?_
    refine b_if_eq (tgt := 102) dX7_takeOperator_93 (by decide) (fun h93 => ?_) (fun h93 => ?_)
    · exact absurd h93 (by decide)
    · refine b_iload_n dX7_takeOperator_96 rfl rfl ?_
      refine b_iconst (v := 1) dX7_takeOperator_97 (by decide +kernel) ?_
      refine b_iadd dX7_takeOperator_98 ?_
      refine b_topE (nI_add ((bnd s.t.k)) 1) ?_
      refine b_goto (tgt := 103) dX7_takeOperator_99 (by decide) ?_
      refine b_callV (As := [_]) (st := []) dX7_takeOperator_103 lk_X7_154 lm_X7_closeDownTo lv_X7_closeDownTo rfl (by decide) rfl rfl rfl (Nat.le_of_ble_eq_true rfl) (Nat.le_refl _) (by decide) ?_
      have eL : opL s.t.k = bnd s.t.k + 1 := if_pos (by omega)
      refine c_X7_closeDownTo (u := u) (b := bnd s.t.k + 1) hu (by have := bnd_le s.t.k; omega) h1 hS.2.2.1 hS.2.2.2.2.1 (by omega) (fun h F5 f5 hR5 hP5 => ?_)
      rw [← eL] at hR5 hP5
      obtain ⟨a1, a2, a3, a4, a5⟩ := clsTo_inv (opL s.t.k) s.op s.c hI.1 hgc hI.2.2.2.2.2.2
      have a6 := a1.len
      have hlo2 := hR5.last
      refine b_iload_n dX7_takeOperator_106 rfl rfl ?_
      refine b_if_eq (tgt := 134) dX7_takeOperator_107 (by decide) (fun h107 => ?_) (fun h107 => ?_)
      · exact absurd h107 (by decide)
      · refine b_aload_n dX7_takeOperator_110 rfl rfl ?_
        refine b_callV (As := []) (st := []) dX7_takeOperator_111 lk_X7_160 lm_X7_lastOpen lv_X7_lastOpen rfl (by decide) rfl rfl rfl (Nat.le_of_ble_eq_true rfl) (Nat.le_refl _) (by decide) ?_
        refine c_X7_lastOpen hR5 ?_
        refine b_bipush (v := 60) dX7_takeOperator_114 (by decide +kernel) ?_
        refine b_icmp_eq (tgt := 128) dX7_takeOperator_116 (by decide) (fun h116 => ?_) (fun h116 => ?_)
        · have e116 : ((lastO (clsTo (opL s.t.k) s.op s.c).1)) = 60 := nI_inj (a := ((lastO (clsTo (opL s.t.k) s.op s.c).1))) (b := 60) (by omega) (by omega) h116
          refine b_aload_n dX7_takeOperator_128 rfl rfl ?_
          refine b_iconst (v := 1) dX7_takeOperator_129 (by decide +kernel) ?_
          refine b_callV (As := [_]) (st := []) dX7_takeOperator_130 lk_X7_91 lm_X7_refuse lv_X7_refuse rfl (by decide) rfl rfl rfl (Nat.le_of_ble_eq_true rfl) (Nat.le_refl _) (by decide) ?_
          refine c_X7_refuse (k := 1) ((congrFun f5.1 5).trans h5) ?_
          refine b_zret (Or.inl rfl) rfl (by decide) dX7_takeOperator_133 ?_
          have z : tkO s = (1, ⟨s.w, s.t, s.ne, (clsTo (opL s.t.k) s.op s.c).1, (clsTo (opL s.t.k) s.op s.c).2⟩) := by
            unfold tkO; rw [if_neg c41, if_neg (by omega), if_pos (by omega)]
          exact hn _ (F5.tr FSg.ref) (by rw [z]; exact Nat.succ_ne_zero _) (by rw [z, up2_k _ _ _ _ (by decide)]; exact up2_s _ _ _ _) (up2_s _ _ _ _)
        · have e116 : ((lastO (clsTo (opL s.t.k) s.op s.c).1)) ≠ 60 := fun q => h116 (congrArg nI q)
          refine b_aload_n dX7_takeOperator_119 rfl rfl ?_
          refine b_callV (As := []) (st := []) dX7_takeOperator_120 lk_X7_160 lm_X7_lastOpen lv_X7_lastOpen rfl (by decide) rfl rfl rfl (Nat.le_of_ble_eq_true rfl) (Nat.le_refl _) (by decide) ?_
          refine c_X7_lastOpen hR5 ?_
          refine b_bipush (v := 61) dX7_takeOperator_123 (by decide +kernel) ?_
          refine b_icmp_ne (tgt := 134) dX7_takeOperator_125 (by decide) (fun h125 => ?_) (fun h125 => ?_)
          · have e125 : ((lastO (clsTo (opL s.t.k) s.op s.c).1)) ≠ 61 := fun q => h125 (congrArg nI q)
            refine b_aload_n dX7_takeOperator_134 rfl rfl ?_
            refine b_iload_n dX7_takeOperator_135 rfl rfl ?_
            refine b_callV (As := [_]) (st := []) dX7_takeOperator_136 lk_X7_173 lm_X7_pushOpen lv_X7_pushOpen rfl (by decide) rfl rfl rfl (Nat.le_of_ble_eq_true rfl) (Nat.le_refl _) (by decide) ?_
            refine c_X7_pushOpen hR5 (by omega) ?_
            refine b_iconst (v := 1) dX7_takeOperator_139 (by decide +kernel) ?_
            refine b_zret (Or.inr rfl) rfl (by decide) dX7_takeOperator_140 ?_
            have z : tkO s = (0, ⟨s.w, s.t, s.ne, s.t.k :: (clsTo (opL s.t.k) s.op s.c).1, (clsTo (opL s.t.k) s.op s.c).2⟩) := by
              unfold tkO; rw [if_neg c41, if_neg (by omega), if_neg (by omega)]
            have F6 : FSg u h (up2 (up2 h 2 (clsTo (opL s.t.k) s.op s.c).1.length (nI s.t.k)) 1 8 (nI ((clsTo (opL s.t.k) s.op s.c).1.length + 1))) := FSg.uo.tr (FSg.up1 (by decide))
            refine hy _ (F5.tr F6) (by rw [z]) ?_
            rw [z]
            exact ⟨hS.1.c3 (F5.tr F6).2.2 (by rw [up2_f _ _ _ _ (by decide), up2_f _ _ _ _ (by decide)]; exact F5.1 4 (by decide) (by decide) (by decide) (by unfold is_town at hu; omega) (by unfold is_town at hu; omega)), hS.2.1.c3 (by rw [up2_f _ _ _ _ (by decide), up2_f _ _ _ _ (by decide)]; exact f5.1), RCo.push hR5 (by omega) hk, by rw [up2_k _ _ _ _ (by decide), up2_a _ _ _ _ (by decide)]; exact (f5.2 9 (by decide)).trans hS.2.2.2.1, (hP5.up hu (Or.inr (Or.inl rfl))).up hu (Or.inl rfl), by rw [up2_k _ _ _ _ (by decide), up2_a _ _ _ _ (by decide), F5.2.1 0 (by decide)]; exact h1, by rw [up2_k _ _ _ _ (by decide), up2_a _ _ _ _ (by decide), f5.2 2 (by decide)]; exact hz.1, by rw [up2_k _ _ _ _ (by decide), up2_a _ _ _ _ (by decide), f5.2 3 (by decide)]; exact hz.2⟩
          · have e125 : ((lastO (clsTo (opL s.t.k) s.op s.c).1)) = 61 := nI_inj (a := ((lastO (clsTo (opL s.t.k) s.op s.c).1))) (b := 61) (by omega) (by omega) h125
            refine b_aload_n dX7_takeOperator_128 rfl rfl ?_
            refine b_iconst (v := 1) dX7_takeOperator_129 (by decide +kernel) ?_
            refine b_callV (As := [_]) (st := []) dX7_takeOperator_130 lk_X7_91 lm_X7_refuse lv_X7_refuse rfl (by decide) rfl rfl rfl (Nat.le_of_ble_eq_true rfl) (Nat.le_refl _) (by decide) ?_
            refine c_X7_refuse (k := 1) ((congrFun f5.1 5).trans h5) ?_
            refine b_zret (Or.inl rfl) rfl (by decide) dX7_takeOperator_133 ?_
            have z : tkO s = (1, ⟨s.w, s.t, s.ne, (clsTo (opL s.t.k) s.op s.c).1, (clsTo (opL s.t.k) s.op s.c).2⟩) := by
              unfold tkO; rw [if_neg c41, if_neg (by omega), if_pos (by omega)]
            exact hn _ (F5.tr FSg.ref) (by rw [z]; exact Nat.succ_ne_zero _) (by rw [z, up2_k _ _ _ _ (by decide)]; exact up2_s _ _ _ _) (up2_s _ _ _ _)
  have K52 : (c41 : ¬ (s.t.k = 41 ∧ 0 < s.ne)) → B E md_X7_takeOperator (d + 2) Q X 52 [(0, .ref 1), (1, .int (nI s.t.k))] [] g 0 := by
    intro c41
    refine b_iload_n dX7_takeOperator_52 rfl rfl ?_
    refine b_callS (As := [_]) (st := []) dX7_takeOperator_53 lk_X7_188 lm_X7_binding ls_X7_binding rfl rfl (Nat.le_of_ble_eq_true rfl) (Nat.le_refl _) (by decide) ?_
    refine c_X7_binding0 rfl hk ?_
    refine b_istore_n (lv' := [(0, _), (1, _), (2, _)]) dX7_takeOperator_56 rfl (by decide) rfl rfl ?_
    refine b_iload_n dX7_takeOperator_57 rfl rfl ?_
    refine b_if_eq (tgt := 67) dX7_takeOperator_58 (by decide) (fun h58 => ?_) (fun h58 => ?_)
    · have e58 : ((bnd s.t.k)) = 0 := nI_inj (b := 0) (by omega) (by decide) h58
      exact K67 c41 (by omega)
    · have e58 : ((bnd s.t.k)) ≠ 0 := fun q => h58 (by rw [q]; rfl)
      refine b_iload_n dX7_takeOperator_61 rfl rfl ?_
      refine b_bipush (v := 109) dX7_takeOperator_62 (by decide +kernel) ?_
      refine b_icmp_ne (tgt := 73) dX7_takeOperator_64 (by decide) (fun h64 => ?_) (fun h64 => ?_)
      · have e64 : s.t.k ≠ 109 := fun q => h64 (congrArg nI q)
        refine b_iload_n dX7_takeOperator_73 rfl rfl ?_
        refine b_bipush (v := 60) dX7_takeOperator_74 (by decide +kernel) ?_
        refine b_icmp_eq (tgt := 85) dX7_takeOperator_76 (by decide) (fun h76 => ?_) (fun h76 => ?_)
        · have e76 : s.t.k = 60 := nI_inj (a := s.t.k) (b := 60) (by omega) (by omega) h76
          exact K85 c41 (by omega) (by omega)
        · have e76 : s.t.k ≠ 60 := fun q => h76 (congrArg nI q)
          refine b_iload_n dX7_takeOperator_79 rfl rfl ?_
          refine b_bipush (v := 61) dX7_takeOperator_80 (by decide +kernel) ?_
          refine b_icmp_ne (tgt := 89) dX7_takeOperator_82 (by decide) (fun h82 => ?_) (fun h82 => ?_)
          · have e82 : s.t.k ≠ 61 := fun q => h82 (congrArg nI q)
            refine b_iconst (v := 0) dX7_takeOperator_89 (by decide +kernel) ?_
            refine b_istore_n (lv' := [(0, _), (1, _), (2, _), (3, _)]) dX7_takeOperator_90 rfl (by decide) rfl rfl ?_
            refine b_aload_n dX7_takeOperator_91 rfl rfl ?_
            refine b_iload_n dX7_takeOperator_92 rfl rfl ?_
            refine b_if_eq (tgt := 102) dX7_takeOperator_93 (by decide) (fun h93 => ?_) (fun h93 => ?_)
            · refine b_iload_n dX7_takeOperator_102 rfl rfl ?_
              refine b_callV (As := [_]) (st := []) dX7_takeOperator_103 lk_X7_154 lm_X7_closeDownTo lv_X7_closeDownTo rfl (by decide) rfl rfl rfl (Nat.le_of_ble_eq_true rfl) (Nat.le_refl _) (by decide) ?_
              have eL : opL s.t.k = bnd s.t.k := if_neg (by omega)
              refine c_X7_closeDownTo (u := u) (b := bnd s.t.k) hu (by have := bnd_le s.t.k; omega) h1 hS.2.2.1 hS.2.2.2.2.1 (by omega) (fun h F5 f5 hR5 hP5 => ?_)
              rw [← eL] at hR5 hP5
              obtain ⟨a1, a2, a3, a4, a5⟩ := clsTo_inv (opL s.t.k) s.op s.c hI.1 hgc hI.2.2.2.2.2.2
              have a6 := a1.len
              have hlo2 := hR5.last
              refine b_iload_n dX7_takeOperator_106 rfl rfl ?_
              refine b_if_eq (tgt := 134) dX7_takeOperator_107 (by decide) (fun h107 => ?_) (fun h107 => ?_)
              · refine b_aload_n dX7_takeOperator_134 rfl rfl ?_
                refine b_iload_n dX7_takeOperator_135 rfl rfl ?_
                refine b_callV (As := [_]) (st := []) dX7_takeOperator_136 lk_X7_173 lm_X7_pushOpen lv_X7_pushOpen rfl (by decide) rfl rfl rfl (Nat.le_of_ble_eq_true rfl) (Nat.le_refl _) (by decide) ?_
                refine c_X7_pushOpen hR5 (by omega) ?_
                refine b_iconst (v := 1) dX7_takeOperator_139 (by decide +kernel) ?_
                refine b_zret (Or.inr rfl) rfl (by decide) dX7_takeOperator_140 ?_
                have z : tkO s = (0, ⟨s.w, s.t, s.ne, s.t.k :: (clsTo (opL s.t.k) s.op s.c).1, (clsTo (opL s.t.k) s.op s.c).2⟩) := by
                  unfold tkO; rw [if_neg c41, if_neg (by omega), if_neg (by omega)]
                have F6 : FSg u h (up2 (up2 h 2 (clsTo (opL s.t.k) s.op s.c).1.length (nI s.t.k)) 1 8 (nI ((clsTo (opL s.t.k) s.op s.c).1.length + 1))) := FSg.uo.tr (FSg.up1 (by decide))
                refine hy _ (F5.tr F6) (by rw [z]) ?_
                rw [z]
                exact ⟨hS.1.c3 (F5.tr F6).2.2 (by rw [up2_f _ _ _ _ (by decide), up2_f _ _ _ _ (by decide)]; exact F5.1 4 (by decide) (by decide) (by decide) (by unfold is_town at hu; omega) (by unfold is_town at hu; omega)), hS.2.1.c3 (by rw [up2_f _ _ _ _ (by decide), up2_f _ _ _ _ (by decide)]; exact f5.1), RCo.push hR5 (by omega) hk, by rw [up2_k _ _ _ _ (by decide), up2_a _ _ _ _ (by decide)]; exact (f5.2 9 (by decide)).trans hS.2.2.2.1, (hP5.up hu (Or.inr (Or.inl rfl))).up hu (Or.inl rfl), by rw [up2_k _ _ _ _ (by decide), up2_a _ _ _ _ (by decide), F5.2.1 0 (by decide)]; exact h1, by rw [up2_k _ _ _ _ (by decide), up2_a _ _ _ _ (by decide), f5.2 2 (by decide)]; exact hz.1, by rw [up2_k _ _ _ _ (by decide), up2_a _ _ _ _ (by decide), f5.2 3 (by decide)]; exact hz.2⟩
              · exact absurd rfl h107
            · exact absurd rfl h93
          · have e82 : s.t.k = 61 := nI_inj (a := s.t.k) (b := 61) (by omega) (by omega) h82
            exact K85 c41 (by omega) (by omega)
      · have e64 : s.t.k = 109 := nI_inj (a := s.t.k) (b := 109) (by omega) (by omega) h64
        exact K67 c41 (by omega)
  refine b_aload_n dX7_takeOperator_0 rfl rfl ?_
  refine b_getR (b := 3) lf_X7_21 rfl rfl dX7_takeOperator_1 ?_
  refine b_getI lf_X7_59 rfl dX7_takeOperator_4 ?_
  refine b_topE (hS.2.1.2.1) ?_
  refine b_istore_n (lv' := [(0, _), (1, _)]) dX7_takeOperator_7 rfl (by decide) rfl rfl ?_
  refine b_iload_n dX7_takeOperator_8 rfl rfl ?_
  refine b_bipush (v := 41) dX7_takeOperator_9 (by decide +kernel) ?_
  refine b_icmp_ne (tgt := 52) dX7_takeOperator_11 (by decide) (fun h11 => ?_) (fun h11 => ?_)
  · have e11 : s.t.k ≠ 41 := fun q => h11 (congrArg nI q)
    exact K52 (by omega)
  · have e11 : s.t.k = 41 := nI_inj (a := s.t.k) (b := 41) (by omega) (by omega) h11
    refine b_aload_n dX7_takeOperator_14 rfl rfl ?_
    refine b_getI lf_X7_49 rfl dX7_takeOperator_15 ?_
    refine b_topE (hS.2.2.2.1) ?_
    refine b_if_le (tgt := 52) dX7_takeOperator_18 (by decide) (fun h18 => ?_) (fun h18 => ?_)
    · have e18 : s.ne = 0 := Nat.le_zero.mp (nn_le (b := 0) (by omega) (by decide) h18)
      exact K52 (by omega)
    · have e18 : 0 < s.ne := nn_nle (b := 0) (by omega) (by decide) h18
      refine b_aload_n dX7_takeOperator_21 rfl rfl ?_
      refine b_iconst (v := 0) dX7_takeOperator_22 (by decide +kernel) ?_
      refine b_callV (As := [_]) (st := []) dX7_takeOperator_23 lk_X7_154 lm_X7_closeDownTo lv_X7_closeDownTo rfl (by decide) rfl rfl rfl (Nat.le_of_ble_eq_true rfl) (Nat.le_refl _) (by decide) ?_
      refine c_X7_closeDownTo (u := u) (b := 0) hu (by decide) h1 hS.2.2.1 hS.2.2.2.2.1 (by omega) (fun h F5 f5 hR5 hP5 => ?_)
      obtain ⟨a1, a2, a3, a4, a5⟩ := clsTo_inv 0 s.op s.c hI.1 hgc hI.2.2.2.2.2.2
      have a6 := a1.len
      obtain ⟨x, r, e0⟩ : ∃ x r, (clsTo 0 s.op s.c).1 = x :: r := by
        cases e : (clsTo 0 s.op s.c).1 with
        | nil => rw [e] at a3; have a3 : 0 = par s.op := a3; omega
        | cons x r => exact ⟨x, r, rfl⟩
      rw [e0] at hR5 a6 a3
      have a6 : r.length + 1 ≤ _ := a6.1
      have hne2 : s.ne < 100 := by omega
      have hrl : r.length < 84 := hR5.2.2.1
      refine b_aload_n dX7_takeOperator_26 rfl rfl ?_
      refine b_dup dX7_takeOperator_27 rfl ?_
      refine b_getI lf_X7_49 rfl dX7_takeOperator_28 ?_
      refine b_topE ((f5.2 9 (by decide)).trans hS.2.2.2.1) ?_
      refine b_iconst (v := 1) dX7_takeOperator_31 (by decide +kernel) ?_
      refine b_isub dX7_takeOperator_32 ?_
      refine b_topE (nI_sub s.ne 1 (by omega)) ?_
      refine b_putI lf_X7_49 lp_7_9 rfl dX7_takeOperator_33 ?_
      refine b_aload_n dX7_takeOperator_36 rfl rfl ?_
      refine b_iconst (v := 0) dX7_takeOperator_37 (by decide +kernel) ?_
      refine b_aload_n dX7_takeOperator_38 rfl rfl ?_
      refine b_getI lf_X7_46 rfl dX7_takeOperator_39 ?_
      refine b_topE (y := nI ((r.length + 1))) (by rw [up2_k _ _ _ _ (by decide)]; exact hR5.1) ?_
      refine b_iconst (v := 1) dX7_takeOperator_42 (by decide +kernel) ?_
      refine b_isub dX7_takeOperator_43 ?_
      refine b_topE (nI_sub ((r.length + 1)) 1 (by omega)) ?_
      refine b_max dX7_takeOperator_44 lc_X7_182 (by omega) (Nat.le_of_ble_eq_true rfl) (by decide) ?_
      refine b_topE (y := nI r.length) (max0 (m := r.length) (by omega)) ?_
      refine b_putI lf_X7_46 lp_7_8 rfl dX7_takeOperator_47 ?_
      refine b_iconst (v := 1) dX7_takeOperator_50 (by decide +kernel) ?_
      refine b_zret (Or.inr rfl) rfl (by decide) dX7_takeOperator_51 ?_
      have z : tkO s = (0, ⟨s.w, s.t, s.ne - 1, (clsTo 0 s.op s.c).1.tail, (clsTo 0 s.op s.c).2⟩) := by
        unfold tkO; rw [if_pos (by omega)]
      rw [e0, show (x :: r).tail = r from rfl] at z
      have F6 : FSg u h (up2 (up2 h 1 9 (nI (s.ne - 1))) 1 8 (nI r.length)) := (FSg.up1 (by decide)).tr (FSg.up1 (by decide))
      refine hy _ (F5.tr F6) (by rw [z]) ?_
      rw [z]
      exact ⟨hS.1.c3 (F5.tr F6).2.2 (by rw [up2_f _ _ _ _ (by decide), up2_f _ _ _ _ (by decide)]; exact F5.1 4 (by decide) (by decide) (by decide) (by have := is_town.ne hu; unfold is_town at hu; omega) (by unfold is_town at hu; omega)), hS.2.1.c3 (by rw [up2_f _ _ _ _ (by decide), up2_f _ _ _ _ (by decide)]; exact f5.1), ⟨up2_s _ _ _ _, by rw [up2_f _ _ _ _ (by decide), up2_f _ _ _ _ (by decide)]; exact hR5.2.1.2, Nat.le_of_lt hrl, fun y hy => hR5.2.2.2 y (List.mem_cons_of_mem _ hy)⟩, by rw [up2_k _ _ _ _ (by decide)]; exact up2_s _ _ _ _, (hP5.up hu (Or.inl rfl)).up hu (Or.inl rfl), by rw [up2_k _ _ _ _ (by decide), up2_k _ _ _ _ (by decide), F5.2.1 0 (by decide)]; exact h1, by rw [up2_k _ _ _ _ (by decide), up2_k _ _ _ _ (by decide), f5.2 2 (by decide)]; exact hz.1, by rw [up2_k _ _ _ _ (by decide), up2_k _ _ _ _ (by decide), f5.2 3 (by decide)]; exact hz.2⟩
