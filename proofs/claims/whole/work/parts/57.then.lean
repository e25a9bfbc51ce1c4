/-- the future's tune begins with S's -/
def TU (h : G2) (S : LfS) : Prop := (∀ i, i < l_n S → h 42 i = l_g S 0 i) ∧ (∀ i, i < l_n S → h 43 i = l_g S 1 i) ∧ (∀ i, i < l_n S → h 44 i = l_g S 2 i)
theorem RLf.tu {h : G2} {T : TD} {sp : Int32} {S R : LfS} (hR : RLf h 41 T sp R) (hp : preL S R) : TU h S :=
  ⟨fun i hi => (hR.sg i (Nat.lt_of_lt_of_le hi hp.1)).trans (hp.2 0 (by decide) i hi).symm, fun i hi => (hR.wh i (Nat.lt_of_lt_of_le hi hp.1)).trans (hp.2 1 (by decide) i hi).symm, fun i hi => (hR.yi i (Nat.lt_of_lt_of_le hi hp.1)).trans (hp.2 2 (by decide) i hi).symm⟩
theorem yrsM_mono (T : TD) (sp : Int32) (S : LfS) {k m : Nat} (h : k ≤ m) : preL (yrsM T sp S k) (yrsM T sp S m) := by
  have key : ∀ j, preL (yrsM T sp S k) (yrsM T sp S (k + j)) := by
    intro j
    induction j with
    | zero => exact preL.rf _
    | succ j ih => exact ih.tr (yrM_pre T sp _)
  have := key (m - k)
  rwa [show k + (m - k) = m by omega] at this
/-- the class's future, made of what is now: what changes -/
def FU (t : Nat) (g h : G2) : Prop := ∀ y, ¬ (41 ≤ y ∧ y ≤ 50) → y ≠ t + 12 → h y = g y
theorem FU.rf (t : Nat) (g : G2) : FU t g g := fun _ _ _ => rfl
theorem FU.tr {t : Nat} {g h k : G2} (h1 : FU t g h) (h2 : FU t h k) : FU t g k := fun y a b => (h2 y a b).trans (h1 y a b)
theorem FU.fc {t : Nat} {g h : G2} (ht : is_town t) (h1 : FU t g h) : FC g h := fun y hy => h1 y (by unfold scC at hy; omega) (by unfold scC at hy; unfold is_town at ht; omega)
theorem FU.tn {t : Nat} {g h : G2} {T : TD} (ht : is_town t) (h1 : FU t g h) (hT : RTn g t T) : RTn h t T := hT.fa ht (fun y y1 y2 y3 => h1 y (by omega) y3)
theorem FU.lf {t : Nat} {g h : G2} {T : TD} {sp : Int32} {S : LfS} (ht : is_town t) (h1 : FU t g h) (hR : RLf g 31 T sp S) : RLf h 31 T sp S := hR.cg (fun k hk => h1 _ (by omega) (by unfold is_town at ht; omega))
theorem FU.py {t : Nat} {g h : G2} (f : FR [41, 41 + 1, 41 + 2, 41 + 3, 41 + 6, t + 12] g h) : FU t g h := fun y y1 y2 => f y (by simp; omega)
theorem FU.cr {t : Nat} {g h : G2} (f : FR [41, 41 + 4, 41 + 5, 41 + 6, 41 + 7, 41 + 8, 41 + 9] g h) : FU t g h := fun y y1 _ => f y (by simp; omega)
theorem FU.ct {t : Nat} {g h : G2} (f : FR [41 + 1, 41 + 2, 41 + 3] g h) : FU t g h := fun y y1 _ => f y (by simp; omega)
theorem TU.ct {g h : G2} {T : TD} {sp : Int32} {S : LfS} (hR : RLf g 31 T sp S) (t1 : ∀ j, j < l_n S → h (41 + 1) j = g (31 + 1) j) (t2 : ∀ j, j < l_n S → h (41 + 2) j = g (31 + 2) j) (t3 : ∀ j, j < l_n S → h (41 + 3) j = g (31 + 3) j) : TU h S := ⟨fun i hi => (t1 i hi).trans (hR.sg i hi), fun i hi => (t2 i hi).trans (hR.wh i hi), fun i hi => (t3 i hi).trans (hR.yi i hi)⟩
/-- the model: behind what might come, all is as it was packed -/
theorem RMl.back {h k : G2} {z : Nat} {T : TD} {S R : LfS} (h8 : t_n T ≤ 8) (oS : okS T S) (h6 : l_fn S ≤ 6) (hk : RPk (h z) 0 T S) (hR : RMl h T R) (hp : preL S R) (hz : ∀ y, y ≠ 84 → y ≠ 99 → y ≠ 100 → y ≠ 101 → y ≠ 102 → k y = h y) (pk : PKD k (h z) 0) : RMl k T S := by
  refine RMl.unp h8 oS.1 h6 pk hk (fun i hi => ?_) (fun i hi => ?_) (fun i hi => ?_)
  · rw [hz 104 (by decide) (by decide) (by decide) (by decide) (by decide), hR.sg i (Nat.lt_of_lt_of_le hi hp.1)]; exact (hp.2 0 (by decide) i hi).symm
  · rw [hz 105 (by decide) (by decide) (by decide) (by decide) (by decide), hR.wh i (Nat.lt_of_lt_of_le hi hp.1)]; exact (hp.2 1 (by decide) i hi).symm
  · rw [hz 106 (by decide) (by decide) (by decide) (by decide) (by decide), hR.yi i (Nat.lt_of_lt_of_le hi hp.1)]; exact (hp.2 2 (by decide) i hi).symm
theorem FD.ofZ {g h : G2} {z : Nat} (hz : (107 ≤ z ∧ z ≤ 112) ∨ (115 ≤ z ∧ z ≤ 118)) (hF : ∀ y, y ≠ z → h y = g y) : FD g h := ⟨fun y hy => hF y (by omega), fun j hj => by rw [hF 84 (by omega)]⟩
theorem FM.fd {g h : G2} (f : FM g h) : FD g h := ⟨fun y q => f.1 y (by omega) (by omega) (by omega) (by omega) (by omega) (by omega), fun j q => f.2 j (by omega) (by omega)⟩
theorem FD.unp {g h : G2} (uF : ∀ y, y ≠ 84 → y ≠ 99 → y ≠ 100 → y ≠ 101 → y ≠ 102 → h y = g y) (u84 : ∀ j, (j < 30 ∨ 36 < j) → h 84 j = g 84 j) : FD g h := ⟨fun y q => uF y (by omega) (by omega) (by omega) (by omega) (by omega), fun j q => u84 j (by omega)⟩
theorem RMl.ofZ {g h : G2} {z : Nat} {T : TD} {S : LfS} (hR : RMl g T S) (hz : 107 ≤ z) (hF : ∀ y, y ≠ z → h y = g y) : RMl h T S := hR.cg (fun j _ _ => by rw [hF 84 (by omega)]) (fun y _ _ _ => hF y (by omega))
def thV (T : TD) (S : LfS) (i : Nat) : Int32 := if i < l_n (yrsM T (-1) S 20) then l_g (yrsM T (-1) S 20) 0 i else -1
def theM (T : TD) (S : LfS) (i : Int32) : Nat × Int32 := if inB i.toInt 0 399 then (0, thV T S i.toNatClampNeg) else (1, 0)
theorem theM_1 {T : TD} {S : LfS} {i : Int32} (h : inB i.toInt 0 399 = false) : theM T S i = (1, 0) := by unfold theM; rw [h]; rfl
theorem theM_0 {T : TD} {S : LfS} {i : Nat} (h : i ≤ 399) : theM T S (nI i) = (0, thV T S i) := by unfold theM; rw [inB_nI (by omega) (by omega) (by omega), if_pos rfl, nI_cl (by omega)]
theorem thV_y {T : TD} {S : LfS} {i k : Nat} (hk : k ≤ 20) (h : i < l_n (yrsM T (-1) S k)) : thV T S i = l_g (yrsM T (-1) S k) 0 i := by
  have hp := yrsM_mono T (-1) S hk
  unfold thV; rw [if_pos (Nat.lt_of_lt_of_le h hp.1)]; exact (hp.2 0 (by decide) i h).symm
theorem thV_n {T : TD} {S : LfS} {i : Nat} (h : l_n (yrsM T (-1) S 20) ≤ i) : thV T S i = -1 := if_neg (by omega)
theorem c_X11_then {E : En} {d : Nat} {Q : QT} {X : XT} {g : G2} {t : Nat} (ht : is_town t) (h0 : g 0 2 = nI t) {T : TD} {S : LfS} {i0 : Int32} (hR : RLf g 31 T (-1) S) (hT : RTn g t T) (oT : okT T) (hq : ∀ h, FC g h → (theM T S i0).1 = 0 → Q (some (.int (theM T S i0).2)) h) (hx : ∀ h, FC g h → (theM T S i0).1 = 1 → X iaN h) : M E md_X11_then (d + 6) [.ref 0, .int i0] g Q X := by
  refine M.of _ rfl rfl (Nat.le_of_ble_eq_true rfl) ?_
  have ht5 : t = 5 ∨ t = 18 := ht
  refine b_iload_n dX11_then_0 rfl rfl ?_
  refine b_if_lt (tgt := 11) dX11_then_1 (by decide) (fun h1 => ?_) (fun h1 => ?_)
  · have hx := hx g (FC.rf g) (by rw [theM_1 (in_lt h1)])
    refine b_throw (text := "no such place") (n := 34) rfl th_iae (by decide +kernel) (by omega) (by decide) (by decide) dX11_then_11 dX11_then_14 dX11_then_15 dX11_then_17 dX11_then_20 ?_
    exact hx
  · refine b_iload_n dX11_then_4 rfl rfl ?_
    refine b_sipush (v := 400) dX11_then_5 (by decide +kernel) ?_
    refine b_icmp_lt (tgt := 21) dX11_then_8 (by decide) (fun h8 => ?_) (fun h8 => ?_)
    · obtain ⟨i, _, hi, rfl⟩ := inB_ex (a := 0) (b := 399) (in_ok (m := 399) rfl h1 (lt_le (n := 399) (by decide) (by decide) h8))
      rw [theM_0 hi] at hq
      refine b_aload_n dX11_then_21 rfl rfl ?_
      refine b_getR (b := 41) lf_X11_62 rfl rfl dX11_then_22 ?_
      refine b_aload_n dX11_then_25 rfl rfl ?_
      refine b_getR (b := 31) lf_X11_33 rfl rfl dX11_then_26 ?_
      refine b_callV (As := [_]) (st := []) dX11_then_29 lk_X11_305 lm_X5_copyTune lv_X5_copyTune (life_c is_life41) (by decide) rfl rfl rfl (Nat.le_of_ble_eq_true rfl) (Nat.le_refl _) (by decide) ?_
      refine c_X5_copyTune is_life41 is_life31 (by decide) hR.n hR.le (fun h1 F1 t1 t2 t3 => ?_)
      have U1 : FU t g h1 := FU.ct F1
      have tu := TU.ct hR t1 t2 t3
      refine b_aload_n dX11_then_32 rfl rfl ?_
      refine b_getR (b := 41) lf_X11_62 rfl rfl dX11_then_33 ?_
      refine b_aload_n dX11_then_36 rfl rfl ?_
      refine b_getR (b := 31) lf_X11_33 rfl rfl dX11_then_37 ?_
      refine b_callV (As := [_]) (st := []) dX11_then_40 lk_X11_309 lm_X5_copyRest lv_X5_copyRest (life_c is_life41) (by decide) rfl rfl rfl (Nat.le_of_ble_eq_true rfl) (Nat.le_refl _) (by decide) ?_
      refine c_X5_copyRest (T := T) (sp := -1) (S := S) is_life41 is_life31 (by decide) hT.le (U1.lf ht hR) tu.1 tu.2.1 tu.2.2 (fun h2 F2 hR2 => ?_)
      have U2 := U1.tr (FU.cr F2)
      refine b_aload_n dX11_then_43 rfl rfl ?_
      refine b_getR (b := 41) lf_X11_62 rfl rfl dX11_then_44 ?_
      refine b_aload_n dX11_then_47 rfl rfl ?_
      refine b_getD lf_X11_26 rfl (by rw [U2 0 (by decide) (by omega)]; exact h0) (town_31 ht) dX11_then_48 ?_
      refine b_iload_n dX11_then_51 rfl rfl ?_
      refine b_callV (As := [_, _]) (st := []) dX11_then_52 lk_X11_312 lm_X5_passYearsTo lv_X5_passYearsTo (life_c is_life41) (by decide) rfl rfl rfl (Nat.le_of_ble_eq_true rfl) (Nat.le_refl _) (by decide) ?_
      refine c_X5_passYearsTo is_life41 ht hR2 (U2.tn ht hT) (wfT_of oT) (by omega) (fun h3 k F3 hR3 k1 k2 k3 => ?_)
      have U3 := U2.tr (FU.py F3)
      have h400 := hR3.le
      refine b_iload_n dX11_then_55 rfl rfl ?_
      refine b_aload_n dX11_then_56 rfl rfl ?_
      refine b_getR (b := 41) lf_X11_62 rfl rfl dX11_then_57 ?_
      refine b_getI lf_X11_140 (life_c is_life41) dX11_then_60 ?_
      refine b_topE (y := nI (l_n (yrsM T (-1) S k))) (hR3.n) ?_
      refine b_icmp_ge (tgt := 78) dX11_then_63 (by decide) (fun h63 => ?_) (fun h63 => ?_)
      · have e63 : (l_n (yrsM T (-1) S k)) ≤ i := nn_le (a := (l_n (yrsM T (-1) S k))) (b := i) (by omega) (by omega) h63
        refine b_iconst (v := (-1)) dX11_then_78 (by decide +kernel) ?_
        refine b_iret rfl (by decide) dX11_then_79 ?_
        have hq := hq h3 (U3.fc ht) rfl
        have k9 : k = 20 := by omega
        subst k9
        rw [thV_n e63] at hq
        exact hq
      · have e63 : i < (l_n (yrsM T (-1) S k)) := nn_nle (a := (l_n (yrsM T (-1) S k))) (b := i) (by omega) (by omega) h63
        refine b_aload_n dX11_then_66 rfl rfl ?_
        refine b_getR (b := 41) lf_X11_62 rfl rfl dX11_then_67 ?_
        refine b_getR (b := 42) lf_X11_215 (life_c is_life41) (life_r0 is_life41) dX11_then_70 ?_
        refine b_iload_n dX11_then_73 rfl rfl ?_
        refine b_ildN (j := i) dX11_then_74 (rfl) (by rw [(life_n1 is_life41)]; omega) ?_
        refine b_goto (tgt := 79) dX11_then_75 (by decide) ?_
        refine b_iret rfl (by decide) dX11_then_79 ?_
        have hq := hq h3 (U3.fc ht) rfl
        rw [thV_y k1 e63, ← hR3.sg i e63] at hq
        exact hq
    · have hx := hx g (FC.rf g) (by rw [theM_1 (in_gt (m := 399) rfl (ge_nle (n := 399) (by decide) (by decide) (Int32.not_lt.mp h8)))])
      refine b_throw (text := "no such place") (n := 34) rfl th_iae (by decide +kernel) (by omega) (by decide) (by decide) dX11_then_11 dX11_then_14 dX11_then_15 dX11_then_17 dX11_then_20 ?_
      exact hx
theorem c_X12_then {E : En} {d : Nat} {Q : QT} {X : XT} {g : G2} {T : TD} {S : LfS} {i0 : Int32} (hR : RMl g T S) (hT : RMt g T) (hsp : g 84 44 = -1) (oT : okT T) (oL : okL T S) (hq : ∀ h, FD g h → RMl h T S → h 84 2 = nI (theM T S i0).1 → Q (some (.int (theM T S i0).2)) h) : M E md_X12_then (d + 5) [.ref 84, .int i0] g Q X := by
  refine M.of _ rfl rfl (Nat.le_of_ble_eq_true rfl) ?_
  refine b_aload_n dX12_then_0 rfl rfl ?_
  refine b_iconst (v := 0) dX12_then_1 (by decide +kernel) ?_
  refine b_putI lf_X12_165 lp_12_2 rfl dX12_then_2 ?_
  have F1 : FD g (up2 g 84 2 0) := FD.code 0
  have c1 : up2 g 84 2 0 84 2 = 0 := up2_s _ _ _ _
  have hR := hR.code (x := 0)
  have hT := hT.code (x := 0)
  generalize up2 g 84 2 0 = g1 at F1 c1 hR hT ⊢
  have hsp : g1 84 44 = -1 := by rw [F1.2 44 (by decide)]; exact hsp
  refine b_iload_n dX12_then_5 rfl rfl ?_
  refine b_i2l dX12_then_6 rfl ?_
  refine b_lconst (v := 0) dX12_then_7 (by decide +kernel) ?_
  refine b_ldc2 lx_X12_465 dX12_then_8 ?_
  refine b_callS (As := [_, _, _]) (st := []) dX12_then_11 lk_X12_168 lm_X12_isIn ls_X12_isIn rfl rfl (Nat.le_of_ble_eq_true rfl) (Nat.le_refl _) (by decide) ?_
  refine c_X12_isIn ?_
  rw [in_64b (a' := 0) (b' := 399) (by decide) (by decide)]
  refine b_if_ne (tgt := 23) dX12_then_14 (by decide) (fun h14 => ?_) (fun h14 => ?_)
  · have e14 := b2i_1 h14
    obtain ⟨i, _, hi, rfl⟩ := inB_ex (a := 0) (b := 399) e14
    refine b_aload_n dX12_then_23 rfl rfl ?_
    refine b_aload_n dX12_then_24 rfl rfl ?_
    refine b_getR (b := 112) lf_X12_120 rfl rfl dX12_then_25 ?_
    refine b_iconst (v := 0) dX12_then_28 (by decide +kernel) ?_
    refine b_callV (As := [_, _]) (st := []) dX12_then_29 lk_X12_387 lm_X12_pack lv_X12_pack rfl (by decide) rfl rfl rfl (Nat.le_of_ble_eq_true rfl) (Nat.le_refl _) (by decide) ?_
    refine c_X12_pack (z := 112) (n := 35) (f := 0) rfl (by decide) (by decide) (by decide) (fun h1 pF _ pk => ?_)
    have D1 := F1.tr (FD.ofZ (z := 112) (by decide) pF)
    have rk := RPk.of hT.le hR pk
    have hR1 := hR.ofZ (by decide) pF
    have c1 : h1 84 2 = 0 := by rw [pF 84 (by decide)]; exact c1
    have sp1 : h1 84 44 = -1 := by rw [pF 84 (by decide)]; exact hsp
    have hT1 := hT.fd (FD.ofZ (z := 112) (by decide) pF)
    have h4 := hR.le
    have EN : ∀ k, k ≤ 20 → ∀ h, RMl h T (yrsM T (-1) S k) → FM h1 h → (k = 20 ∨ i < l_n (yrsM T (-1) S k)) → B E md_X12_then (d + 5) Q X 58 [(0, .ref 84), (1, .int (nI i)), (2, .int (nI k))] [] h 0 := by
      intro k hk h hR2 fm hor
      have h5 := hR2.le
      refine b_iload_n dX12_then_58 rfl rfl ?_
      refine b_aload_n dX12_then_59 rfl rfl ?_
      refine b_getI lf_X12_320 rfl dX12_then_60 ?_
      refine b_topE (y := nI (l_n (yrsM T (-1) S k))) (hR2.n) ?_
      refine b_icmp_ge (tgt := 75) dX12_then_63 (by decide) (fun h63 => ?_) (fun h63 => ?_)
      · have e63 : (l_n (yrsM T (-1) S k)) ≤ i := nn_le (a := (l_n (yrsM T (-1) S k))) (b := i) (by omega) (by omega) h63
        refine b_iconst (v := (-1)) dX12_then_75 (by decide +kernel) ?_
        refine b_istore_n (lv' := [(0, _), (1, _), (2, _)]) dX12_then_76 rfl (by decide) rfl rfl ?_
        refine b_aload_n dX12_then_77 rfl rfl ?_
        refine b_aload_n dX12_then_78 rfl rfl ?_
        refine b_getR (b := 112) lf_X12_120 rfl rfl dX12_then_79 ?_
        refine b_iconst (v := 0) dX12_then_82 (by decide +kernel) ?_
        refine b_callV (As := [_, _]) (st := []) dX12_then_83 lk_X12_416 lm_X12_unpack lv_X12_unpack rfl (by decide) rfl rfl rfl (Nat.le_of_ble_eq_true rfl) (Nat.le_refl _) (by decide) ?_
        refine c_X12_unpack (z := 112) (n := 35) (f := 0) rfl (by decide) (by decide) (by decide) (fun h3 uF u84 uk => ?_)
        have hR3 := RMl.back hT.le oL.1 oL.2.2.2.2 (by rw [fm.1 112 (by decide) (by decide) (by decide) (by decide) (by decide) (by decide)]; exact rk) hR2 (yrsM_pre T (-1) S _) uF uk
        have D3 := (D1.tr fm.fd).tr (FD.unp uF u84)
        refine b_iload_n dX12_then_86 rfl rfl ?_
        refine b_iret rfl (by decide) dX12_then_87 ?_
        have hq := hq h3 D3 hR3 (by rw [theM_0 hi, u84 2 (by decide), fm.2 2 (by decide) (by decide)]; exact c1)
        rw [theM_0 hi] at hq
        have k9 : k = 20 := by omega
        subst k9
        rw [thV_n e63] at hq
        exact hq
      · have e63 : i < (l_n (yrsM T (-1) S k)) := nn_nle (a := (l_n (yrsM T (-1) S k))) (b := i) (by omega) (by omega) h63
        refine b_aload_n dX12_then_66 rfl rfl ?_
        refine b_getR (b := 104) lf_X12_93 rfl rfl dX12_then_67 ?_
        refine b_iload_n dX12_then_70 rfl rfl ?_
        refine b_ildN (j := i) dX12_then_71 (rfl) (by show _ < 400; omega) ?_
        refine b_goto (tgt := 76) dX12_then_72 (by decide) ?_
        refine b_istore_n (lv' := [(0, _), (1, _), (2, _)]) dX12_then_76 rfl (by decide) rfl rfl ?_
        refine b_aload_n dX12_then_77 rfl rfl ?_
        refine b_aload_n dX12_then_78 rfl rfl ?_
        refine b_getR (b := 112) lf_X12_120 rfl rfl dX12_then_79 ?_
        refine b_iconst (v := 0) dX12_then_82 (by decide +kernel) ?_
        refine b_callV (As := [_, _]) (st := []) dX12_then_83 lk_X12_416 lm_X12_unpack lv_X12_unpack rfl (by decide) rfl rfl rfl (Nat.le_of_ble_eq_true rfl) (Nat.le_refl _) (by decide) ?_
        refine c_X12_unpack (z := 112) (n := 35) (f := 0) rfl (by decide) (by decide) (by decide) (fun h3 uF u84 uk => ?_)
        have hR3 := RMl.back hT.le oL.1 oL.2.2.2.2 (by rw [fm.1 112 (by decide) (by decide) (by decide) (by decide) (by decide) (by decide)]; exact rk) hR2 (yrsM_pre T (-1) S _) uF uk
        have D3 := (D1.tr fm.fd).tr (FD.unp uF u84)
        refine b_iload_n dX12_then_86 rfl rfl ?_
        refine b_iret rfl (by decide) dX12_then_87 ?_
        have hq := hq h3 D3 hR3 (by rw [theM_0 hi, u84 2 (by decide), fm.2 2 (by decide) (by decide)]; exact c1)
        rw [theM_0 hi] at hq
        rw [thV_y hk e63] at hq
        rw [hR2.sg i e63]
        exact hq
    have LP : ∀ k, k ≤ 20 → ∀ h, RMl h T (yrsM T (-1) S k) → FM h1 h → (∀ j, j < k → l_n (yrsM T (-1) S j) ≤ i) → B E md_X12_then (d + 5) Q X 34 [(0, .ref 84), (1, .int (nI i)), (2, .int (nI k))] [] h 0 := by
      refine lp_up (fun k hk ih h hR2 fm hlt => ?_)
      have h5 := hR2.le
      refine b_iload_n dX12_then_34 rfl rfl ?_
      refine b_bipush (v := 20) dX12_then_35 (by decide +kernel) ?_
      refine b_icmp_ge (tgt := 58) dX12_then_37 (by decide) (fun h37 => ?_) (fun h37 => ?_)
      · have e37 : 20 ≤ k := nn_le (a := 20) (b := k) (by omega) (by omega) h37
        exact EN k hk h hR2 fm (Or.inl (by omega))
      · have e37 : k < 20 := nn_nle (a := 20) (b := k) (by omega) (by omega) h37
        refine b_aload_n dX12_then_40 rfl rfl ?_
        refine b_getI lf_X12_320 rfl dX12_then_41 ?_
        refine b_topE (y := nI (l_n (yrsM T (-1) S k))) (hR2.n) ?_
        refine b_iload_n dX12_then_44 rfl rfl ?_
        refine b_icmp_gt (tgt := 58) dX12_then_45 (by decide) (fun h45 => ?_) (fun h45 => ?_)
        · have e45 : i < (l_n (yrsM T (-1) S k)) := nn_lt (a := i) (b := (l_n (yrsM T (-1) S k))) (by omega) (by omega) h45
          exact EN k hk h hR2 fm (Or.inr (by omega))
        · have e45 : (l_n (yrsM T (-1) S k)) ≤ i := nn_nlt (a := i) (b := (l_n (yrsM T (-1) S k))) (by omega) (by omega) h45
          refine b_aload_n dX12_then_48 rfl rfl ?_
          refine b_callV (As := []) (st := []) dX12_then_49 lk_X12_376 lm_X12_aYear lv_X12_aYear rfl (by decide) rfl rfl rfl (Nat.le_of_ble_eq_true rfl) (Nat.le_refl _) (by decide) ?_
          refine c_X12_aYear (sp := -1) (hT1.fd fm.fd) hR2 oT (oL.1.yrs oT k) (by rw [fm.2 44 (by decide) (by decide)]; exact sp1) (fun h2 f2 hR2 => ?_)
          refine b_incN (j := k) (lv' := [(0, _), (1, _), (2, _)]) dX12_then_52 rfl rfl (by decide) rfl rfl ?_
          refine b_goto (tgt := 34) dX12_then_55 (by decide) ?_
          refine ih (k + 1) (by omega) (by omega) h2 hR2 (fm.tr f2) ?_
          intro j hj
          by_cases e : j = k
          · rw [e]; omega
          · exact hlt j (by omega)
    refine b_iconst (v := 0) dX12_then_32 (by decide +kernel) ?_
    refine b_istore_n (lv' := [(0, _), (1, _), (2, _)]) dX12_then_33 rfl (by decide) rfl rfl ?_
    exact LP 0 (Nat.zero_le _) h1 hR1 (FM.rf h1) (fun j hj => absurd hj (by omega))
  · have e14 := b2i_0 h14
    refine b_aload_n dX12_then_17 rfl rfl ?_
    refine b_iconst (v := 1) dX12_then_18 (by decide +kernel) ?_
    refine b_callV (As := [_]) (st := []) dX12_then_19 lk_X12_303 lm_X12_fail lv_X12_fail rfl (by decide) rfl rfl rfl (Nat.le_of_ble_eq_true rfl) (Nat.le_refl _) (by decide) ?_
    refine c_X12_fail ?_
    refine b_iret rfl (by decide) dX12_then_22 ?_
    rw [show theM T S i0 = (1, 0) from theM_1 e14] at hq
    exact hq _ (F1.tr (FD.code 1)) hR.code (up2_s _ _ _ _)
