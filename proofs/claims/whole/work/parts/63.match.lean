theorem wedS_c {S : LfS} {p o c : Nat} (h3 : c ≠ 3) (h4 : c ≠ 4) : l_g (wedS S p o) c = l_g S c := by
  show up2 (up2 (up2 (l_g S) 3 1 (byM (l_g S 3 1 + 7))) 4 o (l_g S 4 p)) 3 4 (l_g S 3 4 ||| (sbI (nI p) ||| sbI (nI o))) c = _
  rw [up2_f _ _ _ _ h3, up2_f _ _ _ _ h4, up2_f _ _ _ _ h3]
theorem wedS_pre (S : LfS) (p o : Nat) : preL S (wedS S p o) := ⟨Nat.le_refl _, fun c hc i _ => by rw [wedS_c (by omega) (by omega)]⟩
theorem okS.wed {T : TD} {S : LfS} {p o : Nat} (k : okS T S) : okS T (wedS S p o) := by
  obtain ⟨a, b, c, e⟩ := k
  refine ⟨a, ?_, ?_, ?_⟩
  · rw [wedS_c (by decide) (by decide)]; exact b
  · rw [wedS_c (by decide) (by decide)]; exact c
  · rw [wedS_c (by decide) (by decide)]; exact e
def mtV (T : TD) (S : LfS) (a b : Nat) : Int32 := likV T (yrsM T (-1) (wedS S a b) 5)
def mtS (T : TD) (S : LfS) (q : Int32 × Int32) (a b : Nat) : Int32 × Int32 := if mmB (l_g S 3 2 ||| l_g S 3 3 ||| l_g S 3 4) (l_g S 4) a b then (if q.2 < mtV T S a b then (nI (10 * a + b), mtV T S a b) else q) else q
def mtI (T : TD) (S : LfS) (q : Int32 × Int32) (a : Nat) : Nat → Int32 × Int32
  | 0 => q
  | b + 1 => mtS T S (mtI T S q a b) a b
def mtO (T : TD) (S : LfS) : Nat → Int32 × Int32
  | 0 => (-1, likV T (yrsM T (-1) S 5))
  | a + 1 => mtI T S (mtO T S a) a (t_n T)
theorem mtS_n {T : TD} {S : LfS} {q : Int32 × Int32} {a b : Nat} (h : mmB (l_g S 3 2 ||| l_g S 3 3 ||| l_g S 3 4) (l_g S 4) a b = false) : mtS T S q a b = q := by unfold mtS; rw [h]; rfl
theorem mtS_y {T : TD} {S : LfS} {q : Int32 × Int32} {a b : Nat} (h : mmB (l_g S 3 2 ||| l_g S 3 3 ||| l_g S 3 4) (l_g S 4) a b = true) (h2 : q.2 < mtV T S a b) : mtS T S q a b = (nI (10 * a + b), mtV T S a b) := by unfold mtS; rw [h, if_pos rfl, if_pos h2]
theorem mtS_k {T : TD} {S : LfS} {q : Int32 × Int32} {a b : Nat} (h : mmB (l_g S 3 2 ||| l_g S 3 3 ||| l_g S 3 4) (l_g S 4) a b = true) (h2 : ¬ q.2 < mtV T S a b) : mtS T S q a b = q := by unfold mtS; rw [h, if_pos rfl, if_neg h2]
def FV (t : Nat) (g h : G2) : Prop := ∀ y, ¬ (41 ≤ y ∧ y ≤ 50) → y ≠ t + 12 → y ≠ 75 → h y = g y
theorem FV.tr {t : Nat} {g h k : G2} (h1 : FV t g h) (h2 : FV t h k) : FV t g k := fun y a b c => (h2 y a b c).trans (h1 y a b c)
theorem FU.fv {t : Nat} {g h : G2} (h1 : FU t g h) : FV t g h := fun y a b _ => h1 y a b
def KR (T : TD) (S : LfS) (g : G2) : Prop := ∀ j, j ≤ t_on T → g 76 j = lkM (l_g S 0) (t_g T 4) (l_n S) j
theorem c_X11_likeIf0 {E : En} {d : Nat} {Q : QT} {X : XT} {g : G2} {t : Nat} (ht : is_town t) (h0 : g 0 2 = nI t) {T : TD} {S : LfS} (hR : RLf g 31 T (-1) S) (hT : RTn g t T) (oT : okT T) (tu : TU g S) (kr : KR T S g) (hq : ∀ h, FV t g h → TU h S → Q (some (.int (likV T (yrsM T (-1) S 5)))) h) : M E md_X11_likeIfMarried (d + 5) [.ref 0, .int (-1), .int (-1)] g Q X := by
  refine M.of _ rfl rfl (Nat.le_of_ble_eq_true rfl) ?_
  have ht5 : t = 5 ∨ t = 18 := ht
  have h4 := hR.le
  have h8 := hT.le
  have LP : ∀ i, i ≤ 5 → ∀ h, RLf h 41 T (-1) (yrsM T (-1) S i) → FU t g h → B E md_X11_likeIfMarried (d + 5) Q X 38 [(0, .ref 0), (1, .int (-1)), (2, .int (-1)), (3, .int (nI i))] [] h 0 := by
    refine lp_up (fun i hi ih h hR3 U3 => ?_)
    have h5 := hR3.le
    have hpr : preL S (yrsM T (-1) S i) := (yrsM_pre T (-1) S i)
    refine b_iload_n dX11_likeIfMarried_38 rfl rfl ?_
    refine b_iconst (v := 5) dX11_likeIfMarried_39 (by decide +kernel) ?_
    refine b_icmp_ge (tgt := 60) dX11_likeIfMarried_40 (by decide) (fun h40 => ?_) (fun h40 => ?_)
    · have e40 : 5 ≤ i := nn_le (a := 5) (b := i) (by omega) (by omega) h40
      have e : i = 5 := by omega
      subst e
      refine b_aload_n dX11_likeIfMarried_60 rfl rfl ?_
      refine b_getR (b := 74) lf_X11_68 rfl rfl dX11_likeIfMarried_61 ?_
      refine b_aload_n dX11_likeIfMarried_64 rfl rfl ?_
      refine b_getD lf_X11_26 rfl (by rw [U3 0 (by decide) (by omega)]; exact h0) (town_31 ht) dX11_likeIfMarried_65 ?_
      refine b_aload_n dX11_likeIfMarried_68 rfl rfl ?_
      refine b_getR (b := 41) lf_X11_62 rfl rfl dX11_likeIfMarried_69 ?_
      refine b_aload_n dX11_likeIfMarried_72 rfl rfl ?_
      refine b_getR (b := 31) lf_X11_33 rfl rfl dX11_likeIfMarried_73 ?_
      refine b_getI lf_X11_140 (life_c is_life31) dX11_likeIfMarried_76 ?_
      refine b_topE (y := nI (l_n S)) ((U3.lf ht hR).n) ?_
      refine b_callV (As := [_, _, _]) (st := []) dX11_likeIfMarried_79 lk_X11_332 lm_X6_further lv_X6_further rfl (by decide) rfl rfl rfl (Nat.le_of_ble_eq_true rfl) (Nat.le_refl _) (by decide) ?_
      refine c_X6_further (s := l_n S) ht is_life41 hR3.n hR3.le (U3.tn ht hT).on (U3.tn ht hT).ole hpr.1 (fun j hj => ?_) (fun h4 F5 => ?_)
      · rw [U3 76 (by decide) (by omega), kr j hj]
        exact (lkM_cg (fun i hi => (hR3.tu hpr).1 i hi) (fun i hi => (U3.tn ht hT).ot i hi) _ (Nat.le_refl _) _ hj).symm
      have ev : lkM (h (41 + 1)) (h (t + 9)) (l_n (yrsM T (-1) S 5)) (t_on T) = likV T (yrsM T (-1) S 5) := lkM_cg hR3.sg (U3.tn ht hT).ot _ (Nat.le_refl _) _ (Nat.le_refl _)
      rw [ev]
      refine b_iret rfl (by decide) dX11_likeIfMarried_82 ?_
      exact hq h4 (U3.fv.tr (fun y _ _ y3 => F5 y y3)) (RLf.tu (hR3.cg (fun k hk => F5 _ (by omega))) hpr)
    · have e40 : i < 5 := nn_nle (a := 5) (b := i) (by omega) (by omega) h40
      refine b_aload_n dX11_likeIfMarried_43 rfl rfl ?_
      refine b_getR (b := 41) lf_X11_62 rfl rfl dX11_likeIfMarried_44 ?_
      refine b_aload_n dX11_likeIfMarried_47 rfl rfl ?_
      refine b_getD lf_X11_26 rfl (by rw [U3 0 (by decide) (by omega)]; exact h0) (town_31 ht) dX11_likeIfMarried_48 ?_
      refine b_callV (As := [_]) (st := []) dX11_likeIfMarried_51 lk_X11_234 lm_X5_passYear lv_X5_passYear (life_c is_life41) (by decide) rfl rfl rfl (Nat.le_of_ble_eq_true rfl) (Nat.le_refl _) (by decide) ?_
      refine c_X5_passYear is_life41 ht hR3 (U3.tn ht hT) (wfT_of oT) (fun h3 F4 hR4 => ?_)
      refine b_incN (j := i) (lv' := [(0, _), (1, _), (2, _), (3, _)]) dX11_likeIfMarried_54 rfl rfl (by decide) rfl rfl ?_
      refine b_goto (tgt := 38) dX11_likeIfMarried_57 (by decide) ?_
      exact ih (i + 1) (by omega) (by omega) h3 hR4 (U3.tr (FU.py F4))
  refine b_aload_n dX11_likeIfMarried_0 rfl rfl ?_
  refine b_getR (b := 41) lf_X11_62 rfl rfl dX11_likeIfMarried_1 ?_
  refine b_aload_n dX11_likeIfMarried_4 rfl rfl ?_
  refine b_getR (b := 31) lf_X11_33 rfl rfl dX11_likeIfMarried_5 ?_
  refine b_callV (As := [_]) (st := []) dX11_likeIfMarried_8 lk_X11_309 lm_X5_copyRest lv_X5_copyRest (life_c is_life41) (by decide) rfl rfl rfl (Nat.le_of_ble_eq_true rfl) (Nat.le_refl _) (by decide) ?_
  refine c_X5_copyRest (T := T) (sp := -1) (S := S) is_life41 is_life31 (by decide) hT.le hR tu.1 tu.2.1 tu.2.2 (fun h2 F2 hR2 => ?_)
  have U2 : FU t g h2 := FU.cr F2
  refine b_aload_n dX11_likeIfMarried_11 rfl rfl ?_
  refine b_iload_n dX11_likeIfMarried_12 rfl rfl ?_
  refine b_callV (As := [_]) (st := []) dX11_likeIfMarried_13 lk_X11_190 lm_X11_isPerson lv_X11_isPerson rfl (by decide) rfl rfl rfl (Nat.le_of_ble_eq_true rfl) (Nat.le_refl _) (by decide) ?_
  refine c_X11_isPerson ht (by rw [U2 0 (by decide) (by omega)]; exact h0) (U2.tn ht hT).n hT.le ?_
  refine b_if_eq (tgt := 36) dX11_likeIfMarried_16 (by decide) (fun h16 => ?_) (fun h16 => ?_)
  · have e16 := b2i_0 h16
    refine b_iconst (v := 0) dX11_likeIfMarried_36 (by decide +kernel) ?_
    refine b_istore_n (lv' := [(0, _), (1, _), (2, _), (3, _)]) dX11_likeIfMarried_37 rfl (by decide) rfl rfl ?_
    exact LP 0 (Nat.zero_le _) h2 hR2 U2
  · have e16 := b2i_1 h16
    exact absurd e16 (by rw [in_lt (by decide)]; decide)
theorem c_X11_likeIf1 {E : En} {d : Nat} {Q : QT} {X : XT} {g : G2} {t : Nat} (ht : is_town t) (h0 : g 0 2 = nI t) {T : TD} {S : LfS} (hR : RLf g 31 T (-1) S) (hT : RTn g t T) (oT : okT T) (tu : TU g S) (kr : KR T S g) {a b : Nat} (ha : a < t_n T) (hb : b < t_n T) (hk : ∃ k, k < 12 ∧ l_g S 3 1 = nI k) (hq : ∀ h, FV t g h → TU h S → Q (some (.int (mtV T S a b))) h) : M E md_X11_likeIfMarried (d + 5) [.ref 0, .int (nI a), .int (nI b)] g Q X := by
  refine M.of _ rfl rfl (Nat.le_of_ble_eq_true rfl) ?_
  have ht5 : t = 5 ∨ t = 18 := ht
  have h4 := hR.le
  have h8 := hT.le
  have LP : ∀ i, i ≤ 5 → ∀ h, RLf h 41 T (-1) (yrsM T (-1) (wedS S a b) i) → FU t g h → B E md_X11_likeIfMarried (d + 5) Q X 38 [(0, .ref 0), (1, .int (nI a)), (2, .int (nI b)), (3, .int (nI i))] [] h 0 := by
    refine lp_up (fun i hi ih h hR3 U3 => ?_)
    have h5 := hR3.le
    have hpr : preL S (yrsM T (-1) (wedS S a b) i) := (wedS_pre S a b).tr (yrsM_pre T (-1) (wedS S a b) i)
    refine b_iload_n dX11_likeIfMarried_38 rfl rfl ?_
    refine b_iconst (v := 5) dX11_likeIfMarried_39 (by decide +kernel) ?_
    refine b_icmp_ge (tgt := 60) dX11_likeIfMarried_40 (by decide) (fun h40 => ?_) (fun h40 => ?_)
    · have e40 : 5 ≤ i := nn_le (a := 5) (b := i) (by omega) (by omega) h40
      have e : i = 5 := by omega
      subst e
      refine b_aload_n dX11_likeIfMarried_60 rfl rfl ?_
      refine b_getR (b := 74) lf_X11_68 rfl rfl dX11_likeIfMarried_61 ?_
      refine b_aload_n dX11_likeIfMarried_64 rfl rfl ?_
      refine b_getD lf_X11_26 rfl (by rw [U3 0 (by decide) (by omega)]; exact h0) (town_31 ht) dX11_likeIfMarried_65 ?_
      refine b_aload_n dX11_likeIfMarried_68 rfl rfl ?_
      refine b_getR (b := 41) lf_X11_62 rfl rfl dX11_likeIfMarried_69 ?_
      refine b_aload_n dX11_likeIfMarried_72 rfl rfl ?_
      refine b_getR (b := 31) lf_X11_33 rfl rfl dX11_likeIfMarried_73 ?_
      refine b_getI lf_X11_140 (life_c is_life31) dX11_likeIfMarried_76 ?_
      refine b_topE (y := nI (l_n S)) ((U3.lf ht hR).n) ?_
      refine b_callV (As := [_, _, _]) (st := []) dX11_likeIfMarried_79 lk_X11_332 lm_X6_further lv_X6_further rfl (by decide) rfl rfl rfl (Nat.le_of_ble_eq_true rfl) (Nat.le_refl _) (by decide) ?_
      refine c_X6_further (s := l_n S) ht is_life41 hR3.n hR3.le (U3.tn ht hT).on (U3.tn ht hT).ole hpr.1 (fun j hj => ?_) (fun h4 F5 => ?_)
      · rw [U3 76 (by decide) (by omega), kr j hj]
        exact (lkM_cg (fun i hi => (hR3.tu hpr).1 i hi) (fun i hi => (U3.tn ht hT).ot i hi) _ (Nat.le_refl _) _ hj).symm
      have ev : lkM (h (41 + 1)) (h (t + 9)) (l_n (yrsM T (-1) (wedS S a b) 5)) (t_on T) = likV T (yrsM T (-1) (wedS S a b) 5) := lkM_cg hR3.sg (U3.tn ht hT).ot _ (Nat.le_refl _) _ (Nat.le_refl _)
      rw [ev]
      refine b_iret rfl (by decide) dX11_likeIfMarried_82 ?_
      exact hq h4 (U3.fv.tr (fun y _ _ y3 => F5 y y3)) (RLf.tu (hR3.cg (fun k hk => F5 _ (by omega))) hpr)
    · have e40 : i < 5 := nn_nle (a := 5) (b := i) (by omega) (by omega) h40
      refine b_aload_n dX11_likeIfMarried_43 rfl rfl ?_
      refine b_getR (b := 41) lf_X11_62 rfl rfl dX11_likeIfMarried_44 ?_
      refine b_aload_n dX11_likeIfMarried_47 rfl rfl ?_
      refine b_getD lf_X11_26 rfl (by rw [U3 0 (by decide) (by omega)]; exact h0) (town_31 ht) dX11_likeIfMarried_48 ?_
      refine b_callV (As := [_]) (st := []) dX11_likeIfMarried_51 lk_X11_234 lm_X5_passYear lv_X5_passYear (life_c is_life41) (by decide) rfl rfl rfl (Nat.le_of_ble_eq_true rfl) (Nat.le_refl _) (by decide) ?_
      refine c_X5_passYear is_life41 ht hR3 (U3.tn ht hT) (wfT_of oT) (fun h3 F4 hR4 => ?_)
      refine b_incN (j := i) (lv' := [(0, _), (1, _), (2, _), (3, _)]) dX11_likeIfMarried_54 rfl rfl (by decide) rfl rfl ?_
      refine b_goto (tgt := 38) dX11_likeIfMarried_57 (by decide) ?_
      exact ih (i + 1) (by omega) (by omega) h3 hR4 (U3.tr (FU.py F4))
  refine b_aload_n dX11_likeIfMarried_0 rfl rfl ?_
  refine b_getR (b := 41) lf_X11_62 rfl rfl dX11_likeIfMarried_1 ?_
  refine b_aload_n dX11_likeIfMarried_4 rfl rfl ?_
  refine b_getR (b := 31) lf_X11_33 rfl rfl dX11_likeIfMarried_5 ?_
  refine b_callV (As := [_]) (st := []) dX11_likeIfMarried_8 lk_X11_309 lm_X5_copyRest lv_X5_copyRest (life_c is_life41) (by decide) rfl rfl rfl (Nat.le_of_ble_eq_true rfl) (Nat.le_refl _) (by decide) ?_
  refine c_X5_copyRest (T := T) (sp := -1) (S := S) is_life41 is_life31 (by decide) hT.le hR tu.1 tu.2.1 tu.2.2 (fun h2 F2 hR2 => ?_)
  have U2 : FU t g h2 := FU.cr F2
  refine b_aload_n dX11_likeIfMarried_11 rfl rfl ?_
  refine b_iload_n dX11_likeIfMarried_12 rfl rfl ?_
  refine b_callV (As := [_]) (st := []) dX11_likeIfMarried_13 lk_X11_190 lm_X11_isPerson lv_X11_isPerson rfl (by decide) rfl rfl rfl (Nat.le_of_ble_eq_true rfl) (Nat.le_refl _) (by decide) ?_
  refine c_X11_isPerson ht (by rw [U2 0 (by decide) (by omega)]; exact h0) (U2.tn ht hT).n hT.le ?_
  rw [in_nI ha (by omega)]
  refine b_if_eq (tgt := 36) dX11_likeIfMarried_16 (by decide) (fun h16 => ?_) (fun h16 => ?_)
  · have e16 := b2i_0 h16
    exact absurd e16 (by decide)
  · have e16 := b2i_1 h16
    refine b_aload_n dX11_likeIfMarried_19 rfl rfl ?_
    refine b_iload_n dX11_likeIfMarried_20 rfl rfl ?_
    refine b_callV (As := [_]) (st := []) dX11_likeIfMarried_21 lk_X11_190 lm_X11_isPerson lv_X11_isPerson rfl (by decide) rfl rfl rfl (Nat.le_of_ble_eq_true rfl) (Nat.le_refl _) (by decide) ?_
    refine c_X11_isPerson ht (by rw [U2 0 (by decide) (by omega)]; exact h0) (U2.tn ht hT).n hT.le ?_
    rw [in_nI hb (by omega)]
    refine b_if_eq (tgt := 36) dX11_likeIfMarried_24 (by decide) (fun h24 => ?_) (fun h24 => ?_)
    · have e24 := b2i_0 h24
      exact absurd e24 (by decide)
    · have e24 := b2i_1 h24
      refine b_aload_n dX11_likeIfMarried_27 rfl rfl ?_
      refine b_getR (b := 41) lf_X11_62 rfl rfl dX11_likeIfMarried_28 ?_
      refine b_iload_n dX11_likeIfMarried_31 rfl rfl ?_
      refine b_iload_n dX11_likeIfMarried_32 rfl rfl ?_
      refine b_callV (As := [_, _]) (st := []) dX11_likeIfMarried_33 lk_X11_244 lm_X5_wed lv_X5_wed (life_c is_life41) (by decide) rfl rfl rfl (Nat.le_of_ble_eq_true rfl) (Nat.le_refl _) (by decide) ?_
      refine c_X5_wed is_life41 (by omega) (by omega) (fun g3 wF w1 w5 w8 w4 w4o => ?_)
      have hR3 : RLf g3 41 T (-1) (wedS S a b) := hR2.wed ha hk wF w1 w5 w8 w4 w4o
      have U3 : FU t g g3 := U2.tr (fun y y1 _ => wF y (by simp; omega))
      refine b_iconst (v := 0) dX11_likeIfMarried_36 (by decide +kernel) ?_
      refine b_istore_n (lv' := [(0, _), (1, _), (2, _), (3, _)]) dX11_likeIfMarried_37 rfl (by decide) rfl rfl ?_
      exact LP 0 (Nat.zero_le _) g3 hR3 U3
/-- what a match leaves -/
def FW (t : Nat) (g h : G2) : Prop := ∀ y, ¬ (41 ≤ y ∧ y ≤ 50) → y ≠ t + 12 → y ≠ 75 → y ≠ 76 → h y = g y
theorem FW.fc {t : Nat} {g h : G2} (ht : is_town t) (h1 : FW t g h) : FC g h := fun y hy => h1 y (by unfold scC at hy; omega) (by unfold scC at hy; unfold is_town at ht; omega) (by unfold scC at hy; omega) (by unfold scC at hy; omega)
theorem FW.tn {t : Nat} {g h : G2} {T : TD} (ht : is_town t) (h1 : FW t g h) (hT : RTn g t T) : RTn h t T := hT.fa ht (fun y y1 y2 y3 => h1 y (by omega) y3 (by omega) (by omega))
theorem FW.lf {t : Nat} {g h : G2} {T : TD} {sp : Int32} {S : LfS} (ht : is_town t) (h1 : FW t g h) (hR : RLf g 31 T sp S) : RLf h 31 T sp S := hR.cg (fun k hk => h1 _ (by omega) (by unfold is_town at ht; omega) (by omega) (by omega))
theorem FW.tv {t : Nat} {g h k : G2} (h1 : FW t g h) (h2 : FV t h k) : FW t g k := fun y a b c d => (h2 y a b c).trans (h1 y a b c d)
theorem KR.fv {t : Nat} {g h : G2} {T : TD} {S : LfS} (ht : is_town t) (hk : KR T S g) (f : FV t g h) : KR T S h := fun j hj => by rw [f 76 (by decide) (by unfold is_town at ht; omega) (by decide)]; exact hk j hj
theorem c_X11_match {E : En} {d : Nat} {Q : QT} {X : XT} {g : G2} {t : Nat} (ht : is_town t) (h0 : g 0 2 = nI t) {T : TD} {S : LfS} (hR : RLf g 31 T (-1) S) (hT : RTn g t T) (oT : okT T) (hk : ∃ k, k < 12 ∧ l_g S 3 1 = nI k) (hq : ∀ h, FC g h → Q (some (.int (mtO T S (t_n T)).1)) h) : M E md_X11_match (d + 6) [.ref 0] g Q X := by
  refine M.of _ rfl rfl (Nat.le_of_ble_eq_true rfl) ?_
  have ht5 : t = 5 ∨ t = 18 := ht
  have h8 := hT.le
  have LO : ∀ a, a ≤ t_n T → ∀ h, FW t g h → TU h S → KR T S h → B E md_X11_match (d + 6) Q X 37 [(0, .ref 0), (1, .int (mtO T S a).1), (2, .int (mtO T S a).2), (3, .int (nI a))] [] h 0 := by
    refine lp_up (fun a ha ihO h W1 tu kr => ?_)
    have IN : a < t_n T → ∀ b, b ≤ t_n T → ∀ h, FW t g h → TU h S → KR T S h → B E md_X11_match (d + 6) Q X 51 [(0, .ref 0), (1, .int (mtI T S (mtO T S a) a b).1), (2, .int (mtI T S (mtO T S a) a b).2), (3, .int (nI a)), (4, .int (nI b))] [] h 0 := by
      intro hat
      refine lp_up (fun b hb ih h W1 tu kr => ?_)
      refine b_iload dX11_match_51 rfl ?_
      refine b_aload_n dX11_match_53 rfl rfl ?_
      refine b_getD lf_X11_26 rfl (by rw [W1 0 (by decide) (by omega) (by decide) (by decide)]; exact h0) (town_31 ht) dX11_match_54 ?_
      refine b_getI lf_X11_124 (town_c ht) dX11_match_57 ?_
      refine b_topE (y := nI (t_n T)) ((W1.tn ht hT).n) ?_
      refine b_icmp_ge (tgt := 108) dX11_match_60 (by decide) (fun h60 => ?_) (fun h60 => ?_)
      · have e60 : (t_n T) ≤ b := nn_le (a := (t_n T)) (b := b) (by omega) (by omega) h60
        refine b_incN (j := a) (lv' := [(0, _), (1, _), (2, _), (3, _), (4, _)]) dX11_match_108 rfl rfl (by decide) rfl rfl ?_
        refine b_goto (tgt := 37) dX11_match_111 (by decide) ?_
        refine b_take 4 ?_
        have e : b = t_n T := by omega
        subst e
        exact ihO (a + 1) (by omega) (by omega) h W1 tu kr
      · have e60 : b < (t_n T) := nn_nle (a := (t_n T)) (b := b) (by omega) (by omega) h60
        refine b_aload_n dX11_match_63 rfl rfl ?_
        refine b_getR (b := 31) lf_X11_33 rfl rfl dX11_match_64 ?_
        refine b_iload_n dX11_match_67 rfl rfl ?_
        refine b_iload dX11_match_68 rfl ?_
        refine b_callV (As := [_, _]) (st := []) dX11_match_70 lk_X11_241 lm_X5_mayMarry lv_X5_mayMarry (life_c is_life31) (by decide) rfl rfl rfl (Nat.le_of_ble_eq_true rfl) (Nat.le_refl _) (by decide) ?_
        refine c_X5_mayMarry is_life31 (by omega) (by omega) ?_
        rw [mmB_cg (by rw [(W1.lf ht hR).aw, (W1.lf ht hR).de, (W1.lf ht hR).ma]) ((W1.lf ht hR).ho a (by omega)) ((W1.lf ht hR).ho b (by omega))]
        refine b_if_eq (tgt := 102) dX11_match_73 (by decide) (fun h73 => ?_) (fun h73 => ?_)
        · have e73 := b2i_0 h73
          refine b_incN (j := b) (lv' := [(0, _), (1, _), (2, _), (3, _), (4, _)]) dX11_match_102 rfl rfl (by decide) rfl rfl ?_
          refine b_goto (tgt := 51) dX11_match_105 (by decide) ?_
          have z := ih (b + 1) (by omega) (by omega) h W1 tu kr
          rw [mtI, mtS_n e73] at z
          exact z
        · have e73 := b2i_1 h73
          refine b_aload_n dX11_match_76 rfl rfl ?_
          refine b_iload_n dX11_match_77 rfl rfl ?_
          refine b_iload dX11_match_78 rfl ?_
          refine b_callV (As := [_, _]) (st := []) dX11_match_80 lk_X11_329 lm_X11_likeIfMarried lv_X11_likeIfMarried rfl (by decide) rfl rfl rfl (Nat.le_of_ble_eq_true rfl) (Nat.le_refl _) (by decide) ?_
          refine c_X11_likeIf1 ht (by rw [W1 0 (by decide) (by omega) (by decide) (by decide)]; exact h0) (W1.lf ht hR) (W1.tn ht hT) oT tu kr (by omega) (by omega) hk (fun h5 V5 tu5 => ?_)
          refine b_istore (lv' := [(0, _), (1, _), (2, _), (3, _), (4, _), (5, _)]) dX11_match_83 (by decide) rfl rfl ?_
          refine b_iload dX11_match_85 rfl ?_
          refine b_iload_n dX11_match_87 rfl rfl ?_
          refine b_icmp_le (tgt := 102) dX11_match_88 (by decide) (fun h88 => ?_) (fun h88 => ?_)
          · refine b_incN (j := b) (lv' := [(0, _), (1, _), (2, _), (3, _), (4, _), (5, _)]) dX11_match_102 rfl rfl (by decide) rfl rfl ?_
            refine b_goto (tgt := 51) dX11_match_105 (by decide) ?_
            refine b_take 5 ?_
            have z := ih (b + 1) (by omega) (by omega) h5 (W1.tv V5) tu5 (kr.fv ht V5)
            rw [mtI, mtS_k e73 (Int32.not_lt.mpr h88)] at z
            exact z
          · refine b_iload dX11_match_91 rfl ?_
            refine b_istore_n (lv' := [(0, _), (1, _), (2, _), (3, _), (4, _), (5, _)]) dX11_match_93 rfl (by decide) rfl rfl ?_
            refine b_bipush (v := 10) dX11_match_94 (by decide +kernel) ?_
            refine b_iload_n dX11_match_96 rfl rfl ?_
            refine b_imul dX11_match_97 ?_
            refine b_topE (nI_mul 10 a) ?_
            refine b_iload dX11_match_98 rfl ?_
            refine b_iadd dX11_match_100 ?_
            refine b_topE (nI_add ((10 * a)) b) ?_
            refine b_istore_n (lv' := [(0, _), (1, _), (2, _), (3, _), (4, _), (5, _)]) dX11_match_101 rfl (by decide) rfl rfl ?_
            refine b_incN (j := b) (lv' := [(0, _), (1, _), (2, _), (3, _), (4, _), (5, _)]) dX11_match_102 rfl rfl (by decide) rfl rfl ?_
            refine b_goto (tgt := 51) dX11_match_105 (by decide) ?_
            refine b_take 5 ?_
            have z := ih (b + 1) (by omega) (by omega) h5 (W1.tv V5) tu5 (kr.fv ht V5)
            rw [mtI, mtS_y e73 (Int32.not_le.mp h88)] at z
            exact z
    refine b_iload_n dX11_match_37 rfl rfl ?_
    refine b_aload_n dX11_match_38 rfl rfl ?_
    refine b_getD lf_X11_26 rfl (by rw [W1 0 (by decide) (by omega) (by decide) (by decide)]; exact h0) (town_31 ht) dX11_match_39 ?_
    refine b_getI lf_X11_124 (town_c ht) dX11_match_42 ?_
    refine b_topE (y := nI (t_n T)) ((W1.tn ht hT).n) ?_
    refine b_icmp_ge (tgt := 114) dX11_match_45 (by decide) (fun h45 => ?_) (fun h45 => ?_)
    · have e45 : (t_n T) ≤ a := nn_le (a := (t_n T)) (b := a) (by omega) (by omega) h45
      have e : a = t_n T := by omega
      subst e
      refine b_iload_n dX11_match_114 rfl rfl ?_
      refine b_iret rfl (by decide) dX11_match_115 ?_
      exact hq h (W1.fc ht)
    · have e45 : a < (t_n T) := nn_nle (a := (t_n T)) (b := a) (by omega) (by omega) h45
      refine b_iconst (v := 0) dX11_match_48 (by decide +kernel) ?_
      refine b_istore (lv' := [(0, _), (1, _), (2, _), (3, _), (4, _)]) dX11_match_49 (by decide) rfl rfl ?_
      exact IN e45 0 (Nat.zero_le _) h W1 tu kr
  refine b_aload_n dX11_match_0 rfl rfl ?_
  refine b_getR (b := 41) lf_X11_62 rfl rfl dX11_match_1 ?_
  refine b_aload_n dX11_match_4 rfl rfl ?_
  refine b_getR (b := 31) lf_X11_33 rfl rfl dX11_match_5 ?_
  refine b_callV (As := [_]) (st := []) dX11_match_8 lk_X11_305 lm_X5_copyTune lv_X5_copyTune (life_c is_life41) (by decide) rfl rfl rfl (Nat.le_of_ble_eq_true rfl) (Nat.le_refl _) (by decide) ?_
  refine c_X5_copyTune is_life41 is_life31 (by decide) hR.n hR.le (fun h1 F1 t1 t2 t3 => ?_)
  have U1 : FU t g h1 := FU.ct F1
  have tu := TU.ct hR t1 t2 t3
  refine b_aload_n dX11_match_11 rfl rfl ?_
  refine b_getR (b := 74) lf_X11_68 rfl rfl dX11_match_12 ?_
  refine b_aload_n dX11_match_15 rfl rfl ?_
  refine b_getD lf_X11_26 rfl (by rw [U1 0 (by decide) (by omega)]; exact h0) (town_31 ht) dX11_match_16 ?_
  refine b_aload_n dX11_match_19 rfl rfl ?_
  refine b_getR (b := 31) lf_X11_33 rfl rfl dX11_match_20 ?_
  refine b_callV (As := [_, _]) (st := []) dX11_match_23 lk_X11_326 lm_X6_keep lv_X6_keep rfl (by decide) rfl rfl rfl (Nat.le_of_ble_eq_true rfl) (Nat.le_refl _) (by decide) ?_
  refine c_X6_keep ht is_life31 (U1.lf ht hR).n hR.le (U1.tn ht hT).on hT.ole (fun h3 F3 k3 => ?_)
  have W3 : FW t g h3 := fun y y1 y2 y3 y4 => by rw [F3 y y3 y4]; exact U1 y y1 y2
  have kr3 : KR T S h3 := fun j hj => by rw [k3 j hj]; exact lkM_cg (U1.lf ht hR).sg (U1.tn ht hT).ot _ (Nat.le_refl _) _ hj
  have tu3 : TU h3 S := by unfold TU; rw [F3 42 (by decide) (by decide), F3 43 (by decide) (by decide), F3 44 (by decide) (by decide)]; exact tu
  refine b_iconst (v := (-1)) dX11_match_26 (by decide +kernel) ?_
  refine b_istore_n (lv' := [(0, _), (1, _)]) dX11_match_27 rfl (by decide) rfl rfl ?_
  refine b_aload_n dX11_match_28 rfl rfl ?_
  refine b_iconst (v := (-1)) dX11_match_29 (by decide +kernel) ?_
  refine b_iconst (v := (-1)) dX11_match_30 (by decide +kernel) ?_
  refine b_callV (As := [_, _]) (st := []) dX11_match_31 lk_X11_329 lm_X11_likeIfMarried lv_X11_likeIfMarried rfl (by decide) rfl rfl rfl (Nat.le_of_ble_eq_true rfl) (Nat.le_refl _) (by decide) ?_
  refine c_X11_likeIf0 ht (by rw [W3 0 (by decide) (by omega) (by decide) (by decide)]; exact h0) (W3.lf ht hR) (W3.tn ht hT) oT tu3 kr3 (fun h5 V5 tu5 => ?_)
  have W5 := W3.tv V5
  have kr5 := kr3.fv ht V5
  refine b_istore_n (lv' := [(0, _), (1, _), (2, _)]) dX11_match_34 rfl (by decide) rfl rfl ?_
  refine b_iconst (v := 0) dX11_match_35 (by decide +kernel) ?_
  refine b_istore_n (lv' := [(0, _), (1, _), (2, _), (3, _)]) dX11_match_36 rfl (by decide) rfl rfl ?_
  exact LO 0 (Nat.zero_le _) h5 W5 tu5 kr5
theorem c_X12_likeIn {E : En} {d : Nat} {Q : QT} {X : XT} {g : G2} {T : TD} {S : LfS} {n : Nat} (hT : RMt g T) (hR : RMl g T S) (oT : okT T) (oS : okS T S) (hsp : g 84 44 = -1) (hn : n ≤ 20) (hq : ∀ h k, FM g k → RMl k T (yrsM T (-1) S n) → (∀ y, y ≠ 110 → y ≠ 111 → h y = k y) → Q (some (.int (likV T (yrsM T (-1) S n)))) h) : M E md_X12_likeIn (d + 6) [.ref 84, .int (nI n)] g Q X := by
  refine M.of _ rfl rfl (Nat.le_of_ble_eq_true rfl) ?_
  refine b_aload_n dX12_likeIn_0 rfl rfl ?_
  refine b_iload_n dX12_likeIn_1 rfl rfl ?_
  refine b_callV (As := [_]) (st := []) dX12_likeIn_2 lk_X12_399 lm_X12_goOn lv_X12_goOn rfl (by decide) rfl rfl rfl (Nat.le_of_ble_eq_true rfl) (Nat.le_refl _) (by decide) ?_
  refine c_X12_goOn (sp := -1) hT hR oT oS hsp (by omega) (fun h1 fm hR1 => ?_)
  refine b_aload_n dX12_likeIn_5 rfl rfl ?_
  refine b_callV (As := []) (st := []) dX12_likeIn_6 lk_X12_459 lm_X12_likeNow lv_X12_likeNow rfl (by decide) rfl rfl rfl (Nat.le_of_ble_eq_true rfl) (Nat.le_refl _) (by decide) ?_
  refine c_X12_likeNow hR1.n hR1.le (hT.fd fm.fd).on hT.ole (fun h2 F2 => ?_)
  rw [show lkM (h1 104) (h1 94) (l_n (yrsM T (-1) S n)) (t_on T) = likV T (yrsM T (-1) S n) from lkM_cg hR1.sg (hT.fd fm.fd).ot _ (Nat.le_refl _) _ (Nat.le_refl _)]
  refine b_iret rfl (by decide) dX12_likeIn_9 ?_
  exact hq h2 h1 fm hR1 F2
theorem c_X12_match {E : En} {d : Nat} {Q : QT} {X : XT} {g : G2} {T : TD} {S : LfS} (hR : RMl g T S) (hT : RMt g T) (hsp : g 84 44 = -1) (oT : okT T) (oL : okL T S) (hq : ∀ h, FD g h → RMl h T S → h 84 2 = 0 → Q (some (.int (mtO T S (t_n T)).1)) h) : M E md_X12_match (d + 7) [.ref 84] g Q X := by
  refine M.of _ rfl rfl (Nat.le_of_ble_eq_true rfl) ?_
  refine b_aload_n dX12_match_0 rfl rfl ?_
  refine b_iconst (v := 0) dX12_match_1 (by decide +kernel) ?_
  refine b_putI lf_X12_165 lp_12_2 rfl dX12_match_2 ?_
  have F1 : FD g (up2 g 84 2 0) := FD.code 0
  have c1 : up2 g 84 2 0 84 2 = 0 := up2_s _ _ _ _
  have hR := hR.code (x := 0)
  have hT := hT.code (x := 0)
  generalize up2 g 84 2 0 = g1 at F1 c1 hR hT ⊢
  have hsp : g1 84 44 = -1 := by rw [F1.2 44 (by decide)]; exact hsp
  refine b_aload_n dX12_match_5 rfl rfl ?_
  refine b_aload_n dX12_match_6 rfl rfl ?_
  refine b_getR (b := 112) lf_X12_120 rfl rfl dX12_match_7 ?_
  refine b_iconst (v := 0) dX12_match_10 (by decide +kernel) ?_
  refine b_callV (As := [_, _]) (st := []) dX12_match_11 lk_X12_387 lm_X12_pack lv_X12_pack rfl (by decide) rfl rfl rfl (Nat.le_of_ble_eq_true rfl) (Nat.le_refl _) (by decide) ?_
  refine c_X12_pack (z := 112) (n := 35) (f := 0) rfl (by decide) (by decide) (by decide) (fun h1 pF _ pk => ?_)
  have D1 := F1.tr (FD.ofZ (z := 112) (by decide) pF)
  have rk := RPk.of hT.le hR pk
  have hR1 := hR.ofZ (by decide) pF
  have c1 : h1 84 2 = 0 := by rw [pF 84 (by decide)]; exact c1
  have sp1 : h1 84 44 = -1 := by rw [pF 84 (by decide)]; exact hsp
  have h8 := hT.le
  have h4n := hR.le
  have hT := hT.fd (FD.ofZ (z := 112) (by decide) pF)
  have LO : ∀ a, a ≤ t_n T → ∀ h, RMl h T S → FD h1 h → h 84 2 = 0 → h 112 = h1 112 → B E md_X12_match (d + 7) Q X 33 [(0, .ref 84), (1, .int (mtO T S a).2), (2, .int (mtO T S a).1), (3, .int (nI a))] [] h 0 := by
    refine lp_up (fun a ha ihO h hR2 D2 cc e112 => ?_)
    have IN : a < t_n T → ∀ b, b ≤ t_n T → ∀ h, RMl h T S → FD h1 h → h 84 2 = 0 → h 112 = h1 112 → B E md_X12_match (d + 7) Q X 46 [(0, .ref 84), (1, .int (mtI T S (mtO T S a) a b).2), (2, .int (mtI T S (mtO T S a) a b).1), (3, .int (nI a)), (4, .int (nI b))] [] h 0 := by
      intro hat
      refine lp_up (fun b hb ih h hR2 D2 cc e112 => ?_)
      refine b_iload dX12_match_46 rfl ?_
      refine b_aload_n dX12_match_48 rfl rfl ?_
      refine b_getR (b := 87) lf_X12_40 rfl rfl dX12_match_49 ?_
      refine b_iconst (v := 0) dX12_match_52 (by decide +kernel) ?_
      refine b_ildN (j := 0) dX12_match_53 (rfl) (by show _ < 10; omega) ?_
      refine b_topE (y := nI (t_n T)) ((hT.fd D2).n) ?_
      refine b_icmp_ge (tgt := 119) dX12_match_54 (by decide) (fun h54 => ?_) (fun h54 => ?_)
      · have e54 : (t_n T) ≤ b := nn_le (a := (t_n T)) (b := b) (by omega) (by omega) h54
        refine b_incN (j := a) (lv' := [(0, _), (1, _), (2, _), (3, _), (4, _)]) dX12_match_119 rfl rfl (by decide) rfl rfl ?_
        refine b_goto (tgt := 33) dX12_match_122 (by decide) ?_
        refine b_take 4 ?_
        have e : b = t_n T := by omega
        subst e
        exact ihO (a + 1) (by omega) (by omega) h hR2 D2 cc e112
      · have e54 : b < (t_n T) := nn_nle (a := (t_n T)) (b := b) (by omega) (by omega) h54
        refine b_aload_n dX12_match_57 rfl rfl ?_
        refine b_iload_n dX12_match_58 rfl rfl ?_
        refine b_iload dX12_match_59 rfl ?_
        refine b_callV (As := [_, _]) (st := []) dX12_match_61 lk_X12_409 lm_X12_canMarry lv_X12_canMarry rfl (by decide) rfl rfl rfl (Nat.le_of_ble_eq_true rfl) (Nat.le_refl _) (by decide) ?_
        refine c_X12_canMarry (by omega) (by omega) ?_
        rw [mmB_cg (by rw [hR2.aw, hR2.de, hR2.ma]) (hR2.ho a (by omega)) (hR2.ho b (by omega))]
        refine b_if_ne (tgt := 70) dX12_match_64 (by decide) (fun h64 => ?_) (fun h64 => ?_)
        · have e64 := b2i_1 h64
          refine b_aload_n dX12_match_70 rfl rfl ?_
          refine b_iload_n dX12_match_71 rfl rfl ?_
          refine b_iload dX12_match_72 rfl ?_
          refine b_callV (As := [_, _]) (st := []) dX12_match_74 lk_X12_412 lm_X12_wed lv_X12_wed rfl (by decide) rfl rfl rfl (Nat.le_of_ble_eq_true rfl) (Nat.le_refl _) (by decide) ?_
          refine c_X12_wed (by omega) (by omega) (fun h2 wF w1 w5 w8 w4 w4o => ?_)
          have hRw := hR2.wed (by omega) wF w1 w5 w8 w4 w4o
          have Dw : FD h h2 := ⟨fun y hy => wF y (by omega) (by omega), fun j hj => w1 j (by omega) (by omega)⟩
          refine b_aload_n dX12_match_77 rfl rfl ?_
          refine b_iconst (v := 5) dX12_match_78 (by decide +kernel) ?_
          refine b_callV (As := [_]) (st := []) dX12_match_79 lk_X12_472 lm_X12_likeIn lv_X12_likeIn rfl (by decide) rfl rfl rfl (Nat.le_of_ble_eq_true rfl) (Nat.le_refl _) (by decide) ?_
          refine c_X12_likeIn (n := 5) ((hT.fd D2).fd Dw) hRw oT oL.1.wed (by rw [w1 44 (by decide) (by decide), D2.2 44 (by decide)]; exact sp1) (by decide) (fun h3 k3 fm hR3 F3 => ?_)
          refine b_istore (lv' := [(0, _), (1, _), (2, _), (3, _), (4, _), (5, _)]) dX12_match_82 (by decide) rfl rfl ?_
          refine b_aload_n dX12_match_84 rfl rfl ?_
          refine b_aload_n dX12_match_85 rfl rfl ?_
          refine b_getR (b := 112) lf_X12_120 rfl rfl dX12_match_86 ?_
          refine b_iconst (v := 0) dX12_match_89 (by decide +kernel) ?_
          refine b_callV (As := [_, _]) (st := []) dX12_match_90 lk_X12_416 lm_X12_unpack lv_X12_unpack rfl (by decide) rfl rfl rfl (Nat.le_of_ble_eq_true rfl) (Nat.le_refl _) (by decide) ?_
          refine c_X12_unpack (z := 112) (n := 35) (f := 0) rfl (by decide) (by decide) (by decide) (fun h4 uF u84 uk => ?_)
          have hR4 : RMl h4 T S := RMl.back hT.le oL.1 oL.2.2.2.2 (by rw [F3 112 (by decide) (by decide), fm.1 112 (by decide) (by decide) (by decide) (by decide) (by decide) (by decide), wF 112 (by decide) (by decide), e112]; exact rk) (hR3.cg (fun j _ _ => by rw [F3 84 (by decide) (by decide)]) (fun z z1 z2 z3 => F3 z (by omega) (by omega))) ((wedS_pre S a b).tr (yrsM_pre T (-1) (wedS S a b) 5)) uF uk
          have D4 := (((D2.tr Dw).tr fm.fd).tr (FD.of110 F3)).tr (FD.unp uF u84)
          have c4 : h4 84 2 = 0 := by rw [u84 2 (by decide), F3 84 (by decide) (by decide), fm.2 2 (by decide) (by decide), w1 2 (by decide) (by decide)]; exact cc
          have e4 : h4 112 = h1 112 := by rw [uF 112 (by decide) (by decide) (by decide) (by decide) (by decide), F3 112 (by decide) (by decide), fm.1 112 (by decide) (by decide) (by decide) (by decide) (by decide) (by decide), wF 112 (by decide) (by decide), e112]
          refine b_iload dX12_match_93 rfl ?_
          refine b_iload_n dX12_match_95 rfl rfl ?_
          refine b_icmp_gt (tgt := 102) dX12_match_96 (by decide) (fun h96 => ?_) (fun h96 => ?_)
          · refine b_bipush (v := 10) dX12_match_102 (by decide +kernel) ?_
            refine b_iload_n dX12_match_104 rfl rfl ?_
            refine b_imul dX12_match_105 ?_
            refine b_topE (nI_mul 10 a) ?_
            refine b_iload dX12_match_106 rfl ?_
            refine b_iadd dX12_match_108 ?_
            refine b_topE (nI_add ((10 * a)) b) ?_
            refine b_istore_n (lv' := [(0, _), (1, _), (2, _), (3, _), (4, _), (5, _)]) dX12_match_109 rfl (by decide) rfl rfl ?_
            refine b_iload dX12_match_110 rfl ?_
            refine b_istore_n (lv' := [(0, _), (1, _), (2, _), (3, _), (4, _), (5, _)]) dX12_match_112 rfl (by decide) rfl rfl ?_
            refine b_incN (j := b) (lv' := [(0, _), (1, _), (2, _), (3, _), (4, _), (5, _)]) dX12_match_113 rfl rfl (by decide) rfl rfl ?_
            refine b_goto (tgt := 46) dX12_match_116 (by decide) ?_
            refine b_take 5 ?_
            have z := ih (b + 1) (by omega) (by omega) h4 hR4 D4 c4 e4
            rw [mtI, mtS_y e64 h96] at z
            exact z
          · refine b_goto (tgt := 113) dX12_match_99 (by decide) ?_
            refine b_incN (j := b) (lv' := [(0, _), (1, _), (2, _), (3, _), (4, _), (5, _)]) dX12_match_113 rfl rfl (by decide) rfl rfl ?_
            refine b_goto (tgt := 46) dX12_match_116 (by decide) ?_
            refine b_take 5 ?_
            have z := ih (b + 1) (by omega) (by omega) h4 hR4 D4 c4 e4
            rw [mtI, mtS_k e64 h96] at z
            exact z
        · have e64 := b2i_0 h64
          refine b_goto (tgt := 113) dX12_match_67 (by decide) ?_
          refine b_incN (j := b) (lv' := [(0, _), (1, _), (2, _), (3, _), (4, _)]) dX12_match_113 rfl rfl (by decide) rfl rfl ?_
          refine b_goto (tgt := 46) dX12_match_116 (by decide) ?_
          have z := ih (b + 1) (by omega) (by omega) h hR2 D2 cc e112
          rw [mtI, mtS_n e64] at z
          exact z
    refine b_iload_n dX12_match_33 rfl rfl ?_
    refine b_aload_n dX12_match_34 rfl rfl ?_
    refine b_getR (b := 87) lf_X12_40 rfl rfl dX12_match_35 ?_
    refine b_iconst (v := 0) dX12_match_38 (by decide +kernel) ?_
    refine b_ildN (j := 0) dX12_match_39 (rfl) (by show _ < 10; omega) ?_
    refine b_topE (y := nI (t_n T)) ((hT.fd D2).n) ?_
    refine b_icmp_ge (tgt := 125) dX12_match_40 (by decide) (fun h40 => ?_) (fun h40 => ?_)
    · have e40 : (t_n T) ≤ a := nn_le (a := (t_n T)) (b := a) (by omega) (by omega) h40
      have e : a = t_n T := by omega
      subst e
      refine b_iload_n dX12_match_125 rfl rfl ?_
      refine b_iret rfl (by decide) dX12_match_126 ?_
      exact hq h (D1.tr D2) hR2 cc
    · have e40 : a < (t_n T) := nn_nle (a := (t_n T)) (b := a) (by omega) (by omega) h40
      refine b_iconst (v := 0) dX12_match_43 (by decide +kernel) ?_
      refine b_istore (lv' := [(0, _), (1, _), (2, _), (3, _), (4, _)]) dX12_match_44 (by decide) rfl rfl ?_
      exact IN e40 0 (Nat.zero_le _) h hR2 D2 cc e112
  refine b_aload_n dX12_match_14 rfl rfl ?_
  refine b_iconst (v := 5) dX12_match_15 (by decide +kernel) ?_
  refine b_callV (As := [_]) (st := []) dX12_match_16 lk_X12_472 lm_X12_likeIn lv_X12_likeIn rfl (by decide) rfl rfl rfl (Nat.le_of_ble_eq_true rfl) (Nat.le_refl _) (by decide) ?_
  refine c_X12_likeIn (n := 5) hT hR1 oT oL.1 sp1 (by decide) (fun h3 k3 fm hR3 F3 => ?_)
  refine b_istore_n (lv' := [(0, _), (1, _)]) dX12_match_19 rfl (by decide) rfl rfl ?_
  refine b_aload_n dX12_match_20 rfl rfl ?_
  refine b_aload_n dX12_match_21 rfl rfl ?_
  refine b_getR (b := 112) lf_X12_120 rfl rfl dX12_match_22 ?_
  refine b_iconst (v := 0) dX12_match_25 (by decide +kernel) ?_
  refine b_callV (As := [_, _]) (st := []) dX12_match_26 lk_X12_416 lm_X12_unpack lv_X12_unpack rfl (by decide) rfl rfl rfl (Nat.le_of_ble_eq_true rfl) (Nat.le_refl _) (by decide) ?_
  refine c_X12_unpack (z := 112) (n := 35) (f := 0) rfl (by decide) (by decide) (by decide) (fun h4 uF u84 uk => ?_)
  have hR4 : RMl h4 T S := RMl.back hT.le oL.1 oL.2.2.2.2 (by rw [F3 112 (by decide) (by decide), fm.1 112 (by decide) (by decide) (by decide) (by decide) (by decide) (by decide)]; exact rk) (hR3.cg (fun j _ _ => by rw [F3 84 (by decide) (by decide)]) (fun z z1 z2 z3 => F3 z (by omega) (by omega))) (yrsM_pre T (-1) S 5) uF uk
  have D4 := (((FD.rf h1).tr fm.fd).tr (FD.of110 F3)).tr (FD.unp uF u84)
  have c4 : h4 84 2 = 0 := by rw [u84 2 (by decide), F3 84 (by decide) (by decide), fm.2 2 (by decide) (by decide)]; exact c1
  have e4 : h4 112 = h1 112 := by rw [uF 112 (by decide) (by decide) (by decide) (by decide) (by decide), F3 112 (by decide) (by decide), fm.1 112 (by decide) (by decide) (by decide) (by decide) (by decide) (by decide)]
  refine b_iconst (v := (-1)) dX12_match_29 (by decide +kernel) ?_
  refine b_istore_n (lv' := [(0, _), (1, _), (2, _)]) dX12_match_30 rfl (by decide) rfl rfl ?_
  refine b_iconst (v := 0) dX12_match_31 (by decide +kernel) ?_
  refine b_istore_n (lv' := [(0, _), (1, _), (2, _), (3, _)]) dX12_match_32 rfl (by decide) rfl rfl ?_
  exact LO 0 (Nat.zero_le _) h4 hR4 D4 c4 e4
