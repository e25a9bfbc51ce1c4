/-! THE GAME: whom a house may send (0 nobody, p + 1 person p), what it gains -/
def csB (S : LfS) (h : Int32) : Nat → Bool
  | 0 => true
  | p + 1 => l_g S 4 p == h && btI (l_g S 3 2 ||| l_g S 3 3) (nI p) == 0
def bkI : Nat → Int32
  | 0 => 0
  | p + 1 => sbI (nI p)
def gmL (T : TD) (S : LfS) (a b : Nat) : LfS := yrM T (-1) (setS S 2 (l_g S 3 2 ||| (bkI a ||| bkI b)))
def gA (T : TD) (S : LfS) (a b : Nat) : Nat := cntN (tmP (l_g (gmL T S a b) 0) (l_g S 3 1) (l_n S)) (l_n (gmL T S a b)) + cntN (tmP (l_g (gmL T S a b) 0) (byM (l_g S 3 1 + 7)) (l_n S)) (l_n (gmL T S a b))
def gB (T : TD) (S : LfS) (a b : Nat) : Nat := cntN (rsP (l_g (gmL T S a b) 0) (l_n S) 6) (l_n (gmL T S a b))
def stB (T : TD) (S : LfS) (h o : Int32) (a b : Nat) : Bool := !anyN (fun k => (csB S h k && decide (gA T S a b < gA T S k b)) || (csB S o k && decide (gB T S a b < gB T S a k))) (t_n T + 1)
def gkB (T : TD) (S : LfS) (h o : Int32) (a b : Nat) : Bool := csB S h a && csB S o b && stB T S h o a b
def gmS (T : TD) (S : LfS) (h o : Int32) (q : Nat × Int32) (a b : Nat) : Nat × Int32 := if gkB T S h o a b then (q.1 + 1, if q.2 = -1 then nI (10 * a + b) else q.2) else q
def gmI (T : TD) (S : LfS) (h o : Int32) (q : Nat × Int32) (a : Nat) : Nat → Nat × Int32
  | 0 => q
  | b + 1 => gmS T S h o (gmI T S h o q a b) a b
def gmO (T : TD) (S : LfS) (h o : Int32) : Nat → Nat × Int32
  | 0 => (0, -1)
  | a + 1 => gmI T S h o (gmO T S h o a) a (t_n T + 1)
def gamM (T : TD) (S : LfS) (h o w : Int32) : Nat × Int32 := if inB w.toInt 0 1 then (if inB h.toInt 0 3 = true ∧ inB o.toInt 0 3 = true ∧ ¬ h = o then (0, if w = 0 then nI (gmO T S h o (t_n T + 1)).1 else (gmO T S h o (t_n T + 1)).2) else (2, 0)) else (1, 0)
theorem gamM_1 {T : TD} {S : LfS} {h o w : Int32} (q : inB w.toInt 0 1 = false) : gamM T S h o w = (1, 0) := by unfold gamM; rw [q]; rfl
theorem gamM_2 {T : TD} {S : LfS} {h o w : Int32} (q : inB w.toInt 0 1 = true) (q2 : ¬ (inB h.toInt 0 3 = true ∧ inB o.toInt 0 3 = true ∧ ¬ h = o)) : gamM T S h o w = (2, 0) := by unfold gamM; rw [q, if_pos rfl, if_neg q2]
theorem gamM_0 {T : TD} {S : LfS} {h o w : Int32} (q : inB w.toInt 0 1 = true) (q2 : inB h.toInt 0 3 = true ∧ inB o.toInt 0 3 = true ∧ ¬ h = o) : gamM T S h o w = (0, if w = 0 then nI (gmO T S h o (t_n T + 1)).1 else (gmO T S h o (t_n T + 1)).2) := by unfold gamM; rw [q, if_pos rfl, if_pos q2]
/-! counting up to an element -/
theorem cnt_lt {P : Nat → Bool} {k n : Nat} (hk : k < n) (h : P k = true) : cntN P k < cntN P n := by
  have := cntF_cntN (P := P) (n - (k + 1)) (k + 1)
  rw [show k + 1 + (n - (k + 1)) = n by omega, cntN, if_pos h] at this
  omega
theorem cnt_mono {P : Nat → Bool} {k n : Nat} (hk : k ≤ n) : cntN P k ≤ cntN P n := by
  have := cntF_cntN (P := P) (n - k) k
  rw [show k + (n - k) = n by omega] at this
  omega
theorem cnt_ex {P : Nat → Bool} : ∀ n i, i < cntN P n → ∃ k, k < n ∧ P k = true ∧ cntN P k = i
  | 0, i, h => absurd h (by rw [cntN]; omega)
  | n + 1, i, h => by
    rw [cntN] at h
    by_cases e : i < cntN P n
    · obtain ⟨k, k1, k2, k3⟩ := cnt_ex n i e; exact ⟨k, by omega, k2, k3⟩
    · by_cases p : P n = true
      · rw [if_pos p] at h; exact ⟨n, by omega, p, by omega⟩
      · rw [if_neg p] at h; omega
theorem cnt_inj {P : Nat → Bool} {k l : Nat} (hk : P k = true) (hl : P l = true) (h : cntN P k = cntN P l) : k = l := by
  rcases Nat.lt_trichotomy k l with q | q | q
  · have := cnt_lt q hk; omega
  · exact q
  · have := cnt_lt q hl; omega
theorem cs_le (P : Nat → Bool) (n : Nat) : cntN P n ≤ n := cntN_le P n
theorem RLf.csb {g : G2} {a : Nat} {T : TD} {sp : Int32} {S : LfS} {h : Int32} {p : Nat} (hR : RLf g a T sp S) (hp : p < t_n T) : csB S h (p + 1) = (g (a + 4) p == h && btI (g a 6 ||| g a 7) (nI p) == 0) := by
  show (l_g S 4 p == h && _) = _
  rw [hR.ho p hp, hR.aw, hR.de]
theorem c_X2_gatherOf78 {E : En} {d : Nat} {Q : QT} {X : XT} {g : G2} {t : Nat} {T : TD} {S : LfS} {sp hh : Int32} (ht : is_town t) (hR : RLf g 31 T sp S) (hT : RTn g t T) (hq : ∀ h, (∀ y, y ≠ 78 → h y = g y) → (∀ k, k ≤ t_n T → csB S hh k = true → h 78 (cntN (csB S hh) k) = bgI k) → Q (some (.int (nI (cntN (csB S hh) (t_n T + 1))))) h) : M E md_X2_gatherOf (d + 1) [.ref t, .ref 31, .int hh, .ref 78] g Q X := by
  refine M.of _ rfl rfl (Nat.le_of_ble_eq_true rfl) ?_
  have h8 := hT.le
  have ht5 : t = 5 ∨ t = 18 := ht
  have LP : ∀ p, p ≤ t_n T → ∀ h, (∀ y, y ≠ 78 → h y = g y) → (∀ k, k ≤ p → csB S hh k = true → h 78 (cntN (csB S hh) k) = bgI k) → B E md_X2_gatherOf (d + 1) Q X 10 [(0, .ref t), (1, .ref 31), (2, .int hh), (3, .ref 78), (4, .int (nI (cntN (csB S hh) (p + 1)))), (5, .int (nI p))] [] h 0 := by
    refine lp_up (fun p hp ih h hF hA => ?_)
    have hsz := cntN_le (csB S hh) (p + 1)
    refine b_iload dX2_gatherOf_10 rfl ?_
    refine b_aload_n dX2_gatherOf_12 rfl rfl ?_
    refine b_getI lf_X2_35 (town_c ht) dX2_gatherOf_13 ?_
    refine b_topE (y := nI (t_n T)) (by rw [hF t (by omega)]; exact hT.n) ?_
    refine b_icmp_ge (tgt := 69) dX2_gatherOf_16 (by decide) (fun h16 => ?_) (fun h16 => ?_)
    · have e16 : (t_n T) ≤ p := nn_le (a := (t_n T)) (b := p) (by omega) (by omega) h16
      have ep : p = t_n T := by omega
      subst ep
      refine b_iload dX2_gatherOf_69 rfl ?_
      refine b_iret rfl (by decide) dX2_gatherOf_71 ?_
      exact hq h hF (fun k k1 k2 => hA k k1 k2)
    · have e16 : p < (t_n T) := nn_nle (a := (t_n T)) (b := p) (by omega) (by omega) h16
      refine b_iload dX2_gatherOf_19 rfl ?_
      refine b_bipush (v := 9) dX2_gatherOf_21 (by decide +kernel) ?_
      refine b_icmp_ge (tgt := 69) dX2_gatherOf_23 (by decide) (fun h23 => ?_) (fun h23 => ?_)
      · have e23 : 9 ≤ (cntN (csB S hh) (p + 1)) := nn_le (a := 9) (b := (cntN (csB S hh) (p + 1))) (by omega) (by omega) h23
        exact absurd e23 (by omega)
      · have e23 : (cntN (csB S hh) (p + 1)) < 9 := nn_nle (a := 9) (b := (cntN (csB S hh) (p + 1))) (by omega) (by omega) h23
        refine b_aload_n dX2_gatherOf_26 rfl rfl ?_
        refine b_getR (b := 35) lf_X2_40 (life_c is_life31) (life_r11 is_life31) dX2_gatherOf_27 ?_
        refine b_iload dX2_gatherOf_30 rfl ?_
        refine b_ildN (j := p) dX2_gatherOf_32 (rfl) (by rw [(life_n4 is_life31)]; omega) ?_
        refine b_topE (y := g (31 + 4) p) (by rw [hF 35 (by decide)]) ?_
        refine b_iload_n dX2_gatherOf_33 rfl rfl ?_
        refine b_icmp_ne (tgt := 63) dX2_gatherOf_34 (by decide) (fun h34 => ?_) (fun h34 => ?_)
        · refine b_incN (j := p) (lv' := [(0, _), (1, _), (2, _), (3, _), (4, _), (5, _)]) dX2_gatherOf_63 rfl rfl (by decide) rfl rfl ?_
          refine b_goto (tgt := 10) dX2_gatherOf_66 (by decide) ?_
          have ef : csB S hh (p + 1) = false := by rw [hR.csb (by omega), beq_eq_false_iff_ne.mpr h34]; rfl
          have z := ih (p + 1) (by omega) (by omega) h hF (fun k k1 k2 => ?_)
          · rw [cntN, if_neg (by rw [ef]; decide), Nat.add_zero] at z
            exact z
          · by_cases ek : k = p + 1
            · rw [ek, ef] at k2; exact absurd k2 (by decide)
            · exact hA k (by omega) k2
        · refine b_aload_n dX2_gatherOf_37 rfl rfl ?_
          refine b_getI lf_X2_45 (life_c is_life31) dX2_gatherOf_38 ?_
          refine b_aload_n dX2_gatherOf_41 rfl rfl ?_
          refine b_getI lf_X2_48 (life_c is_life31) dX2_gatherOf_42 ?_
          refine b_ior dX2_gatherOf_45 ?_
          refine b_iload dX2_gatherOf_46 rfl ?_
          refine b_callSN (As := [_, _]) (st := []) dX2_gatherOf_48 (by decide +kernel) rfl lm_X11_isIn ls_X11_isIn rfl rfl (Nat.le_of_ble_eq_true rfl) (Nat.le_refl _) (by decide) ?_
          refine c_X11_isIn ?_
          rw [hF 31 (by decide)]
          refine b_if_ne (tgt := 63) dX2_gatherOf_51 (by decide) (fun h51 => ?_) (fun h51 => ?_)
          · have e51 := b2i_1 h51
            refine b_incN (j := p) (lv' := [(0, _), (1, _), (2, _), (3, _), (4, _), (5, _)]) dX2_gatherOf_63 rfl rfl (by decide) rfl rfl ?_
            refine b_goto (tgt := 10) dX2_gatherOf_66 (by decide) ?_
            have ef : csB S hh (p + 1) = false := by rw [hR.csb (by omega)]; rw [show (btI (g 31 6 ||| g 31 7) (nI p) == 0) = false by simpa using e51]; simp
            have z := ih (p + 1) (by omega) (by omega) h hF (fun k k1 k2 => ?_)
            · rw [cntN, if_neg (by rw [ef]; decide), Nat.add_zero] at z
              exact z
            · by_cases ek : k = p + 1
              · rw [ek, ef] at k2; exact absurd k2 (by decide)
              · exact hA k (by omega) k2
          · have e51 := b2i_0 h51
            refine b_aload_n dX2_gatherOf_54 rfl rfl ?_
            refine b_iload dX2_gatherOf_55 rfl ?_
            refine b_iload dX2_gatherOf_57 rfl ?_
            refine b_istN (j := cntN (csB S hh) (p + 1)) dX2_gatherOf_59 (rfl) (by show _ < 9; omega) ?_
            refine b_incN (j := cntN (csB S hh) (p + 1)) (lv' := [(0, _), (1, _), (2, _), (3, _), (4, _), (5, _)]) dX2_gatherOf_60 rfl rfl (by decide) rfl rfl ?_
            refine b_incN (j := p) (lv' := [(0, _), (1, _), (2, _), (3, _), (4, _), (5, _)]) dX2_gatherOf_63 rfl rfl (by decide) rfl rfl ?_
            refine b_goto (tgt := 10) dX2_gatherOf_66 (by decide) ?_
            have ef : csB S hh (p + 1) = true := by rw [hR.csb (by omega)]; rw [show g (31 + 4) p = hh from h34, show (btI (g 31 6 ||| g 31 7) (nI p) == 0) = true by simpa using e51]; simp
            have z := ih (p + 1) (by omega) (by omega) (up2 h 78 (cntN (csB S hh) (p + 1)) (nI p)) (fun y hy => by rw [up2_f _ _ _ _ hy]; exact hF y hy) (fun k k1 k2 => ?_)
            · rw [cntN, if_pos ef] at z
              exact z
            · by_cases ek : k = p + 1
              · subst ek; rw [up2_s]; rfl
              · rw [up2_k _ _ _ _ (fun q => ek (cnt_inj k2 ef q))]; exact hA k (by omega) k2
  refine b_aload_n dX2_gatherOf_0 rfl rfl ?_
  refine b_iconst (v := 0) dX2_gatherOf_1 (by decide +kernel) ?_
  refine b_iconst (v := (-1)) dX2_gatherOf_2 (by decide +kernel) ?_
  refine b_istN (j := 0) dX2_gatherOf_3 (rfl) (by show _ < 9; omega) ?_
  refine b_iconst (v := 1) dX2_gatherOf_4 (by decide +kernel) ?_
  refine b_istore (lv' := [(0, _), (1, _), (2, _), (3, _), (4, _)]) dX2_gatherOf_5 (by decide) rfl rfl ?_
  refine b_iconst (v := 0) dX2_gatherOf_7 (by decide +kernel) ?_
  refine b_istore (lv' := [(0, _), (1, _), (2, _), (3, _), (4, _), (5, _)]) dX2_gatherOf_8 (by decide) rfl rfl ?_
  exact LP 0 (Nat.zero_le _) _ (fun y hy => up2_f _ _ _ _ hy) (fun k k1 _ => by rw [show k = 0 by omega]; exact up2_s _ _ _ _)
theorem c_X2_gatherOf79 {E : En} {d : Nat} {Q : QT} {X : XT} {g : G2} {t : Nat} {T : TD} {S : LfS} {sp hh : Int32} (ht : is_town t) (hR : RLf g 31 T sp S) (hT : RTn g t T) (hq : ∀ h, (∀ y, y ≠ 79 → h y = g y) → (∀ k, k ≤ t_n T → csB S hh k = true → h 79 (cntN (csB S hh) k) = bgI k) → Q (some (.int (nI (cntN (csB S hh) (t_n T + 1))))) h) : M E md_X2_gatherOf (d + 1) [.ref t, .ref 31, .int hh, .ref 79] g Q X := by
  refine M.of _ rfl rfl (Nat.le_of_ble_eq_true rfl) ?_
  have h8 := hT.le
  have ht5 : t = 5 ∨ t = 18 := ht
  have LP : ∀ p, p ≤ t_n T → ∀ h, (∀ y, y ≠ 79 → h y = g y) → (∀ k, k ≤ p → csB S hh k = true → h 79 (cntN (csB S hh) k) = bgI k) → B E md_X2_gatherOf (d + 1) Q X 10 [(0, .ref t), (1, .ref 31), (2, .int hh), (3, .ref 79), (4, .int (nI (cntN (csB S hh) (p + 1)))), (5, .int (nI p))] [] h 0 := by
    refine lp_up (fun p hp ih h hF hA => ?_)
    have hsz := cntN_le (csB S hh) (p + 1)
    refine b_iload dX2_gatherOf_10 rfl ?_
    refine b_aload_n dX2_gatherOf_12 rfl rfl ?_
    refine b_getI lf_X2_35 (town_c ht) dX2_gatherOf_13 ?_
    refine b_topE (y := nI (t_n T)) (by rw [hF t (by omega)]; exact hT.n) ?_
    refine b_icmp_ge (tgt := 69) dX2_gatherOf_16 (by decide) (fun h16 => ?_) (fun h16 => ?_)
    · have e16 : (t_n T) ≤ p := nn_le (a := (t_n T)) (b := p) (by omega) (by omega) h16
      have ep : p = t_n T := by omega
      subst ep
      refine b_iload dX2_gatherOf_69 rfl ?_
      refine b_iret rfl (by decide) dX2_gatherOf_71 ?_
      exact hq h hF (fun k k1 k2 => hA k k1 k2)
    · have e16 : p < (t_n T) := nn_nle (a := (t_n T)) (b := p) (by omega) (by omega) h16
      refine b_iload dX2_gatherOf_19 rfl ?_
      refine b_bipush (v := 9) dX2_gatherOf_21 (by decide +kernel) ?_
      refine b_icmp_ge (tgt := 69) dX2_gatherOf_23 (by decide) (fun h23 => ?_) (fun h23 => ?_)
      · have e23 : 9 ≤ (cntN (csB S hh) (p + 1)) := nn_le (a := 9) (b := (cntN (csB S hh) (p + 1))) (by omega) (by omega) h23
        exact absurd e23 (by omega)
      · have e23 : (cntN (csB S hh) (p + 1)) < 9 := nn_nle (a := 9) (b := (cntN (csB S hh) (p + 1))) (by omega) (by omega) h23
        refine b_aload_n dX2_gatherOf_26 rfl rfl ?_
        refine b_getR (b := 35) lf_X2_40 (life_c is_life31) (life_r11 is_life31) dX2_gatherOf_27 ?_
        refine b_iload dX2_gatherOf_30 rfl ?_
        refine b_ildN (j := p) dX2_gatherOf_32 (rfl) (by rw [(life_n4 is_life31)]; omega) ?_
        refine b_topE (y := g (31 + 4) p) (by rw [hF 35 (by decide)]) ?_
        refine b_iload_n dX2_gatherOf_33 rfl rfl ?_
        refine b_icmp_ne (tgt := 63) dX2_gatherOf_34 (by decide) (fun h34 => ?_) (fun h34 => ?_)
        · refine b_incN (j := p) (lv' := [(0, _), (1, _), (2, _), (3, _), (4, _), (5, _)]) dX2_gatherOf_63 rfl rfl (by decide) rfl rfl ?_
          refine b_goto (tgt := 10) dX2_gatherOf_66 (by decide) ?_
          have ef : csB S hh (p + 1) = false := by rw [hR.csb (by omega), beq_eq_false_iff_ne.mpr h34]; rfl
          have z := ih (p + 1) (by omega) (by omega) h hF (fun k k1 k2 => ?_)
          · rw [cntN, if_neg (by rw [ef]; decide), Nat.add_zero] at z
            exact z
          · by_cases ek : k = p + 1
            · rw [ek, ef] at k2; exact absurd k2 (by decide)
            · exact hA k (by omega) k2
        · refine b_aload_n dX2_gatherOf_37 rfl rfl ?_
          refine b_getI lf_X2_45 (life_c is_life31) dX2_gatherOf_38 ?_
          refine b_aload_n dX2_gatherOf_41 rfl rfl ?_
          refine b_getI lf_X2_48 (life_c is_life31) dX2_gatherOf_42 ?_
          refine b_ior dX2_gatherOf_45 ?_
          refine b_iload dX2_gatherOf_46 rfl ?_
          refine b_callSN (As := [_, _]) (st := []) dX2_gatherOf_48 (by decide +kernel) rfl lm_X11_isIn ls_X11_isIn rfl rfl (Nat.le_of_ble_eq_true rfl) (Nat.le_refl _) (by decide) ?_
          refine c_X11_isIn ?_
          rw [hF 31 (by decide)]
          refine b_if_ne (tgt := 63) dX2_gatherOf_51 (by decide) (fun h51 => ?_) (fun h51 => ?_)
          · have e51 := b2i_1 h51
            refine b_incN (j := p) (lv' := [(0, _), (1, _), (2, _), (3, _), (4, _), (5, _)]) dX2_gatherOf_63 rfl rfl (by decide) rfl rfl ?_
            refine b_goto (tgt := 10) dX2_gatherOf_66 (by decide) ?_
            have ef : csB S hh (p + 1) = false := by rw [hR.csb (by omega)]; rw [show (btI (g 31 6 ||| g 31 7) (nI p) == 0) = false by simpa using e51]; simp
            have z := ih (p + 1) (by omega) (by omega) h hF (fun k k1 k2 => ?_)
            · rw [cntN, if_neg (by rw [ef]; decide), Nat.add_zero] at z
              exact z
            · by_cases ek : k = p + 1
              · rw [ek, ef] at k2; exact absurd k2 (by decide)
              · exact hA k (by omega) k2
          · have e51 := b2i_0 h51
            refine b_aload_n dX2_gatherOf_54 rfl rfl ?_
            refine b_iload dX2_gatherOf_55 rfl ?_
            refine b_iload dX2_gatherOf_57 rfl ?_
            refine b_istN (j := cntN (csB S hh) (p + 1)) dX2_gatherOf_59 (rfl) (by show _ < 9; omega) ?_
            refine b_incN (j := cntN (csB S hh) (p + 1)) (lv' := [(0, _), (1, _), (2, _), (3, _), (4, _), (5, _)]) dX2_gatherOf_60 rfl rfl (by decide) rfl rfl ?_
            refine b_incN (j := p) (lv' := [(0, _), (1, _), (2, _), (3, _), (4, _), (5, _)]) dX2_gatherOf_63 rfl rfl (by decide) rfl rfl ?_
            refine b_goto (tgt := 10) dX2_gatherOf_66 (by decide) ?_
            have ef : csB S hh (p + 1) = true := by rw [hR.csb (by omega)]; rw [show g (31 + 4) p = hh from h34, show (btI (g 31 6 ||| g 31 7) (nI p) == 0) = true by simpa using e51]; simp
            have z := ih (p + 1) (by omega) (by omega) (up2 h 79 (cntN (csB S hh) (p + 1)) (nI p)) (fun y hy => by rw [up2_f _ _ _ _ hy]; exact hF y hy) (fun k k1 k2 => ?_)
            · rw [cntN, if_pos ef] at z
              exact z
            · by_cases ek : k = p + 1
              · subst ek; rw [up2_s]; rfl
              · rw [up2_k _ _ _ _ (fun q => ek (cnt_inj k2 ef q))]; exact hA k (by omega) k2
  refine b_aload_n dX2_gatherOf_0 rfl rfl ?_
  refine b_iconst (v := 0) dX2_gatherOf_1 (by decide +kernel) ?_
  refine b_iconst (v := (-1)) dX2_gatherOf_2 (by decide +kernel) ?_
  refine b_istN (j := 0) dX2_gatherOf_3 (rfl) (by show _ < 9; omega) ?_
  refine b_iconst (v := 1) dX2_gatherOf_4 (by decide +kernel) ?_
  refine b_istore (lv' := [(0, _), (1, _), (2, _), (3, _), (4, _)]) dX2_gatherOf_5 (by decide) rfl rfl ?_
  refine b_iconst (v := 0) dX2_gatherOf_7 (by decide +kernel) ?_
  refine b_istore (lv' := [(0, _), (1, _), (2, _), (3, _), (4, _), (5, _)]) dX2_gatherOf_8 (by decide) rfl rfl ?_
  exact LP 0 (Nat.zero_le _) _ (fun y hy => up2_f _ _ _ _ hy) (fun k k1 _ => by rw [show k = 0 by omega]; exact up2_s _ _ _ _)
theorem c_X2_gather {E : En} {d : Nat} {Q : QT} {X : XT} {g : G2} {t : Nat} {T : TD} {S : LfS} {sp ha hb : Int32} (ht : is_town t) (hR : RLf g 31 T sp S) (hT : RTn g t T) (hq : ∀ h, (∀ y, y ≠ 77 → y ≠ 78 → y ≠ 79 → h y = g y) → h 77 2 = nI (cntN (csB S ha) (t_n T + 1)) → h 77 3 = nI (cntN (csB S hb) (t_n T + 1)) → (∀ k, k ≤ t_n T → csB S ha k = true → h 78 (cntN (csB S ha) k) = bgI k) → (∀ k, k ≤ t_n T → csB S hb k = true → h 79 (cntN (csB S hb) k) = bgI k) → Q none h) : M E md_X2_gather (d + 2) [.ref 77, .ref t, .ref 31, .int ha, .int hb] g Q X := by
  refine M.of _ rfl rfl (Nat.le_of_ble_eq_true rfl) ?_
  refine b_aload_n dX2_gather_0 rfl rfl ?_
  refine b_aload_n dX2_gather_1 rfl rfl ?_
  refine b_aload_n dX2_gather_2 rfl rfl ?_
  refine b_iload_n dX2_gather_3 rfl rfl ?_
  refine b_aload_n dX2_gather_4 rfl rfl ?_
  refine b_getR (b := 78) lf_X2_11 rfl rfl dX2_gather_5 ?_
  refine b_callS (As := [_, _, _, _]) (st := [_]) dX2_gather_8 lk_X2_31 lm_X2_gatherOf ls_X2_gatherOf rfl rfl (Nat.le_of_ble_eq_true rfl) (Nat.le_refl _) (by decide) ?_
  refine c_X2_gatherOf78 ht hR hT (fun h1 F1 A1 => ?_)
  refine b_putI lf_X2_18 lp_2_2 rfl dX2_gather_11 ?_
  refine b_aload_n dX2_gather_14 rfl rfl ?_
  refine b_aload_n dX2_gather_15 rfl rfl ?_
  refine b_aload_n dX2_gather_16 rfl rfl ?_
  refine b_iload dX2_gather_17 rfl ?_
  refine b_aload_n dX2_gather_19 rfl rfl ?_
  refine b_getR (b := 79) lf_X2_15 rfl rfl dX2_gather_20 ?_
  refine b_callS (As := [_, _, _, _]) (st := [_]) dX2_gather_23 lk_X2_31 lm_X2_gatherOf ls_X2_gatherOf rfl rfl (Nat.le_of_ble_eq_true rfl) (Nat.le_refl _) (by decide) ?_
  have hz : ∀ y, y ≠ 77 → y ≠ 78 → up2 h1 77 2 (nI (cntN (csB S ha) (t_n T + 1))) y = g y := fun y y1 y2 => by rw [up2_f _ _ _ _ y1]; exact F1 y y2
  refine c_X2_gatherOf79 ht (hR.cg (fun k hk => hz _ (by omega) (by omega))) (hT.fa ht (fun y y1 y2 _ => hz y (by omega) (by omega))) (fun h2 F2 A2 => ?_)
  refine b_putI lf_X2_22 lp_2_3 rfl dX2_gather_26 ?_
  refine b_vret rfl (by decide) dX2_gather_29 ?_
  refine hq _ (fun y y1 y2 y3 => by rw [up2_f _ _ _ _ y1, F2 y y3]; exact hz y y1 y2) (by rw [up2_k _ _ _ _ (by decide), F2 77 (by decide)]; exact up2_s _ _ _ _) (up2_s _ _ _ _) (fun k k1 k2 => ?_) (fun k k1 k2 => ?_)
  · rw [up2_a _ _ _ _ (by decide), F2 78 (by decide), up2_a _ _ _ _ (by decide)]; exact A1 k k1 k2
  · rw [up2_a _ _ _ _ (by decide)]; exact A2 k k1 k2
theorem c_X2_bit {E : En} {d : Nat} {Q : QT} {X : XT} {g : G2} {k : Nat} (hk : k ≤ 8) (hq : Q (some (.int (bkI k))) g) : M E md_X2_bit d [.int (bgI k)] g Q X := by
  refine M.of _ rfl rfl (Nat.le_of_ble_eq_true rfl) ?_
  cases k with
  | zero =>
    show B E md_X2_bit d Q X 0 [(0, .int (-1))] [] g 0
    refine b_iload_n dX2_bit_0 rfl rfl ?_
    refine b_if_lt (tgt := 10) dX2_bit_1 (by decide) (fun h1 => ?_) (fun h1 => ?_)
    · refine b_iconst (v := 0) dX2_bit_10 (by decide +kernel) ?_
      refine b_iret rfl (by decide) dX2_bit_11 ?_
      exact hq
    · exact absurd (show (-1 : Int32) < 0 from by decide) h1
  | succ k =>
    show B E md_X2_bit d Q X 0 [(0, .int (nI k))] [] g 0
    refine b_iload_n dX2_bit_0 rfl rfl ?_
    refine b_if_lt (tgt := 10) dX2_bit_1 (by decide) (fun h1 => ?_) (fun h1 => ?_)
    · exact absurd h1 (nI_pos (by omega))
    · refine b_iconst (v := 1) dX2_bit_4 (by decide +kernel) ?_
      refine b_iload_n dX2_bit_5 rfl rfl ?_
      refine b_ishl dX2_bit_6 ?_
      refine b_goto (tgt := 11) dX2_bit_7 (by decide) ?_
      refine b_iret rfl (by decide) dX2_bit_11 ?_
      exact hq
