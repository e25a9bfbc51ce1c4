theorem nx_or (a b : Nat) : nI a ||| nI b = nI (a ||| b) := by
  apply Int32.toBitVec_inj.1
  show BitVec.ofNat 32 a ||| BitVec.ofNat 32 b = BitVec.ofNat 32 (a ||| b)
  apply BitVec.eq_of_getLsbD_eq
  intro i hi
  simp [hi]
theorem sb_tab : ∀ b, b < 14 → sbI (nI b) = nI (2 ^ b) ∧ 2 ^ b < 16384 := by decide +kernel
/-- the sign at a place, if this one is the spy: 13 for none -/
def lsV (T : TD) (F : FS) (p x : Nat) : Int32 := if x < l_n (yrsM T (nI p) (f_S F) 20) then l_g (yrsM T (nI p) (f_S F) 20) 0 x else 13
def lsI (T : TD) (F : FS) (x : Nat) : Nat → Int32
  | 0 => 0
  | k + 1 => if hsB T F k then lsI T F x k ||| sbI (lsV T F k x) else lsI T F x k
theorem lsV_ok {T : TD} {F : FS} (oT : okT T) (oF : okF T F) (p x : Nat) : ∃ b, b < 14 ∧ lsV T F p x = nI b := by
  unfold lsV
  by_cases h : x < l_n (yrsM T (nI p) (f_S F) 20)
  · rw [if_pos h]; obtain ⟨s, s1, s2⟩ := (oF.S.1.yrs oT 20).2.1 x h; exact ⟨s, by omega, s2⟩
  · rw [if_neg h]; exact ⟨13, by decide, rfl⟩
theorem lsI_ok {T : TD} {F : FS} (oT : okT T) (oF : okF T F) (x : Nat) : ∀ k, ∃ m, m < 16384 ∧ lsI T F x k = nI m
  | 0 => ⟨0, by decide, rfl⟩
  | k + 1 => by
    obtain ⟨m, m1, m2⟩ := lsI_ok oT oF x k
    rw [lsI]
    by_cases h : hsB T F k = true
    · obtain ⟨b, b1, b2⟩ := lsV_ok oT oF k x
      rw [if_pos h, m2, b2, (sb_tab b b1).1, nx_or]
      exact ⟨m ||| 2 ^ b, Nat.or_lt_two_pow (n := 14) m1 (sb_tab b b1).2, rfl⟩
    · rw [if_neg h]; exact ⟨m, m1, m2⟩
def lpN (T : TD) (F : FS) (x : Nat) : Nat := pcN (lsI T F x (t_n T)).toNatClampNeg
def liE (S : LfS) : Nat := if 400 < l_n S + 60 then 400 else l_n S + 60
def liR (T : TD) (F : FS) (s : Nat) : Nat → Int32 × Nat
  | 0 => (-1, 0)
  | i + 1 => if (liR T F s i).2 < lpN T F (s + i) then (nI (s + i), lpN T F (s + i)) else liR T F s i
theorem liR_le (T : TD) (F : FS) (s : Nat) : ∀ i, (liR T F s i).2 ≤ 16
  | 0 => Nat.zero_le _
  | i + 1 => by
    rw [liR]
    by_cases h : (liR T F s i).2 < lpN T F (s + i)
    · rw [if_pos h]; exact pc_le _
    · rw [if_neg h]; exact liR_le T F s i
def lisM (T : TD) (F : FS) (w : Int32) : Nat × Int32 := if inB w.toInt 0 1 then (0, if w = 0 then (liR T F (l_n (f_S F)) (liE (f_S F) - l_n (f_S F))).1 else nI (liR T F (l_n (f_S F)) (liE (f_S F) - l_n (f_S F))).2) else (1, 0)
theorem lisM_1 {T : TD} {F : FS} {w : Int32} (h : inB w.toInt 0 1 = false) : lisM T F w = (1, 0) := by unfold lisM; rw [h]; rfl
theorem lisM_0 {T : TD} {F : FS} {w : Int32} (h : inB w.toInt 0 1 = true) : lisM T F w = (0, if w = 0 then (liR T F (l_n (f_S F)) (liE (f_S F) - l_n (f_S F))).1 else nI (liR T F (l_n (f_S F)) (liE (f_S F) - l_n (f_S F))).2) := by unfold lisM; rw [h]; rfl
theorem mnN2 {a b : Nat} (ha : a < 2 ^ 31) (hb : b < 2 ^ 31) : (if nI b < nI a then nI b else nI a) = nI (if b < a then b else a) := by
  by_cases h : b < a
  · rw [if_pos h, if_pos (nI_lt h ha)]
  · rw [if_neg h, if_neg (nI_nlt (by omega) hb)]
def FZ (t : Nat) (g h : G2) : Prop := ∀ y, ¬ (41 ≤ y ∧ y ≤ 50) → y ≠ t + 12 → y ≠ 83 → h y = g y
theorem FZ.tr {t : Nat} {g h k : G2} (h1 : FZ t g h) (h2 : FZ t h k) : FZ t g k := fun y a b c => (h2 y a b c).trans (h1 y a b c)
theorem FU.fz {t : Nat} {g h : G2} (h1 : FU t g h) : FZ t g h := fun y a b _ => h1 y a b
theorem FZ.fc {t : Nat} {g h : G2} (ht : is_town t) (h1 : FZ t g h) : FC g h := fun y hy => h1 y (by unfold scC at hy; omega) (by unfold scC at hy; unfold is_town at ht; omega) (by unfold scC at hy; omega)
theorem FZ.tn {t : Nat} {g h : G2} {T : TD} (ht : is_town t) (h1 : FZ t g h) (hT : RTn g t T) : RTn h t T := hT.fa ht (fun y y1 y2 y3 => h1 y (by omega) y3 (by omega))
theorem FZ.lf {t : Nat} {g h : G2} {T : TD} {sp : Int32} {S : LfS} (ht : is_town t) (h1 : FZ t g h) (hR : RLf g 31 T sp S) : RLf h 31 T sp S := hR.cg (fun k hk => h1 _ (by omega) (by unfold is_town at ht; omega) (by omega))
theorem FZ.ch {t : Nat} {g h : G2} {F : FS} (ht : is_town t) (f : FZ t g h) (hh : RCh g 65 F) : RCh h 65 F := hh.cg (f _ (by decide) (by unfold is_town at ht; omega) (by decide)) (f _ (by decide) (by unfold is_town at ht; omega) (by decide)) (f _ (by decide) (by unfold is_town at ht; omega) (by decide))
theorem c_X11_gatherSigns {E : En} {d : Nat} {Q : QT} {X : XT} {g : G2} {n m e : Nat} (hn : g 31 3 = nI n) (hm : g 41 3 = nI m) (h4 : m ≤ 400) (he : e ≤ 400) (hne : n ≤ e) (hq : ∀ h, (∀ y, y ≠ 83 → h y = g y) → (∀ x, n ≤ x → x < e → h 83 x = g 83 x ||| sbI (if x < m then g 42 x else 13)) → Q none h) : M E md_X11_gatherSigns d [.ref 0, .int (nI e)] g Q X := by
  refine M.of _ rfl rfl (Nat.le_of_ble_eq_true rfl) ?_
  have LP : ∀ i, i ≤ e → n ≤ i → ∀ h, (∀ y, y ≠ 83 → h y = g y) → (∀ x, n ≤ x → x < i → h 83 x = g 83 x ||| sbI (if x < m then g 42 x else 13)) → (∀ x, i ≤ x → h 83 x = g 83 x) → B E md_X11_gatherSigns d Q X 8 [(0, .ref 0), (1, .int (nI e)), (2, .int (nI i))] [] h 0 := by
    refine lp_up (fun i hi ih hni h hF hA hB => ?_)
    refine b_iload_n dX11_gatherSigns_8 rfl rfl ?_
    refine b_iload_n dX11_gatherSigns_9 rfl rfl ?_
    refine b_icmp_ge (tgt := 55) dX11_gatherSigns_10 (by decide) (fun h10 => ?_) (fun h10 => ?_)
    · have e10 : e ≤ i := nn_le (a := e) (b := i) (by omega) (by omega) h10
      have ee : i = e := by omega
      subst ee
      refine b_vret rfl (by decide) dX11_gatherSigns_55 ?_
      exact hq h hF (fun x x1 x2 => hA x x1 x2)
    · have e10 : i < e := nn_nle (a := e) (b := i) (by omega) (by omega) h10
      refine b_aload_n dX11_gatherSigns_13 rfl rfl ?_
      refine b_getR (b := 83) lf_X11_82 rfl rfl dX11_gatherSigns_14 ?_
      refine b_iload_n dX11_gatherSigns_17 rfl rfl ?_
      refine b_dup2 dX11_gatherSigns_18 rfl rfl ?_
      refine b_ildN (j := i) dX11_gatherSigns_19 (rfl) (by show _ < 401; omega) ?_
      refine b_iconst (v := 1) dX11_gatherSigns_20 (by decide +kernel) ?_
      refine b_iload_n dX11_gatherSigns_21 rfl rfl ?_
      refine b_aload_n dX11_gatherSigns_22 rfl rfl ?_
      refine b_getR (b := 41) lf_X11_62 rfl rfl dX11_gatherSigns_23 ?_
      refine b_getI lf_X11_140 (life_c is_life41) dX11_gatherSigns_26 ?_
      refine b_topE (y := nI m) (by rw [hF 41 (by decide)]; exact hm) ?_
      refine b_icmp_ge (tgt := 44) dX11_gatherSigns_29 (by decide) (fun h29 => ?_) (fun h29 => ?_)
      · have e29 : m ≤ i := nn_le (a := m) (b := i) (by omega) (by omega) h29
        refine b_bipush (v := 13) dX11_gatherSigns_44 (by decide +kernel) ?_
        refine b_ishl dX11_gatherSigns_46 ?_
        refine b_ior dX11_gatherSigns_47 ?_
        refine b_istN (j := i) dX11_gatherSigns_48 (rfl) (by show _ < 401; omega) ?_
        refine b_incN (j := i) (lv' := [(0, _), (1, _), (2, _)]) dX11_gatherSigns_49 rfl rfl (by decide) rfl rfl ?_
        refine b_goto (tgt := 8) dX11_gatherSigns_52 (by decide) ?_
        refine ih (i + 1) (by omega) (by omega) (by omega) _ (fun y hy => by rw [up2_f _ _ _ _ hy]; exact hF y hy) (fun x x1 x2 => ?_) (fun x x1 => by rw [up2_k _ _ _ _ (by omega)]; exact hB x (by omega))
        by_cases ex : x = i
        · subst ex; rw [up2_s, hB x (Nat.le_refl _), if_neg (Nat.not_lt.mpr e29)]; rfl
        · rw [up2_k _ _ _ _ ex]; exact hA x x1 (by omega)
      · have e29 : i < m := nn_nle (a := m) (b := i) (by omega) (by omega) h29
        refine b_aload_n dX11_gatherSigns_32 rfl rfl ?_
        refine b_getR (b := 41) lf_X11_62 rfl rfl dX11_gatherSigns_33 ?_
        refine b_getR (b := 42) lf_X11_215 (life_c is_life41) (life_r0 is_life41) dX11_gatherSigns_36 ?_
        refine b_iload_n dX11_gatherSigns_39 rfl rfl ?_
        refine b_ildN (j := i) dX11_gatherSigns_40 (rfl) (by rw [(life_n1 is_life41)]; omega) ?_
        refine b_topE (y := g 42 i) (by rw [hF 42 (by decide)]) ?_
        refine b_goto (tgt := 46) dX11_gatherSigns_41 (by decide) ?_
        refine b_ishl dX11_gatherSigns_46 ?_
        refine b_ior dX11_gatherSigns_47 ?_
        refine b_istN (j := i) dX11_gatherSigns_48 (rfl) (by show _ < 401; omega) ?_
        refine b_incN (j := i) (lv' := [(0, _), (1, _), (2, _)]) dX11_gatherSigns_49 rfl rfl (by decide) rfl rfl ?_
        refine b_goto (tgt := 8) dX11_gatherSigns_52 (by decide) ?_
        refine ih (i + 1) (by omega) (by omega) (by omega) _ (fun y hy => by rw [up2_f _ _ _ _ hy]; exact hF y hy) (fun x x1 x2 => ?_) (fun x x1 => by rw [up2_k _ _ _ _ (by omega)]; exact hB x (by omega))
        by_cases ex : x = i
        · subst ex; rw [up2_s, hB x (Nat.le_refl _), if_pos e29]; rfl
        · rw [up2_k _ _ _ _ ex]; exact hA x x1 (by omega)
  refine b_aload_n dX11_gatherSigns_0 rfl rfl ?_
  refine b_getR (b := 31) lf_X11_33 rfl rfl dX11_gatherSigns_1 ?_
  refine b_getI lf_X11_140 (life_c is_life31) dX11_gatherSigns_4 ?_
  refine b_topE (y := nI n) (hn) ?_
  refine b_istore_n (lv' := [(0, _), (1, _), (2, _)]) dX11_gatherSigns_7 rfl (by decide) rfl rfl ?_
  exact LP n hne (Nat.le_refl _) g (fun _ _ => rfl) (fun x x1 x2 => absurd x1 (by omega)) (fun _ _ => rfl)
theorem c_X11_listen {E : En} {d : Nat} {Q : QT} {X : XT} {g : G2} {t : Nat} (ht : is_town t) (h0 : g 0 2 = nI t) {T : TD} {F : FS} {w : Int32} (hR : RLf g 31 T (-1) (f_S F)) (hH : RCh g 65 F) (hT : RTn g t T) (oT : okT T) (oF : okF T F) (hq : ∀ h, FC g h → (lisM T F w).1 = 0 → Q (some (.int (lisM T F w).2)) h) (hx : ∀ h, FC g h → (lisM T F w).1 = 1 → X nsN h) : M E md_X11_listen (d + 7) [.ref 0, .int w] g Q X := by
  refine M.of _ rfl rfl (Nat.le_of_ble_eq_true rfl) ?_
  have ht5 : t = 5 ∨ t = 18 := ht
  refine b_iload_n dX11_listen_0 rfl rfl ?_
  refine b_iconst (v := 1) dX11_listen_1 (by decide +kernel) ?_
  refine b_callS (As := [_, _]) (st := []) dX11_listen_2 lk_X11_198 lm_X11_needWhat ls_X11_needWhat rfl rfl (Nat.le_of_ble_eq_true rfl) (Nat.le_refl _) (by decide) ?_
  refine c_X11_needWhat (fun hw => ?_) (fun hw => hx g (FC.rf g) (by rw [lisM_1 hw]))
  rw [lisM_0 hw] at hq
  have h8 := hT.le
  have h400 := hR.le
  have he1 : liE (f_S F) ≤ 400 := by unfold liE; split <;> omega
  have he2 : l_n (f_S F) ≤ liE (f_S F) := by unfold liE; split <;> omega
  have he3 : 60 ≤ liE (f_S F) := by unfold liE; split <;> omega
  have L3 : ∀ i, i ≤ liE (f_S F) - l_n (f_S F) → ∀ h, FZ t g h → (∀ x, l_n (f_S F) ≤ x → x < liE (f_S F) → h 83 x = lsI T F x (t_n T)) → B E md_X11_listen (d + 7) Q X 108 [(0, .ref 0), (1, .int w), (2, .int (nI (liE (f_S F)))), (3, .int (liR T F (l_n (f_S F)) i).1), (4, .int (nI (liR T F (l_n (f_S F)) i).2)), (5, .int (nI (l_n (f_S F) + i)))] [] h 1 := by
    refine lp_up (fun i hi ih h Z hrow => ?_)
    refine b_iload dX11_listen_108 rfl ?_
    refine b_iload_n dX11_listen_110 rfl rfl ?_
    refine b_icmp_ge (tgt := 146) dX11_listen_111 (by decide) (fun h111 => ?_) (fun h111 => ?_)
    · have e111 : (liE (f_S F)) ≤ ((l_n (f_S F) + i)) := nn_le (a := (liE (f_S F))) (b := ((l_n (f_S F) + i))) (by omega) (by omega) h111
      have ee : i = liE (f_S F) - l_n (f_S F) := by omega
      subst ee
      refine b_iload_n dX11_listen_146 rfl rfl ?_
      refine b_if_ne (tgt := 154) dX11_listen_147 (by decide) (fun h147 => ?_) (fun h147 => ?_)
      · refine b_iload dX11_listen_154 rfl ?_
        refine b_iret rfl (by decide) dX11_listen_156 ?_
        have hq := hq h (Z.fc ht) rfl
        rw [if_neg h147] at hq
        exact hq
      · refine b_iload_n dX11_listen_150 rfl rfl ?_
        refine b_goto (tgt := 156) dX11_listen_151 (by decide) ?_
        refine b_iret rfl (by decide) dX11_listen_156 ?_
        have hq := hq h (Z.fc ht) rfl
        rw [if_pos h147] at hq
        exact hq
    · have e111 : ((l_n (f_S F) + i)) < (liE (f_S F)) := nn_nle (a := (liE (f_S F))) (b := ((l_n (f_S F) + i))) (by omega) (by omega) h111
      refine b_aload_n dX11_listen_114 rfl rfl ?_
      refine b_getR (b := 83) lf_X11_82 rfl rfl dX11_listen_115 ?_
      refine b_iload dX11_listen_118 rfl ?_
      refine b_ildN (j := (l_n (f_S F) + i)) dX11_listen_120 (rfl) (by show _ < 401; omega) ?_
      refine b_topE (y := lsI T F (l_n (f_S F) + i) (t_n T)) (hrow _ (by omega) (by omega)) ?_
      refine b_callS (As := [_]) (st := []) dX11_listen_121 lk_X11_318 lm_J6_bitCount_0f7a4 ls_J6_bitCount_0f7a4 rfl rfl (Nat.le_of_ble_eq_true rfl) (Nat.le_refl _) (by decide) ?_
      refine c_bitCount ?_
      obtain ⟨m, m1, m2⟩ := lsI_ok oT oF (l_n (f_S F) + i) (t_n T)
      have ev : bcI (lsI T F (l_n (f_S F) + i) (t_n T)) = nI (lpN T F (l_n (f_S F) + i)) := by unfold lpN; rw [m2, bc_pc m1, nI_cl (by omega)]
      rw [ev]
      have hl1 := pc_le (lsI T F (l_n (f_S F) + i) (t_n T)).toNatClampNeg
      have hl1 : lpN T F (l_n (f_S F) + i) ≤ 16 := hl1
      have hl2 := liR_le T F (l_n (f_S F)) i
      refine b_istore (lv' := [(0, _), (1, _), (2, _), (3, _), (4, _), (5, _), (6, _)]) dX11_listen_124 (by decide) rfl rfl ?_
      refine b_iload dX11_listen_126 rfl ?_
      refine b_iload dX11_listen_128 rfl ?_
      refine b_icmp_le (tgt := 140) dX11_listen_130 (by decide) (fun h130 => ?_) (fun h130 => ?_)
      · have e130 : (lpN T F (l_n (f_S F) + i)) ≤ ((liR T F (l_n (f_S F)) i).2) := nn_le (a := (lpN T F (l_n (f_S F) + i))) (b := ((liR T F (l_n (f_S F)) i).2)) (by omega) (by omega) h130
        refine b_incN (j := (l_n (f_S F) + i)) (lv' := [(0, _), (1, _), (2, _), (3, _), (4, _), (5, _), (6, _)]) dX11_listen_140 rfl rfl (by decide) rfl rfl ?_
        refine b_goto (tgt := 108) dX11_listen_143 (by decide) ?_
        refine b_take 6 ?_
        have z := ih (i + 1) (by omega) (by omega) h Z hrow
        rw [liR, if_neg (Nat.not_lt.mpr e130)] at z
        exact z
      · have e130 : ((liR T F (l_n (f_S F)) i).2) < (lpN T F (l_n (f_S F) + i)) := nn_nle (a := (lpN T F (l_n (f_S F) + i))) (b := ((liR T F (l_n (f_S F)) i).2)) (by omega) (by omega) h130
        refine b_iload dX11_listen_133 rfl ?_
        refine b_istore (lv' := [(0, _), (1, _), (2, _), (3, _), (4, _), (5, _), (6, _)]) dX11_listen_135 (by decide) rfl rfl ?_
        refine b_iload dX11_listen_137 rfl ?_
        refine b_istore_n (lv' := [(0, _), (1, _), (2, _), (3, _), (4, _), (5, _), (6, _)]) dX11_listen_139 rfl (by decide) rfl rfl ?_
        refine b_incN (j := (l_n (f_S F) + i)) (lv' := [(0, _), (1, _), (2, _), (3, _), (4, _), (5, _), (6, _)]) dX11_listen_140 rfl rfl (by decide) rfl rfl ?_
        refine b_goto (tgt := 108) dX11_listen_143 (by decide) ?_
        refine b_take 6 ?_
        have z := ih (i + 1) (by omega) (by omega) h Z hrow
        rw [liR, if_pos e130] at z
        exact z
  have L2 : ∀ p, p ≤ t_n T → ∀ h, FZ t g h → TU h (f_S F) → (∀ x, l_n (f_S F) ≤ x → x < liE (f_S F) → h 83 x = lsI T F x p) → B E md_X11_listen (d + 7) Q X 61 [(0, .ref 0), (1, .int w), (2, .int (nI (liE (f_S F)))), (3, .int (nI p))] [] h 1 := by
    refine lp_up (fun p hp ih h Z tu hrow => ?_)
    refine b_iload_n dX11_listen_61 rfl rfl ?_
    refine b_aload_n dX11_listen_62 rfl rfl ?_
    refine b_getD lf_X11_26 rfl (by rw [Z 0 (by decide) (by omega) (by decide)]; exact h0) (town_31 ht) dX11_listen_63 ?_
    refine b_getI lf_X11_124 (town_c ht) dX11_listen_66 ?_
    refine b_topE (y := nI (t_n T)) ((Z.tn ht hT).n) ?_
    refine b_icmp_ge (tgt := 94) dX11_listen_69 (by decide) (fun h69 => ?_) (fun h69 => ?_)
    · have e69 : (t_n T) ≤ p := nn_le (a := (t_n T)) (b := p) (by omega) (by omega) h69
      have ee : p = t_n T := by omega
      subst ee
      refine b_iconst (v := (-1)) dX11_listen_94 (by decide +kernel) ?_
      refine b_istore_n (lv' := [(0, _), (1, _), (2, _), (3, _)]) dX11_listen_95 rfl (by decide) rfl rfl ?_
      refine b_iconst (v := 0) dX11_listen_96 (by decide +kernel) ?_
      refine b_istore (lv' := [(0, _), (1, _), (2, _), (3, _), (4, _)]) dX11_listen_97 (by decide) rfl rfl ?_
      refine b_aload_n dX11_listen_99 rfl rfl ?_
      refine b_getR (b := 31) lf_X11_33 rfl rfl dX11_listen_100 ?_
      refine b_getI lf_X11_140 (life_c is_life31) dX11_listen_103 ?_
      refine b_topE (y := nI ((l_n (f_S F) + 0))) ((Z.lf ht hR).n) ?_
      refine b_istore (lv' := [(0, _), (1, _), (2, _), (3, _), (4, _), (5, _)]) dX11_listen_106 (by decide) rfl rfl ?_
      exact L3 0 (by omega) h Z hrow
    · have e69 : p < (t_n T) := nn_nle (a := (t_n T)) (b := p) (by omega) (by omega) h69
      refine b_aload_n dX11_listen_72 rfl rfl ?_
      refine b_iload_n dX11_listen_73 rfl rfl ?_
      refine b_iload_n dX11_listen_74 rfl rfl ?_
      refine b_iconst (v := 1) dX11_listen_75 (by decide +kernel) ?_
      refine b_isub dX11_listen_76 ?_
      refine b_topE (nI_sub (liE (f_S F)) 1 (by omega)) ?_
      refine b_callV (As := [_, _]) (st := []) dX11_listen_77 lk_X11_339 lm_X11_wouldBeHeard lv_X11_wouldBeHeard rfl (by decide) rfl rfl rfl (Nat.le_of_ble_eq_true rfl) (Nat.le_refl _) (by decide) ?_
      refine c_X11_wouldBe1 (z := liE (f_S F) - 1) ht (by rw [Z 0 (by decide) (by omega) (by decide)]; exact h0) (Z.lf ht hR) (Z.ch ht hH) (Z.tn ht hT) oT oF tu (by omega) (by omega) (fun h3 k U3 hR3 k1 k2 => ?_)
      have h5 := hR3.le
      refine b_if_eq (tgt := 88) dX11_listen_80 (by decide) (fun h80 => ?_) (fun h80 => ?_)
      · have e80 := b2i_0 h80
        refine b_incN (j := p) (lv' := [(0, _), (1, _), (2, _), (3, _)]) dX11_listen_88 rfl rfl (by decide) rfl rfl ?_
        refine b_goto (tgt := 61) dX11_listen_91 (by decide) ?_
        refine ih (p + 1) (by omega) (by omega) h3 (Z.tr U3.fz) (hR3.tu (yrsM_pre T (nI p) (f_S F) k)) (fun x x1 x2 => ?_)
        rw [U3 83 (by decide) (by omega), hrow x x1 x2, lsI, if_neg (by unfold hsB; rw [e80]; decide)]
      · have e80 := b2i_1 h80
        refine b_aload_n dX11_listen_83 rfl rfl ?_
        refine b_iload_n dX11_listen_84 rfl rfl ?_
        refine b_callV (As := [_]) (st := []) dX11_listen_85 lk_X11_355 lm_X11_gatherSigns lv_X11_gatherSigns rfl (by decide) rfl rfl rfl (Nat.le_of_ble_eq_true rfl) (Nat.le_refl _) (by decide) ?_
        refine c_X11_gatherSigns (U3.lf ht (Z.lf ht hR)).n hR3.n hR3.le (by omega) (by omega) (fun h4 G4 A4 => ?_)
        refine b_incN (j := p) (lv' := [(0, _), (1, _), (2, _), (3, _)]) dX11_listen_88 rfl rfl (by decide) rfl rfl ?_
        refine b_goto (tgt := 61) dX11_listen_91 (by decide) ?_
        refine ih (p + 1) (by omega) (by omega) h4 (Z.tr (U3.fz.tr (fun y _ _ y3 => G4 y y3))) (RLf.tu (hR3.cg (fun k hk => G4 _ (by omega))) (yrsM_pre T (nI p) (f_S F) k)) (fun x x1 x2 => ?_)
        rw [A4 x x1 x2, U3 83 (by decide) (by omega), hrow x x1 x2, lsI, if_pos (show hsB T F p = true from e80)]
        have em := yrsM_mono T (nI p) (f_S F) k1
        unfold lsV
        by_cases c : x < l_n (yrsM T (nI p) (f_S F) k)
        · rw [if_pos c, if_pos (Nat.lt_of_lt_of_le c em.1), show h3 42 x = _ from hR3.sg x c, em.2 0 (by decide) x c]
        · have k9 : k = 20 := by omega
          subst k9
          rw [if_neg c, if_neg c]
  have L1 : ∀ i, i ≤ liE (f_S F) → l_n (f_S F) ≤ i → ∀ h, (∀ y, y ≠ 83 → h y = g y) → (∀ x, l_n (f_S F) ≤ x → x < i → h 83 x = 0) → B E md_X11_listen (d + 7) Q X 30 [(0, .ref 0), (1, .int w), (2, .int (nI (liE (f_S F)))), (3, .int (nI i))] [] h 1 := by
    refine lp_up (fun i hi ih hni h hF hA => ?_)
    refine b_iload_n dX11_listen_30 rfl rfl ?_
    refine b_iload_n dX11_listen_31 rfl rfl ?_
    refine b_icmp_ge (tgt := 48) dX11_listen_32 (by decide) (fun h32 => ?_) (fun h32 => ?_)
    · have e32 : (liE (f_S F)) ≤ i := nn_le (a := (liE (f_S F))) (b := i) (by omega) (by omega) h32
      have ee : i = liE (f_S F) := by omega
      subst ee
      refine b_aload_n dX11_listen_48 rfl rfl ?_
      refine b_getR (b := 41) lf_X11_62 rfl rfl dX11_listen_49 ?_
      refine b_aload_n dX11_listen_52 rfl rfl ?_
      refine b_getR (b := 31) lf_X11_33 rfl rfl dX11_listen_53 ?_
      refine b_callV (As := [_]) (st := []) dX11_listen_56 lk_X11_305 lm_X5_copyTune lv_X5_copyTune (life_c is_life41) (by decide) rfl rfl rfl (Nat.le_of_ble_eq_true rfl) (Nat.le_refl _) (by decide) ?_
      refine c_X5_copyTune is_life41 is_life31 (by decide) (by rw [hF 31 (by decide)]; exact hR.n) hR.le (fun h1 F1 t1 t2 t3 => ?_)
      have U1 : FU t h h1 := FU.ct F1
      have Z1 : FZ t g h1 := FZ.tr (fun y _ _ y3 => hF y y3) U1.fz
      have tu := TU.ct (hR.fc (FC.of83 hF)) t1 t2 t3
      have F1 : ∀ y, ¬ (41 ≤ y ∧ y ≤ 50) → h1 y = h y := fun y y1 => F1 y (by simp; omega)
      refine b_iconst (v := 0) dX11_listen_59 (by decide +kernel) ?_
      refine b_istore_n (lv' := [(0, _), (1, _), (2, _), (3, _)]) dX11_listen_60 rfl (by decide) rfl rfl ?_
      exact L2 0 (Nat.zero_le _) h1 Z1 tu (fun x x1 x2 => by rw [F1 83 (by decide)]; exact hA x x1 (by omega))
    · have e32 : i < (liE (f_S F)) := nn_nle (a := (liE (f_S F))) (b := i) (by omega) (by omega) h32
      refine b_aload_n dX11_listen_35 rfl rfl ?_
      refine b_getR (b := 83) lf_X11_82 rfl rfl dX11_listen_36 ?_
      refine b_iload_n dX11_listen_39 rfl rfl ?_
      refine b_iconst (v := 0) dX11_listen_40 (by decide +kernel) ?_
      refine b_istN (j := i) dX11_listen_41 (rfl) (by show _ < 401; omega) ?_
      refine b_incN (j := i) (lv' := [(0, _), (1, _), (2, _), (3, _)]) dX11_listen_42 rfl rfl (by decide) rfl rfl ?_
      refine b_goto (tgt := 30) dX11_listen_45 (by decide) ?_
      refine ih (i + 1) (by omega) (by omega) (by omega) _ (fun y hy => by rw [up2_f _ _ _ _ hy]; exact hF y hy) (fun x x1 x2 => ?_)
      by_cases ex : x = i
      · rw [ex, up2_s]
      · rw [up2_k _ _ _ _ ex]; exact hA x x1 (by omega)
  refine b_aload_n dX11_listen_5 rfl rfl ?_
  refine b_getR (b := 31) lf_X11_33 rfl rfl dX11_listen_6 ?_
  refine b_getI lf_X11_140 (life_c is_life31) dX11_listen_9 ?_
  refine b_topE (y := nI (l_n (f_S F))) (hR.n) ?_
  refine b_bipush (v := 60) dX11_listen_12 (by decide +kernel) ?_
  refine b_iadd dX11_listen_14 ?_
  refine b_topE (nI_add (l_n (f_S F)) 60) ?_
  refine b_sipush (v := 400) dX11_listen_15 (by decide +kernel) ?_
  refine b_min dX11_listen_18 lc_X11_352 (by omega) (Nat.le_of_ble_eq_true rfl) (by decide) ?_
  refine b_topE (y := nI (liE (f_S F))) (mnN2 (b := 400) (by omega) (by decide)) ?_
  refine b_istore_n (lv' := [(0, _), (1, _), (2, _)]) dX11_listen_21 rfl (by decide) rfl rfl ?_
  refine b_aload_n dX11_listen_22 rfl rfl ?_
  refine b_getR (b := 31) lf_X11_33 rfl rfl dX11_listen_23 ?_
  refine b_getI lf_X11_140 (life_c is_life31) dX11_listen_26 ?_
  refine b_topE (y := nI (l_n (f_S F))) (hR.n) ?_
  refine b_istore_n (lv' := [(0, _), (1, _), (2, _), (3, _)]) dX11_listen_29 rfl (by decide) rfl rfl ?_
  exact L1 (l_n (f_S F)) he2 (Nat.le_refl _) g (fun _ _ => rfl) (fun x x1 x2 => absurd x1 (by omega))
