theorem setS_c {S : LfS} {j : Nat} {x : Int32} {c : Nat} (hc : c ≠ 3) : l_g (setS S j x) c = l_g S c := by
  show up2 (l_g S) 3 j x c = _
  exact up2_f _ _ _ _ hc
theorem setS_pre (S : LfS) (j : Nat) (x : Int32) : preL S (setS S j x) := ⟨Nat.le_refl _, fun c hc i _ => by rw [setS_c (by omega)]⟩
theorem okS.set {T : TD} {S : LfS} {j : Nat} {x : Int32} (o : okS T S) : okS T (setS S j x) := by
  obtain ⟨a, b, c, e⟩ := o
  refine ⟨a, ?_, ?_, ?_⟩
  · rw [setS_c (by decide)]; exact b
  · rw [setS_c (by decide)]; exact c
  · rw [setS_c (by decide)]; exact e
theorem cntN_0 {P : Nat → Bool} : ∀ {n : Nat}, cntN P n = 0 → ∀ i, i < n → P i = false
  | 0, _, i, h => absurd h (by omega)
  | n + 1, h, i, hi => by
    rw [cntN] at h
    by_cases e : i = n
    · subst e; cases q : P i with
      | false => rfl
      | true => rw [q] at h; simp at h
    · exact cntN_0 (n := n) (by omega) i (by omega)
/-- those who'd go -/
def gnS (S : LfS) (m : Nat) : LfS := setS S 2 (l_g S 3 2 ||| nI m)
def quB (T : TD) (S : LfS) (n m : Nat) : Bool := cntN (rsP (l_g (yrsM T (-1) (gnS S m) n) 0) (l_n S) 6) (l_n (yrsM T (-1) (gnS S m) n)) == 0
theorem rsP_0 {f : Nat → Int32} {s i : Nat} {u : Int32} (h : s ≤ i) : rsP f s u i = rsP f 0 u i := by unfold rsP; rw [decide_eq_true h, decide_eq_true (Nat.zero_le i)]
theorem quB_y {T : TD} {S : LfS} {n m : Nat} (h : ∀ j, l_n S ≤ j → j < l_n (yrsM T (-1) (gnS S m) n) → rsP (l_g (yrsM T (-1) (gnS S m) n) 0) 0 6 j = false) : quB T S n m = true := by
  unfold quB
  rw [cntN_z (fun i hi => ?_)]; rfl
  by_cases e : l_n S ≤ i
  · rw [rsP_0 e]; exact h i e hi
  · unfold rsP; rw [decide_eq_false e]; simp
theorem rsP_pre {R K : LfS} (h : preL R K) {i : Nat} {u : Int32} (hi : i < l_n R) : rsP (l_g R 0) 0 u i = rsP (l_g K 0) 0 u i := by
  unfold rsP; rw [h.2 0 (by decide) i hi, h.2 0 (by decide) (i - 1) (by omega)]
theorem quB_n {T : TD} {S : LfS} {n m k j : Nat} (hk : k ≤ n) (h1 : l_n S ≤ j) (h2 : j < l_n (yrsM T (-1) (gnS S m) k)) (h3 : rsP (l_g (yrsM T (-1) (gnS S m) k) 0) 0 6 j = true) : quB T S n m = false := by
  have hp := yrsM_mono T (-1) (gnS S m) hk
  unfold quB
  refine beq_eq_false_iff_ne.mpr (fun q => ?_)
  have := cntN_0 q j (Nat.lt_of_lt_of_le h2 hp.1)
  rw [rsP_0 h1, ← rsP_pre hp h2, h3] at this
  exact absurd this (by decide)
def maB (S : LfS) (m : Nat) : Bool := nI m &&& (l_g S 3 2 ||| l_g S 3 3) == 0
def qoB (T : TD) (S : LfS) (n m : Nat) : Bool := maB S m && quB T S n m
def QUP (ok : Nat → Bool) (N : Nat) (R : Int32) : Prop := (R = -1 ∧ ∀ m, m < N → ok m = false) ∨ (∃ m, m < N ∧ R = nI m ∧ ok m = true ∧ ∀ k, k < N → ok k = true → pcN m < pcN k ∨ (pcN m = pcN k ∧ m ≤ k))
theorem QUP.uq {ok : Nat → Bool} {N : Nat} {R K : Int32} (h1 : QUP ok N R) (h2 : QUP ok N K) : R = K := by
  rcases h1 with ⟨rfl, a⟩ | ⟨m, a1, rfl, a2, a3⟩
  · rcases h2 with ⟨rfl, _⟩ | ⟨k, b1, rfl, b2, b3⟩
    · rfl
    · rw [a k b1] at b2; exact absurd b2 (by decide)
  · rcases h2 with ⟨rfl, b⟩ | ⟨k, b1, rfl, b2, b3⟩
    · rw [b m a1] at a2; exact absurd a2 (by decide)
    · have e1 := a3 k b1 b2
      have e2 := b3 m a1 a2
      have : m = k := by omega
      rw [this]
noncomputable def quV (T : TD) (S : LfS) (n : Nat) : Int32 := Classical.epsilon (fun R => QUP (qoB T S n) (2 ^ t_n T) R)
theorem quV_eq {T : TD} {S : LfS} {n : Nat} {R : Int32} (h : QUP (qoB T S n) (2 ^ t_n T) R) : quV T S n = R := QUP.uq (Classical.epsilon_spec (p := fun R => QUP (qoB T S n) (2 ^ t_n T) R) ⟨R, h⟩) h
noncomputable def quiM (T : TD) (S : LfS) (n : Int32) : Nat × Int32 := if inB n.toInt 1 10 then (0, quV T S n.toNatClampNeg) else (1, 0)
theorem quiM_1 {T : TD} {S : LfS} {n : Int32} (h : inB n.toInt 1 10 = false) : quiM T S n = (1, 0) := by unfold quiM; rw [h]; rfl
theorem quiM_0 {T : TD} {S : LfS} {n : Nat} (h1 : 1 ≤ n) (h2 : n ≤ 10) : quiM T S (nI n) = (0, quV T S n) := by unfold quiM; rw [inB_nI (by omega) (by omega) (by omega), if_pos rfl, nI_cl (by omega)]
theorem home_eq {n m : Nat} (hn : n < 9) (hm : m < 2 ^ n) (a d : Int32) : nI m &&& ((mskI n &&& (a ^^^ (-1)) &&& (d ^^^ (-1))) ^^^ (-1)) = nI m &&& (a ||| d) := by
  refine b_ext (fun i hi => ?_)
  have h1 := congrArg (fun x => bt x i) (msk_tab n hn m hm).1
  simp only [b_and] at h1
  simp only [b_and, b_xor, b_or, b_m1 i hi]
  cases e1 : bt (nI m) i <;> cases e2 : bt (mskI n) i <;> cases e3 : bt a i <;> cases e4 : bt d i <;> simp_all
theorem c_X11_isQuiet {E : En} {d : Nat} {Q : QT} {X : XT} {g : G2} {t : Nat} (ht : is_town t) (h0 : g 0 2 = nI t) {T : TD} {S : LfS} {n m : Nat} (hR : RLf g 31 T (-1) S) (hT : RTn g t T) (oT : okT T) (tu : TU g S) (hn : n ≤ 10) (hm : m < 256) (hq : ∀ h, FU t g h → TU h S → Q (some (.int (b2i (quB T S n m)))) h) : M E md_X11_isQuiet (d + 4) [.ref 0, .int (nI m), .int (nI n)] g Q X := by
  refine M.of _ rfl rfl (Nat.le_of_ble_eq_true rfl) ?_
  have ht5 : t = 5 ∨ t = 18 := ht
  have h4 := hR.le
  have LP : ∀ i, i ≤ n → ∀ h, RLf h 41 T (-1) (yrsM T (-1) (gnS S m) i) → FU t g h → (∀ j, l_n S ≤ j → j < l_n (yrsM T (-1) (gnS S m) i) → rsP (l_g (yrsM T (-1) (gnS S m) i) 0) 0 6 j = false) → B E md_X11_isQuiet (d + 4) Q X 26 [(0, .ref 0), (1, .int (nI m)), (2, .int (nI n)), (3, .int (nI i))] [] h 0 := by
    refine lp_up (fun i hi ih h hR3 U3 hno => ?_)
    have h5 := hR3.le
    refine b_iload_n dX11_isQuiet_26 rfl rfl ?_
    refine b_iload_n dX11_isQuiet_27 rfl rfl ?_
    refine b_icmp_ge (tgt := 73) dX11_isQuiet_28 (by decide) (fun h28 => ?_) (fun h28 => ?_)
    · have e28 : n ≤ i := nn_le (a := n) (b := i) (by omega) (by omega) h28
      have e : i = n := by omega
      subst e
      refine b_iconst (v := 1) dX11_isQuiet_73 (by decide +kernel) ?_
      refine b_zret (Or.inr rfl) rfl (by decide) dX11_isQuiet_74 ?_
      rw [quB_y hno] at hq
      exact hq h U3 (hR3.tu ((setS_pre S 2 _).tr (yrsM_pre T (-1) (gnS S m) i)))
    · have e28 : i < n := nn_nle (a := n) (b := i) (by omega) (by omega) h28
      refine b_aload_n dX11_isQuiet_31 rfl rfl ?_
      refine b_getR (b := 41) lf_X11_62 rfl rfl dX11_isQuiet_32 ?_
      refine b_getI lf_X11_140 (life_c is_life41) dX11_isQuiet_35 ?_
      refine b_topE (y := nI (l_n (yrsM T (-1) (gnS S m) i))) (hR3.n) ?_
      refine b_istore (lv' := [(0, _), (1, _), (2, _), (3, _), (4, _)]) dX11_isQuiet_38 (by decide) rfl rfl ?_
      refine b_aload_n dX11_isQuiet_40 rfl rfl ?_
      refine b_getR (b := 41) lf_X11_62 rfl rfl dX11_isQuiet_41 ?_
      refine b_aload_n dX11_isQuiet_44 rfl rfl ?_
      refine b_getD lf_X11_26 rfl (by rw [U3 0 (by decide) (by omega)]; exact h0) (town_31 ht) dX11_isQuiet_45 ?_
      refine b_callV (As := [_]) (st := []) dX11_isQuiet_48 lk_X11_234 lm_X5_passYear lv_X5_passYear (life_c is_life41) (by decide) rfl rfl rfl (Nat.le_of_ble_eq_true rfl) (Nat.le_refl _) (by decide) ?_
      refine c_X5_passYear is_life41 ht hR3 (U3.tn ht hT) (wfT_of oT) (fun h3 F4 hR4 => ?_)
      have h400 := hR4.le
      refine b_aload_n dX11_isQuiet_51 rfl rfl ?_
      refine b_getR (b := 41) lf_X11_62 rfl rfl dX11_isQuiet_52 ?_
      refine b_iload dX11_isQuiet_55 rfl ?_
      refine b_bipush (v := 6) dX11_isQuiet_57 (by decide +kernel) ?_
      refine b_callV (As := [_, _]) (st := []) dX11_isQuiet_59 lk_X11_285 lm_X5_risesFrom lv_X5_risesFrom (life_c is_life41) (by decide) rfl rfl rfl (Nat.le_of_ble_eq_true rfl) (Nat.le_refl _) (by decide) ?_
      refine c_X5_risesFrom (s := l_n (yrsM T (-1) (gnS S m) i)) is_life41 hR4.n hR4.le (yrM_pre T (-1) _).1 ?_
      have hmc := cntN_le (rsP (h3 42) (l_n (yrsM T (-1) (gnS S m) i)) 6) (l_n (yrM T (-1) (yrsM T (-1) (gnS S m) i)))
      refine b_if_eq (tgt := 67) dX11_isQuiet_62 (by decide) (fun h62 => ?_) (fun h62 => ?_)
      · have e62 : (cntN (rsP (h3 42) (l_n (yrsM T (-1) (gnS S m) i)) 6) (l_n (yrM T (-1) (yrsM T (-1) (gnS S m) i)))) = 0 := nI_inj (b := 0) (by omega) (by decide) h62
        refine b_incN (j := i) (lv' := [(0, _), (1, _), (2, _), (3, _), (4, _)]) dX11_isQuiet_67 rfl rfl (by decide) rfl rfl ?_
        refine b_goto (tgt := 26) dX11_isQuiet_70 (by decide) ?_
        refine b_take 4 ?_
        refine ih (i + 1) (by omega) (by omega) h3 hR4 (U3.tr (FU.py F4)) (fun j j1 j2 => ?_)
        by_cases e : j < l_n (yrsM T (-1) (gnS S m) i)
        · exact (rsP_pre (yrM_pre T (-1) (yrsM T (-1) (gnS S m) i)) e).symm.trans (hno j j1 e)
        · have z := cntN_0 e62 j j2
          rw [rsP_0 (by omega)] at z
          rw [← z]
          exact (rsP_cg hR4.sg j j2).symm
      · have e62 : (cntN (rsP (h3 42) (l_n (yrsM T (-1) (gnS S m) i)) 6) (l_n (yrM T (-1) (yrsM T (-1) (gnS S m) i)))) ≠ 0 := fun q => h62 (by rw [q]; rfl)
        refine b_iconst (v := 0) dX11_isQuiet_65 (by decide +kernel) ?_
        refine b_zret (Or.inl rfl) rfl (by decide) dX11_isQuiet_66 ?_
        have hex : ∃ j, l_n (yrsM T (-1) (gnS S m) i) ≤ j ∧ j < l_n (yrM T (-1) (yrsM T (-1) (gnS S m) i)) ∧ rsP (h3 42) 0 6 j = true := by
          refine Classical.byContradiction (fun q => e62 (cntN_z (fun j hj => ?_)))
          by_cases e : l_n (yrsM T (-1) (gnS S m) i) ≤ j
          · rw [rsP_0 e]; exact Bool.eq_false_iff.mpr (fun z => q ⟨j, e, hj, z⟩)
          · unfold rsP; rw [decide_eq_false e]; simp
        obtain ⟨j, j1, j2, j3⟩ := hex
        have hpr := (yrsM_pre T (-1) (gnS S m) i).1
        have hpr : l_n S ≤ l_n (yrsM T (-1) (gnS S m) i) := hpr
        rw [quB_n (k := i + 1) (j := j) (by omega) (by omega) j2 ((rsP_cg hR4.sg j j2).symm.trans j3)] at hq
        exact hq h3 (U3.tr (FU.py F4)) (hR4.tu ((setS_pre S 2 _).tr (yrsM_pre T (-1) (gnS S m) (i + 1))))
  refine b_aload_n dX11_isQuiet_0 rfl rfl ?_
  refine b_getR (b := 41) lf_X11_62 rfl rfl dX11_isQuiet_1 ?_
  refine b_aload_n dX11_isQuiet_4 rfl rfl ?_
  refine b_getR (b := 31) lf_X11_33 rfl rfl dX11_isQuiet_5 ?_
  refine b_callV (As := [_]) (st := []) dX11_isQuiet_8 lk_X11_309 lm_X5_copyRest lv_X5_copyRest (life_c is_life41) (by decide) rfl rfl rfl (Nat.le_of_ble_eq_true rfl) (Nat.le_refl _) (by decide) ?_
  refine c_X5_copyRest (T := T) (sp := -1) (S := S) is_life41 is_life31 (by decide) hT.le hR tu.1 tu.2.1 tu.2.2 (fun h2 F2 hR2 => ?_)
  refine b_aload_n dX11_isQuiet_11 rfl rfl ?_
  refine b_getR (b := 41) lf_X11_62 rfl rfl dX11_isQuiet_12 ?_
  refine b_dup dX11_isQuiet_15 rfl ?_
  refine b_getI lf_X11_150 (life_c is_life41) dX11_isQuiet_16 ?_
  refine b_iload_n dX11_isQuiet_19 rfl rfl ?_
  refine b_ior dX11_isQuiet_20 ?_
  refine b_putI lf_X11_150 lp_5_6 (life_c is_life41) dX11_isQuiet_21 ?_
  refine b_iconst (v := 0) dX11_isQuiet_24 (by decide +kernel) ?_
  refine b_istore_n (lv' := [(0, _), (1, _), (2, _), (3, _)]) dX11_isQuiet_25 rfl (by decide) rfl rfl ?_
  have hR3 : RLf (up2 h2 41 6 (h2 41 6 ||| nI m)) 41 T (-1) (gnS S m) := by
    rw [hR2.aw]; exact RLf.set (j := 2) hR2 (by decide)
  exact LP 0 (Nat.zero_le _) _ hR3 ((FU.cr F2).tr (fun y y1 y2 => up2_f _ _ _ _ (by omega))) (fun j j1 j2 => absurd j1 (Nat.not_le.mpr j2))
theorem c_X11_quiet {E : En} {d : Nat} {Q : QT} {X : XT} {g : G2} {t : Nat} (ht : is_town t) (h0 : g 0 2 = nI t) {T : TD} {S : LfS} {n0 : Int32} (hR : RLf g 31 T (-1) S) (hT : RTn g t T) (oT : okT T) (hq : ∀ h, FC g h → (quiM T S n0).1 = 0 → Q (some (.int (quiM T S n0).2)) h) (hx : ∀ h, FC g h → (quiM T S n0).1 = 1 → X iaN h) : M E md_X11_quiet (d + 6) [.ref 0, .int n0] g Q X := by
  refine M.of _ rfl rfl (Nat.le_of_ble_eq_true rfl) ?_
  have ht5 : t = 5 ∨ t = 18 := ht
  refine b_iload_n dX11_quiet_0 rfl rfl ?_
  refine b_iconst (v := 1) dX11_quiet_1 (by decide +kernel) ?_
  refine b_icmp_lt (tgt := 11) dX11_quiet_2 (by decide) (fun h2 => ?_) (fun h2 => ?_)
  · have hx := hx g (FC.rf g) (by rw [quiM_1 (inB_lo (by decide) h2)])
    refine b_throwW (text := "not so many years") (n := 39) rfl th_iae (by decide +kernel) (by omega) (by decide) (by decide) dX11_quiet_11 dX11_quiet_14 dX11_quiet_15 dX11_quiet_18 dX11_quiet_21 ?_
    exact hx
  · refine b_iload_n dX11_quiet_5 rfl rfl ?_
    refine b_bipush (v := 10) dX11_quiet_6 (by decide +kernel) ?_
    refine b_icmp_le (tgt := 22) dX11_quiet_8 (by decide) (fun h8 => ?_) (fun h8 => ?_)
    · obtain ⟨n, hn1, hn2, rfl⟩ := in_rng (a := 1) (b := 10) (by decide) (by decide) h2 (Int32.not_lt.mpr h8)
      rw [quiM_0 hn1 hn2] at hq
      have h8 := hT.le
      have hp2 := pow8 h8
      have LO : ∀ c, c ≤ t_n T + 1 → ∀ h, FU t g h → TU h S → (∀ k, k < 2 ^ t_n T → qoB T S n k = true → c ≤ pcN k) → B E md_X11_quiet (d + 6) Q X 51 [(0, .ref 0), (1, .int (nI n)), (2, .int (l_g S 3 2 ||| l_g S 3 3)), (3, .int (nI c))] [] h 0 := by
        refine lp_up (fun c hc ihO h U tu hall => ?_)
        have IN : c ≤ t_n T → ∀ m, m ≤ 2 ^ t_n T → ∀ h, FU t g h → TU h S → (∀ k, k < m → pcN k = c → qoB T S n k = false) → B E md_X11_quiet (d + 6) Q X 65 [(0, .ref 0), (1, .int (nI n)), (2, .int (l_g S 3 2 ||| l_g S 3 3)), (3, .int (nI c)), (4, .int (nI m))] [] h 0 := by
          intro hct
          refine lp_up (fun m hm ih h U tu hno => ?_)
          refine b_iload dX11_quiet_65 rfl ?_
          refine b_iconst (v := 1) dX11_quiet_67 (by decide +kernel) ?_
          refine b_aload_n dX11_quiet_68 rfl rfl ?_
          refine b_getD lf_X11_26 rfl (by rw [U 0 (by decide) (by omega)]; exact h0) (town_31 ht) dX11_quiet_69 ?_
          refine b_getI lf_X11_124 (town_c ht) dX11_quiet_72 ?_
          refine b_topE (y := nI (t_n T)) ((U.tn ht hT).n) ?_
          refine b_ishl dX11_quiet_75 ?_
          refine b_topE (sh_tab (t_n T) (by omega)) ?_
          refine b_icmp_ge (tgt := 126) dX11_quiet_76 (by decide) (fun h76 => ?_) (fun h76 => ?_)
          · have e76 : (2 ^ t_n T) ≤ m := nn_le (a := (2 ^ t_n T)) (b := m) (by omega) (by omega) h76
            refine b_incN (j := c) (lv' := [(0, _), (1, _), (2, _), (3, _), (4, _)]) dX11_quiet_126 rfl rfl (by decide) rfl rfl ?_
            refine b_goto (tgt := 51) dX11_quiet_129 (by decide) ?_
            refine b_take 4 ?_
            refine ihO (c + 1) (by omega) (by omega) h U tu (fun k hk ok => ?_)
            rcases Nat.lt_or_ge c (pcN k) with z | z
            · exact z
            · have := hall k hk ok
              rw [hno k (by omega) (by omega)] at ok; exact absurd ok (by decide)
          · have e76 : m < (2 ^ t_n T) := nn_nle (a := (2 ^ t_n T)) (b := m) (by omega) (by omega) h76
            refine b_iload dX11_quiet_79 rfl ?_
            refine b_callS (As := [_]) (st := []) dX11_quiet_81 lk_X11_318 lm_J6_bitCount_0f7a4 ls_J6_bitCount_0f7a4 rfl rfl (Nat.le_of_ble_eq_true rfl) (Nat.le_refl _) (by decide) ?_
            refine c_bitCount ?_
            rw [bc_pc (by omega)]
            have hpl := pc_le m
            refine b_iload_n dX11_quiet_84 rfl rfl ?_
            refine b_icmp_ne (tgt := 99) dX11_quiet_85 (by decide) (fun h85 => ?_) (fun h85 => ?_)
            · have e85 : (pcN m) ≠ c := fun q => h85 (congrArg nI q)
              refine b_iconst (v := 0) dX11_quiet_99 (by decide +kernel) ?_
              refine b_istore (lv' := [(0, _), (1, _), (2, _), (3, _), (4, _), (5, _)]) dX11_quiet_100 (by decide) rfl rfl ?_
              refine b_iload dX11_quiet_102 rfl ?_
              refine b_if_eq (tgt := 120) dX11_quiet_104 (by decide) (fun h104 => ?_) (fun h104 => ?_)
              · refine b_incN (j := m) (lv' := [(0, _), (1, _), (2, _), (3, _), (4, _), (5, _)]) dX11_quiet_120 rfl rfl (by decide) rfl rfl ?_
                refine b_goto (tgt := 65) dX11_quiet_123 (by decide) ?_
                refine b_take 5 ?_
                refine ih (m + 1) (by omega) (by omega) h U tu (fun k hk => ?_)
                by_cases e : k = m
                · subst e; exact fun q => absurd q e85
                · exact hno k (by omega)
              · exact absurd rfl h104
            · have e85 : (pcN m) = c := nI_inj (a := (pcN m)) (b := c) (by omega) (by omega) h85
              refine b_iload dX11_quiet_88 rfl ?_
              refine b_iload_n dX11_quiet_90 rfl rfl ?_
              refine b_iand dX11_quiet_91 ?_
              refine b_if_ne (tgt := 99) dX11_quiet_92 (by decide) (fun h92 => ?_) (fun h92 => ?_)
              · refine b_iconst (v := 0) dX11_quiet_99 (by decide +kernel) ?_
                refine b_istore (lv' := [(0, _), (1, _), (2, _), (3, _), (4, _), (5, _)]) dX11_quiet_100 (by decide) rfl rfl ?_
                refine b_iload dX11_quiet_102 rfl ?_
                refine b_if_eq (tgt := 120) dX11_quiet_104 (by decide) (fun h104 => ?_) (fun h104 => ?_)
                · refine b_incN (j := m) (lv' := [(0, _), (1, _), (2, _), (3, _), (4, _), (5, _)]) dX11_quiet_120 rfl rfl (by decide) rfl rfl ?_
                  refine b_goto (tgt := 65) dX11_quiet_123 (by decide) ?_
                  refine b_take 5 ?_
                  refine ih (m + 1) (by omega) (by omega) h U tu (fun k hk => ?_)
                  by_cases e : k = m
                  · subst e; exact fun _ => by unfold qoB maB; rw [beq_eq_false_iff_ne.mpr h92]; rfl
                  · exact hno k (by omega)
                · exact absurd rfl h104
              · refine b_iconst (v := 1) dX11_quiet_95 (by decide +kernel) ?_
                refine b_goto (tgt := 100) dX11_quiet_96 (by decide) ?_
                refine b_istore (lv' := [(0, _), (1, _), (2, _), (3, _), (4, _), (5, _)]) dX11_quiet_100 (by decide) rfl rfl ?_
                refine b_iload dX11_quiet_102 rfl ?_
                refine b_if_eq (tgt := 120) dX11_quiet_104 (by decide) (fun h104 => ?_) (fun h104 => ?_)
                · exact absurd h104 (by decide)
                · refine b_aload_n dX11_quiet_107 rfl rfl ?_
                  refine b_iload dX11_quiet_108 rfl ?_
                  refine b_iload_n dX11_quiet_110 rfl rfl ?_
                  refine b_callV (As := [_, _]) (st := []) dX11_quiet_111 lk_X11_323 lm_X11_isQuiet lv_X11_isQuiet rfl (by decide) rfl rfl rfl (Nat.le_of_ble_eq_true rfl) (Nat.le_refl _) (by decide) ?_
                  refine c_X11_isQuiet ht (by rw [U 0 (by decide) (by omega)]; exact h0) (U.lf ht hR) (U.tn ht hT) oT tu hn2 (by omega) (fun h2 F3 tu3 => ?_)
                  refine b_if_eq (tgt := 120) dX11_quiet_114 (by decide) (fun h114 => ?_) (fun h114 => ?_)
                  · have e114 := b2i_0 h114
                    refine b_incN (j := m) (lv' := [(0, _), (1, _), (2, _), (3, _), (4, _), (5, _)]) dX11_quiet_120 rfl rfl (by decide) rfl rfl ?_
                    refine b_goto (tgt := 65) dX11_quiet_123 (by decide) ?_
                    refine b_take 5 ?_
                    refine ih (m + 1) (by omega) (by omega) h2 (U.tr F3) tu3 (fun k hk => ?_)
                    by_cases e : k = m
                    · subst e; exact fun _ => by unfold qoB; rw [e114, Bool.and_false]
                    · exact hno k (by omega)
                  · have e114 := b2i_1 h114
                    refine b_iload dX11_quiet_117 rfl ?_
                    refine b_iret rfl (by decide) dX11_quiet_119 ?_
                    have ok : qoB T S n m = true := by unfold qoB maB; rw [h92, e114]; rfl
                    rw [quV_eq (R := nI m) (Or.inr ⟨m, by omega, rfl, ok, fun k hk okk => ?_⟩)] at hq
                    · exact hq h2 ((U.tr F3).fc ht) rfl
                    · have := hall k hk okk
                      rcases Nat.lt_or_ge (pcN m) (pcN k) with z | z
                      · exact Or.inl z
                      · refine Or.inr ⟨by omega, ?_⟩
                        rcases Nat.lt_or_ge k m with y | y
                        · rw [hno k y (by omega)] at okk; exact absurd okk (by decide)
                        · exact y
        refine b_iload_n dX11_quiet_51 rfl rfl ?_
        refine b_aload_n dX11_quiet_52 rfl rfl ?_
        refine b_getD lf_X11_26 rfl (by rw [U 0 (by decide) (by omega)]; exact h0) (town_31 ht) dX11_quiet_53 ?_
        refine b_getI lf_X11_124 (town_c ht) dX11_quiet_56 ?_
        refine b_topE (y := nI (t_n T)) ((U.tn ht hT).n) ?_
        refine b_icmp_gt (tgt := 132) dX11_quiet_59 (by decide) (fun h59 => ?_) (fun h59 => ?_)
        · have e59 : (t_n T) < c := nn_lt (a := (t_n T)) (b := c) (by omega) (by omega) h59
          refine b_iconst (v := (-1)) dX11_quiet_132 (by decide +kernel) ?_
          refine b_iret rfl (by decide) dX11_quiet_133 ?_
          rw [quV_eq (R := -1) (Or.inl ⟨rfl, fun k hk => ?_⟩)] at hq
          · exact hq h (U.fc ht) rfl
          · refine Bool.eq_false_iff.mpr (fun ok => ?_)
            have h1 := hall k hk ok
            have h2 := (msk_tab (t_n T) (by omega) k hk).2.2.2
            omega
        · have e59 : c ≤ (t_n T) := nn_nlt (a := (t_n T)) (b := c) (by omega) (by omega) h59
          refine b_iconst (v := 0) dX11_quiet_62 (by decide +kernel) ?_
          refine b_istore (lv' := [(0, _), (1, _), (2, _), (3, _), (4, _)]) dX11_quiet_63 (by decide) rfl rfl ?_
          exact IN e59 0 (Nat.zero_le _) h U tu (fun k hk => absurd hk (by omega))
      refine b_aload_n dX11_quiet_22 rfl rfl ?_
      refine b_getR (b := 31) lf_X11_33 rfl rfl dX11_quiet_23 ?_
      refine b_getI lf_X11_150 (life_c is_life31) dX11_quiet_26 ?_
      refine b_aload_n dX11_quiet_29 rfl rfl ?_
      refine b_getR (b := 31) lf_X11_33 rfl rfl dX11_quiet_30 ?_
      refine b_getI lf_X11_153 (life_c is_life31) dX11_quiet_33 ?_
      rw [hR.aw, hR.de]
      refine b_ior dX11_quiet_36 ?_
      refine b_istore_n (lv' := [(0, _), (1, _), (2, _)]) dX11_quiet_37 rfl (by decide) rfl rfl ?_
      refine b_aload_n dX11_quiet_38 rfl rfl ?_
      refine b_getR (b := 41) lf_X11_62 rfl rfl dX11_quiet_39 ?_
      refine b_aload_n dX11_quiet_42 rfl rfl ?_
      refine b_getR (b := 31) lf_X11_33 rfl rfl dX11_quiet_43 ?_
      refine b_callV (As := [_]) (st := []) dX11_quiet_46 lk_X11_305 lm_X5_copyTune lv_X5_copyTune (life_c is_life41) (by decide) rfl rfl rfl (Nat.le_of_ble_eq_true rfl) (Nat.le_refl _) (by decide) ?_
      refine c_X5_copyTune is_life41 is_life31 (by decide) hR.n hR.le (fun h1 F1 t1 t2 t3 => ?_)
      have U1 : FU t g h1 := FU.ct F1
      have tu := TU.ct hR t1 t2 t3
      refine b_iconst (v := 0) dX11_quiet_49 (by decide +kernel) ?_
      refine b_istore_n (lv' := [(0, _), (1, _), (2, _), (3, _)]) dX11_quiet_50 rfl (by decide) rfl rfl ?_
      exact LO 0 (Nat.zero_le _) h1 U1 tu (fun k _ _ => Nat.zero_le _)
    · have hx := hx g (FC.rf g) (by rw [quiM_1 (inB_hi (by decide) (Int32.not_le.mp h8))])
      refine b_throwW (text := "not so many years") (n := 39) rfl th_iae (by decide +kernel) (by omega) (by decide) (by decide) dX11_quiet_11 dX11_quiet_14 dX11_quiet_15 dX11_quiet_18 dX11_quiet_21 ?_
      exact hx
theorem QUP.no {ok : Nat → Bool} {m : Nat} {R : Int32} (h : QUP ok m R) (hn : ok m = true → ∃ b, R = nI b ∧ b < m ∧ pcN b ≤ pcN m) (hm : m < 2 ^ 31) : QUP ok (m + 1) R := by
  rcases h with ⟨rfl, a⟩ | ⟨b, b1, rfl, b2, b3⟩
  · refine Or.inl ⟨rfl, fun k hk => ?_⟩
    by_cases e : k = m
    · subst e
      refine Bool.eq_false_iff.mpr (fun q => ?_)
      obtain ⟨b, e, hb, _⟩ := hn q
      exact nI_nm1 (by omega) e.symm
    · exact a k (by omega)
  · refine Or.inr ⟨b, by omega, rfl, b2, fun k hk ok => ?_⟩
    by_cases e : k = m
    · subst e
      obtain ⟨c, e, hc, hp⟩ := hn ok
      have : b = c := nI_inj (by omega) (by omega) e
      subst this
      rcases Nat.lt_or_ge (pcN b) (pcN k) with z | z
      · exact Or.inl z
      · exact Or.inr ⟨by omega, by omega⟩
    · exact b3 k (by omega) ok
theorem QUP.yes {ok : Nat → Bool} {m : Nat} {R : Int32} (h : QUP ok m R) (ok1 : ok m = true) (hn : R = -1 ∨ ∃ b, R = nI b ∧ b < m ∧ pcN m < pcN b) (hm : m < 2 ^ 31) : QUP ok (m + 1) (nI m) := by
  refine Or.inr ⟨m, by omega, rfl, ok1, fun k hk okk => ?_⟩
  by_cases e : k = m
  · subst e; exact Or.inr ⟨rfl, Nat.le_refl _⟩
  · rcases h with ⟨rfl, a⟩ | ⟨b, b1, rfl, b2, b3⟩
    · rw [a k (by omega)] at okk; exact absurd okk (by decide)
    · rcases hn with hn | ⟨c, e2, c1, c2⟩
      · exact absurd hn (nI_nm1 (by omega))
      · have : b = c := nI_inj (by omega) (by omega) e2
        subst this
        have := b3 k (by omega) okk
        exact Or.inl (by omega)
theorem quB_tr {h : G2} {T : TD} {S : LfS} {n m : Nat} (oT : okT T) (oS : okS T S) (hR : RMl h T (yrsM T (-1) (gnS S m) n)) : (cntN (fun i => decide (l_n S ≤ i) && trB (h 104) i) (l_n (yrsM T (-1) (gnS S m) n)) = 0) = (quB T S n m = true) := by
  have o := (okS.set (j := 2) (x := l_g S 3 2 ||| nI m) oS).yrs (sp := -1) oT n
  unfold quB
  rw [cntN_cg (tr_rs (f := h 104) (s := l_n S) (fun i hi => by rw [hR.sg i hi]; exact o.2.1 i hi)), cntN_cg (rsP_cg hR.sg)]
  simp only [beq_iff_eq, gnS]
theorem gnS_pre (S : LfS) (m : Nat) : preL S (gnS S m) := setS_pre S 2 _
theorem gnS_fn (S : LfS) (m : Nat) : l_fn (gnS S m) = l_fn S := rfl
theorem c_X12_quiet {E : En} {d : Nat} {Q : QT} {X : XT} {g : G2} {T : TD} {S : LfS} {n0 : Int32} (hR : RMl g T S) (hT : RMt g T) (hsp : g 84 44 = -1) (oT : okT T) (oL : okL T S) (hq : ∀ h, FD g h → RMl h T S → h 84 2 = nI (quiM T S n0).1 → Q (some (.int (quiM T S n0).2)) h) : M E md_X12_quiet (d + 6) [.ref 84, .int n0] g Q X := by
  refine M.of _ rfl rfl (Nat.le_of_ble_eq_true rfl) ?_
  refine b_aload_n dX12_quiet_0 rfl rfl ?_
  refine b_iconst (v := 0) dX12_quiet_1 (by decide +kernel) ?_
  refine b_putI lf_X12_165 lp_12_2 rfl dX12_quiet_2 ?_
  have F1 : FD g (up2 g 84 2 0) := FD.code 0
  have c1 : up2 g 84 2 0 84 2 = 0 := up2_s _ _ _ _
  have hR := hR.code (x := 0)
  have hT := hT.code (x := 0)
  generalize up2 g 84 2 0 = g1 at F1 c1 hR hT ⊢
  have hsp : g1 84 44 = -1 := by rw [F1.2 44 (by decide)]; exact hsp
  refine b_iload_n dX12_quiet_5 rfl rfl ?_
  refine b_i2l dX12_quiet_6 rfl ?_
  refine b_lconst (v := 1) dX12_quiet_7 (by decide +kernel) ?_
  refine b_ldc2 lx_X12_467 dX12_quiet_8 ?_
  refine b_callS (As := [_, _, _]) (st := []) dX12_quiet_11 lk_X12_168 lm_X12_isIn ls_X12_isIn rfl rfl (Nat.le_of_ble_eq_true rfl) (Nat.le_refl _) (by decide) ?_
  refine c_X12_isIn ?_
  rw [in_64b (a' := 1) (b' := 10) (by decide) (by decide)]
  refine b_if_ne (tgt := 23) dX12_quiet_14 (by decide) (fun h14 => ?_) (fun h14 => ?_)
  · have e14 := b2i_1 h14
    obtain ⟨n, hn1, hn2, rfl⟩ := inB_ex (a := 1) (b := 10) e14
    refine b_iconst (v := 1) dX12_quiet_23 (by decide +kernel) ?_
    refine b_aload_n dX12_quiet_24 rfl rfl ?_
    refine b_getR (b := 87) lf_X12_40 rfl rfl dX12_quiet_25 ?_
    refine b_iconst (v := 0) dX12_quiet_28 (by decide +kernel) ?_
    refine b_ildN (j := 0) dX12_quiet_29 (rfl) (by show _ < 10; omega) ?_
    refine b_topE (y := nI (t_n T)) (hT.n) ?_
    refine b_ishl dX12_quiet_30 ?_
    refine b_iconst (v := 1) dX12_quiet_31 (by decide +kernel) ?_
    refine b_isub dX12_quiet_32 ?_
    refine b_aload_n dX12_quiet_33 rfl rfl ?_
    refine b_getI lf_X12_323 rfl dX12_quiet_34 ?_
    refine b_topE (hR.aw) ?_
    refine b_iconst (v := (-1)) dX12_quiet_37 (by decide +kernel) ?_
    refine b_ixor dX12_quiet_38 ?_
    refine b_iand dX12_quiet_39 ?_
    refine b_aload_n dX12_quiet_40 rfl rfl ?_
    refine b_getI lf_X12_326 rfl dX12_quiet_41 ?_
    refine b_topE (hR.de) ?_
    refine b_iconst (v := (-1)) dX12_quiet_44 (by decide +kernel) ?_
    refine b_ixor dX12_quiet_45 ?_
    refine b_iand dX12_quiet_46 ?_
    refine b_istore_n (lv' := [(0, _), (1, _), (2, _)]) dX12_quiet_47 rfl (by decide) rfl rfl ?_
    refine b_iconst (v := (-1)) dX12_quiet_48 (by decide +kernel) ?_
    refine b_istore_n (lv' := [(0, _), (1, _), (2, _), (3, _)]) dX12_quiet_49 rfl (by decide) rfl rfl ?_
    refine b_aload_n dX12_quiet_50 rfl rfl ?_
    refine b_aload_n dX12_quiet_51 rfl rfl ?_
    refine b_getR (b := 112) lf_X12_120 rfl rfl dX12_quiet_52 ?_
    refine b_iconst (v := 0) dX12_quiet_55 (by decide +kernel) ?_
    refine b_callV (As := [_, _]) (st := []) dX12_quiet_56 lk_X12_387 lm_X12_pack lv_X12_pack rfl (by decide) rfl rfl rfl (Nat.le_of_ble_eq_true rfl) (Nat.le_refl _) (by decide) ?_
    refine c_X12_pack (z := 112) (n := 35) (f := 0) rfl (by decide) (by decide) (by decide) (fun h1 pF _ pk => ?_)
    have D1 := F1.tr (FD.ofZ (z := 112) (by decide) pF)
    have rk := RPk.of hT.le hR pk
    have hR1 := hR.ofZ (by decide) pF
    have c1 : h1 84 2 = 0 := by rw [pF 84 (by decide)]; exact c1
    have sp1 : h1 84 44 = -1 := by rw [pF 84 (by decide)]; exact hsp
    have h8 := hT.le
    have hp2 := pow8 h8
    have h4 := hR.le
    have hT := hT.fd (FD.ofZ (z := 112) (by decide) pF)
    have LP : ∀ m, m ≤ 2 ^ t_n T → ∀ h R, RMl h T S → FD h1 h → h 84 2 = 0 → h 112 = h1 112 → QUP (qoB T S n) m R → B E md_X12_quiet (d + 6) Q X 62 [(0, .ref 84), (1, .int (nI n)), (2, .int (mskI (t_n T) &&& (l_g S 3 2 ^^^ (-1)) &&& (l_g S 3 3 ^^^ (-1)))), (3, .int R), (4, .int (nI m))] [] h 0 := by
      refine lp_up (fun m hm ih h R hR2 D2 cc e112 hU => ?_)
      refine b_iload dX12_quiet_62 rfl ?_
      refine b_iconst (v := 1) dX12_quiet_64 (by decide +kernel) ?_
      refine b_aload_n dX12_quiet_65 rfl rfl ?_
      refine b_getR (b := 87) lf_X12_40 rfl rfl dX12_quiet_66 ?_
      refine b_iconst (v := 0) dX12_quiet_69 (by decide +kernel) ?_
      refine b_ildN (j := 0) dX12_quiet_70 (rfl) (by show _ < 10; omega) ?_
      refine b_topE (y := nI (t_n T)) ((hT.fd D2).n) ?_
      refine b_ishl dX12_quiet_71 ?_
      refine b_topE (sh_tab (t_n T) (by omega)) ?_
      refine b_icmp_ge (tgt := 153) dX12_quiet_72 (by decide) (fun h72 => ?_) (fun h72 => ?_)
      · have e72 : (2 ^ t_n T) ≤ m := nn_le (a := (2 ^ t_n T)) (b := m) (by omega) (by omega) h72
        have e : m = 2 ^ t_n T := by omega
        subst e
        refine b_iload_n dX12_quiet_153 rfl rfl ?_
        refine b_iret rfl (by decide) dX12_quiet_154 ?_
        have hq := hq h (D1.tr D2) hR2 (by rw [quiM_0 hn1 hn2]; exact cc)
        rw [quiM_0 hn1 hn2, quV_eq hU] at hq
        exact hq
      · have e72 : m < (2 ^ t_n T) := nn_nle (a := (2 ^ t_n T)) (b := m) (by omega) (by omega) h72
        refine b_iload dX12_quiet_75 rfl ?_
        refine b_iload_n dX12_quiet_77 rfl rfl ?_
        refine b_iconst (v := (-1)) dX12_quiet_78 (by decide +kernel) ?_
        refine b_ixor dX12_quiet_79 ?_
        refine b_iand dX12_quiet_80 ?_
        refine b_if_ne (tgt := 147) dX12_quiet_81 (by decide) (fun h81 => ?_) (fun h81 => ?_)
        · refine b_incN (j := m) (lv' := [(0, _), (1, _), (2, _), (3, _), (4, _)]) dX12_quiet_147 rfl rfl (by decide) rfl rfl ?_
          refine b_goto (tgt := 62) dX12_quiet_150 (by decide) ?_
          refine b_take 5 ?_
          exact ih (m + 1) (by omega) (by omega) h R hR2 D2 cc e112 (hU.no (fun q => absurd q (by unfold qoB maB; rw [← home_eq (n := t_n T) (by omega) (by omega), beq_eq_false_iff_ne.mpr h81]; simp)) (by omega))
        · have hma : maB S m = true := by unfold maB; rw [← home_eq (n := t_n T) (by omega) (by omega), h81]; rfl
          refine b_iload_n dX12_quiet_84 rfl rfl ?_
          refine b_iconst (v := (-1)) dX12_quiet_85 (by decide +kernel) ?_
          refine b_icmp_eq (tgt := 104) dX12_quiet_86 (by decide) (fun h86 => ?_) (fun h86 => ?_)
          · refine b_aload_n dX12_quiet_104 rfl rfl ?_
            refine b_getI lf_X12_320 rfl dX12_quiet_105 ?_
            refine b_topE (y := nI (l_n S)) (hR2.n) ?_
            refine b_istore (lv' := [(0, _), (1, _), (2, _), (3, _), (4, _), (5, _)]) dX12_quiet_108 (by decide) rfl rfl ?_
            refine b_aload_n dX12_quiet_110 rfl rfl ?_
            refine b_dup dX12_quiet_111 rfl ?_
            refine b_getI lf_X12_323 rfl dX12_quiet_112 ?_
            refine b_iload dX12_quiet_115 rfl ?_
            rw [hR2.aw]
            refine b_ior dX12_quiet_117 ?_
            have hR4 : RMl (up2 h 84 33 (l_g S 3 2 ||| nI m)) T (gnS S m) := hR2.set (by decide)
            refine b_putI lf_X12_323 lp_12_33 rfl dX12_quiet_118 ?_
            refine b_aload_n dX12_quiet_121 rfl rfl ?_
            refine b_iload_n dX12_quiet_122 rfl rfl ?_
            refine b_callV (As := [_]) (st := []) dX12_quiet_123 lk_X12_399 lm_X12_goOn lv_X12_goOn rfl (by decide) rfl rfl rfl (Nat.le_of_ble_eq_true rfl) (Nat.le_refl _) (by decide) ?_
            refine c_X12_goOn (sp := -1) ((hT.fd D2).fd (FD.fld 33 _ (by decide))) hR4 oT (okS.set oL.1) (by rw [up2_k _ _ _ _ (by decide), D2.2 44 (by decide)]; exact sp1) (by omega) (fun h2 fm hR3 => ?_)
            have hpr : l_n S ≤ l_n (yrsM T (-1) (gnS S m) n) := (yrsM_pre T (-1) (gnS S m) n).1
            have h400 := hR3.le
            have hcl := cntN_le (fun i => decide (l_n S ≤ i) && trB (h2 104) i) (l_n (yrsM T (-1) (gnS S m) n))
            refine b_aload_n dX12_quiet_126 rfl rfl ?_
            refine b_iload dX12_quiet_127 rfl ?_
            refine b_callV (As := [_]) (st := []) dX12_quiet_129 lk_X12_445 lm_X12_tritonesFrom lv_X12_tritonesFrom rfl (by decide) rfl rfl rfl (Nat.le_of_ble_eq_true rfl) (Nat.le_refl _) (by decide) ?_
            refine c_X12_tritonesFrom hR3.n hR3.le hpr ?_
            refine b_if_ne (tgt := 138) dX12_quiet_132 (by decide) (fun h132 => ?_) (fun h132 => ?_)
            · have e132 : (cntN (fun i => decide (l_n S ≤ i) && trB (h2 104) i) (l_n (yrsM T (-1) (gnS S m) n))) ≠ 0 := fun q => h132 (by rw [q]; rfl)
              refine b_aload_n dX12_quiet_138 rfl rfl ?_
              refine b_aload_n dX12_quiet_139 rfl rfl ?_
              refine b_getR (b := 112) lf_X12_120 rfl rfl dX12_quiet_140 ?_
              refine b_iconst (v := 0) dX12_quiet_143 (by decide +kernel) ?_
              refine b_callV (As := [_, _]) (st := []) dX12_quiet_144 lk_X12_416 lm_X12_unpack lv_X12_unpack rfl (by decide) rfl rfl rfl (Nat.le_of_ble_eq_true rfl) (Nat.le_refl _) (by decide) ?_
              refine c_X12_unpack (z := 112) (n := 35) (f := 0) rfl (by decide) (by decide) (by decide) (fun h3 uF u84 uk => ?_)
              refine b_incN (j := m) (lv' := [(0, _), (1, _), (2, _), (3, _), (4, _), (5, _)]) dX12_quiet_147 rfl rfl (by decide) rfl rfl ?_
              refine b_goto (tgt := 62) dX12_quiet_150 (by decide) ?_
              refine b_take 5 ?_
              exact ih (m + 1) (by omega) (by omega) h3 R (RMl.back hT.le oL.1 oL.2.2.2.2 (by rw [fm.1 112 (by decide) (by decide) (by decide) (by decide) (by decide) (by decide), up2_f _ _ _ _ (by decide), e112]; exact rk) hR3 ((gnS_pre S m).tr (yrsM_pre T (-1) (gnS S m) n)) uF uk) (((D2.tr (FD.fld 33 _ (by decide))).tr fm.fd).tr (FD.unp uF u84)) (by rw [u84 2 (by decide), fm.2 2 (by decide) (by decide), up2_k _ _ _ _ (by decide)]; exact cc) (by rw [uF 112 (by decide) (by decide) (by decide) (by decide) (by decide), fm.1 112 (by decide) (by decide) (by decide) (by decide) (by decide) (by decide), up2_f _ _ _ _ (by decide)]; exact e112) (hU.no (fun q => absurd ((quB_tr oT oL.1 hR3).mpr (by unfold qoB at q; simp only [Bool.and_eq_true] at q; exact q.2)) e132) (by omega))
            · have e132 : (cntN (fun i => decide (l_n S ≤ i) && trB (h2 104) i) (l_n (yrsM T (-1) (gnS S m) n))) = 0 := nI_inj (b := 0) (by omega) (by decide) h132
              refine b_iload dX12_quiet_135 rfl ?_
              refine b_istore_n (lv' := [(0, _), (1, _), (2, _), (3, _), (4, _), (5, _)]) dX12_quiet_137 rfl (by decide) rfl rfl ?_
              refine b_aload_n dX12_quiet_138 rfl rfl ?_
              refine b_aload_n dX12_quiet_139 rfl rfl ?_
              refine b_getR (b := 112) lf_X12_120 rfl rfl dX12_quiet_140 ?_
              refine b_iconst (v := 0) dX12_quiet_143 (by decide +kernel) ?_
              refine b_callV (As := [_, _]) (st := []) dX12_quiet_144 lk_X12_416 lm_X12_unpack lv_X12_unpack rfl (by decide) rfl rfl rfl (Nat.le_of_ble_eq_true rfl) (Nat.le_refl _) (by decide) ?_
              refine c_X12_unpack (z := 112) (n := 35) (f := 0) rfl (by decide) (by decide) (by decide) (fun h3 uF u84 uk => ?_)
              refine b_incN (j := m) (lv' := [(0, _), (1, _), (2, _), (3, _), (4, _), (5, _)]) dX12_quiet_147 rfl rfl (by decide) rfl rfl ?_
              refine b_goto (tgt := 62) dX12_quiet_150 (by decide) ?_
              refine b_take 5 ?_
              exact ih (m + 1) (by omega) (by omega) h3 _ (RMl.back hT.le oL.1 oL.2.2.2.2 (by rw [fm.1 112 (by decide) (by decide) (by decide) (by decide) (by decide) (by decide), up2_f _ _ _ _ (by decide), e112]; exact rk) hR3 ((gnS_pre S m).tr (yrsM_pre T (-1) (gnS S m) n)) uF uk) (((D2.tr (FD.fld 33 _ (by decide))).tr fm.fd).tr (FD.unp uF u84)) (by rw [u84 2 (by decide), fm.2 2 (by decide) (by decide), up2_k _ _ _ _ (by decide)]; exact cc) (by rw [uF 112 (by decide) (by decide) (by decide) (by decide) (by decide), fm.1 112 (by decide) (by decide) (by decide) (by decide) (by decide) (by decide), up2_f _ _ _ _ (by decide)]; exact e112) (hU.yes (by unfold qoB; rw [hma, (quB_tr oT oL.1 hR3).mp e132]; rfl) (Or.inl h86) (by omega))
          · have hb : ∃ b, R = nI b ∧ b < m := by
              rcases hU with ⟨q, _⟩ | ⟨b, b1, b2, _⟩
              · exact absurd q h86
              · exact ⟨b, b2, b1⟩
            obtain ⟨b, eb, hb⟩ := hb
            have hpl := pc_le m
            have hpb := pc_le b
            refine b_iload dX12_quiet_89 rfl ?_
            refine b_callS (As := [_]) (st := []) dX12_quiet_91 lk_X12_469 lm_X12_bitsOf ls_X12_bitsOf rfl rfl (Nat.le_of_ble_eq_true rfl) (Nat.le_refl _) (by decide) ?_
            refine c_X12_bitsOf (by omega) ?_
            refine b_iload_n dX12_quiet_94 rfl rfl ?_
            refine b_callS (As := [_]) (st := [_]) dX12_quiet_95 lk_X12_469 lm_X12_bitsOf ls_X12_bitsOf rfl rfl (Nat.le_of_ble_eq_true rfl) (Nat.le_refl _) (by decide) ?_
            rw [eb]
            refine c_X12_bitsOf (by omega) ?_
            refine b_icmp_lt (tgt := 104) dX12_quiet_98 (by decide) (fun h98 => ?_) (fun h98 => ?_)
            · have e98 : (pcN m) < (pcN b) := nn_lt (a := (pcN m)) (b := (pcN b)) (by omega) (by omega) h98
              refine b_aload_n dX12_quiet_104 rfl rfl ?_
              refine b_getI lf_X12_320 rfl dX12_quiet_105 ?_
              refine b_topE (y := nI (l_n S)) (hR2.n) ?_
              refine b_istore (lv' := [(0, _), (1, _), (2, _), (3, _), (4, _), (5, _)]) dX12_quiet_108 (by decide) rfl rfl ?_
              refine b_aload_n dX12_quiet_110 rfl rfl ?_
              refine b_dup dX12_quiet_111 rfl ?_
              refine b_getI lf_X12_323 rfl dX12_quiet_112 ?_
              refine b_iload dX12_quiet_115 rfl ?_
              rw [hR2.aw]
              refine b_ior dX12_quiet_117 ?_
              have hR4 : RMl (up2 h 84 33 (l_g S 3 2 ||| nI m)) T (gnS S m) := hR2.set (by decide)
              refine b_putI lf_X12_323 lp_12_33 rfl dX12_quiet_118 ?_
              refine b_aload_n dX12_quiet_121 rfl rfl ?_
              refine b_iload_n dX12_quiet_122 rfl rfl ?_
              refine b_callV (As := [_]) (st := []) dX12_quiet_123 lk_X12_399 lm_X12_goOn lv_X12_goOn rfl (by decide) rfl rfl rfl (Nat.le_of_ble_eq_true rfl) (Nat.le_refl _) (by decide) ?_
              refine c_X12_goOn (sp := -1) ((hT.fd D2).fd (FD.fld 33 _ (by decide))) hR4 oT (okS.set oL.1) (by rw [up2_k _ _ _ _ (by decide), D2.2 44 (by decide)]; exact sp1) (by omega) (fun h2 fm hR3 => ?_)
              have hpr : l_n S ≤ l_n (yrsM T (-1) (gnS S m) n) := (yrsM_pre T (-1) (gnS S m) n).1
              have h400 := hR3.le
              have hcl := cntN_le (fun i => decide (l_n S ≤ i) && trB (h2 104) i) (l_n (yrsM T (-1) (gnS S m) n))
              refine b_aload_n dX12_quiet_126 rfl rfl ?_
              refine b_iload dX12_quiet_127 rfl ?_
              refine b_callV (As := [_]) (st := []) dX12_quiet_129 lk_X12_445 lm_X12_tritonesFrom lv_X12_tritonesFrom rfl (by decide) rfl rfl rfl (Nat.le_of_ble_eq_true rfl) (Nat.le_refl _) (by decide) ?_
              refine c_X12_tritonesFrom hR3.n hR3.le hpr ?_
              refine b_if_ne (tgt := 138) dX12_quiet_132 (by decide) (fun h132 => ?_) (fun h132 => ?_)
              · have e132 : (cntN (fun i => decide (l_n S ≤ i) && trB (h2 104) i) (l_n (yrsM T (-1) (gnS S m) n))) ≠ 0 := fun q => h132 (by rw [q]; rfl)
                refine b_aload_n dX12_quiet_138 rfl rfl ?_
                refine b_aload_n dX12_quiet_139 rfl rfl ?_
                refine b_getR (b := 112) lf_X12_120 rfl rfl dX12_quiet_140 ?_
                refine b_iconst (v := 0) dX12_quiet_143 (by decide +kernel) ?_
                refine b_callV (As := [_, _]) (st := []) dX12_quiet_144 lk_X12_416 lm_X12_unpack lv_X12_unpack rfl (by decide) rfl rfl rfl (Nat.le_of_ble_eq_true rfl) (Nat.le_refl _) (by decide) ?_
                refine c_X12_unpack (z := 112) (n := 35) (f := 0) rfl (by decide) (by decide) (by decide) (fun h3 uF u84 uk => ?_)
                refine b_incN (j := m) (lv' := [(0, _), (1, _), (2, _), (3, _), (4, _), (5, _)]) dX12_quiet_147 rfl rfl (by decide) rfl rfl ?_
                refine b_goto (tgt := 62) dX12_quiet_150 (by decide) ?_
                refine b_take 5 ?_
                rw [← eb]
                exact ih (m + 1) (by omega) (by omega) h3 R (RMl.back hT.le oL.1 oL.2.2.2.2 (by rw [fm.1 112 (by decide) (by decide) (by decide) (by decide) (by decide) (by decide), up2_f _ _ _ _ (by decide), e112]; exact rk) hR3 ((gnS_pre S m).tr (yrsM_pre T (-1) (gnS S m) n)) uF uk) (((D2.tr (FD.fld 33 _ (by decide))).tr fm.fd).tr (FD.unp uF u84)) (by rw [u84 2 (by decide), fm.2 2 (by decide) (by decide), up2_k _ _ _ _ (by decide)]; exact cc) (by rw [uF 112 (by decide) (by decide) (by decide) (by decide) (by decide), fm.1 112 (by decide) (by decide) (by decide) (by decide) (by decide) (by decide), up2_f _ _ _ _ (by decide)]; exact e112) (hU.no (fun q => absurd ((quB_tr oT oL.1 hR3).mpr (by unfold qoB at q; simp only [Bool.and_eq_true] at q; exact q.2)) e132) (by omega))
              · have e132 : (cntN (fun i => decide (l_n S ≤ i) && trB (h2 104) i) (l_n (yrsM T (-1) (gnS S m) n))) = 0 := nI_inj (b := 0) (by omega) (by decide) h132
                refine b_iload dX12_quiet_135 rfl ?_
                refine b_istore_n (lv' := [(0, _), (1, _), (2, _), (3, _), (4, _), (5, _)]) dX12_quiet_137 rfl (by decide) rfl rfl ?_
                refine b_aload_n dX12_quiet_138 rfl rfl ?_
                refine b_aload_n dX12_quiet_139 rfl rfl ?_
                refine b_getR (b := 112) lf_X12_120 rfl rfl dX12_quiet_140 ?_
                refine b_iconst (v := 0) dX12_quiet_143 (by decide +kernel) ?_
                refine b_callV (As := [_, _]) (st := []) dX12_quiet_144 lk_X12_416 lm_X12_unpack lv_X12_unpack rfl (by decide) rfl rfl rfl (Nat.le_of_ble_eq_true rfl) (Nat.le_refl _) (by decide) ?_
                refine c_X12_unpack (z := 112) (n := 35) (f := 0) rfl (by decide) (by decide) (by decide) (fun h3 uF u84 uk => ?_)
                refine b_incN (j := m) (lv' := [(0, _), (1, _), (2, _), (3, _), (4, _), (5, _)]) dX12_quiet_147 rfl rfl (by decide) rfl rfl ?_
                refine b_goto (tgt := 62) dX12_quiet_150 (by decide) ?_
                refine b_take 5 ?_
                exact ih (m + 1) (by omega) (by omega) h3 _ (RMl.back hT.le oL.1 oL.2.2.2.2 (by rw [fm.1 112 (by decide) (by decide) (by decide) (by decide) (by decide) (by decide), up2_f _ _ _ _ (by decide), e112]; exact rk) hR3 ((gnS_pre S m).tr (yrsM_pre T (-1) (gnS S m) n)) uF uk) (((D2.tr (FD.fld 33 _ (by decide))).tr fm.fd).tr (FD.unp uF u84)) (by rw [u84 2 (by decide), fm.2 2 (by decide) (by decide), up2_k _ _ _ _ (by decide)]; exact cc) (by rw [uF 112 (by decide) (by decide) (by decide) (by decide) (by decide), fm.1 112 (by decide) (by decide) (by decide) (by decide) (by decide) (by decide), up2_f _ _ _ _ (by decide)]; exact e112) (hU.yes (by unfold qoB; rw [hma, (quB_tr oT oL.1 hR3).mp e132]; rfl) (Or.inr ⟨b, eb, hb, e98⟩) (by omega))
            · have e98 : (pcN b) ≤ (pcN m) := nn_nlt (a := (pcN m)) (b := (pcN b)) (by omega) (by omega) h98
              refine b_goto (tgt := 147) dX12_quiet_101 (by decide) ?_
              refine b_incN (j := m) (lv' := [(0, _), (1, _), (2, _), (3, _), (4, _)]) dX12_quiet_147 rfl rfl (by decide) rfl rfl ?_
              refine b_goto (tgt := 62) dX12_quiet_150 (by decide) ?_
              refine b_take 5 ?_
              rw [← eb]
              exact ih (m + 1) (by omega) (by omega) h R hR2 D2 cc e112 (hU.no (fun _ => ⟨b, eb, hb, e98⟩) (by omega))
    refine b_iconst (v := 0) dX12_quiet_59 (by decide +kernel) ?_
    refine b_istore (lv' := [(0, _), (1, _), (2, _), (3, _), (4, _)]) dX12_quiet_60 (by decide) rfl rfl ?_
    exact LP 0 (Nat.zero_le _) h1 (-1) hR1 (FD.rf h1) c1 rfl (Or.inl ⟨rfl, fun m hm => absurd hm (by omega)⟩)
  · have e14 := b2i_0 h14
    refine b_aload_n dX12_quiet_17 rfl rfl ?_
    refine b_iconst (v := 1) dX12_quiet_18 (by decide +kernel) ?_
    refine b_callV (As := [_]) (st := []) dX12_quiet_19 lk_X12_303 lm_X12_fail lv_X12_fail rfl (by decide) rfl rfl rfl (Nat.le_of_ble_eq_true rfl) (Nat.le_refl _) (by decide) ?_
    refine c_X12_fail ?_
    refine b_iret rfl (by decide) dX12_quiet_22 ?_
    rw [show quiM T S n0 = (1, 0) from quiM_1 e14] at hq
    exact hq _ (F1.tr (FD.code 1)) hR.code (up2_s _ _ _ _)
