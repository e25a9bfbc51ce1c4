theorem fndF_n {P : Nat → Bool} : ∀ k s, s + k < 2 ^ 31 → fndF P k s = -1 → ∀ j, s ≤ j → j < s + k → P j = false
  | 0, s, _, _, j, h1, h2 => absurd h2 (by omega)
  | k + 1, s, hb, h, j, h1, h2 => by
    rw [fndF] at h
    by_cases hp : P s = true
    · rw [if_pos hp] at h; exact absurd h (nI_nm1 (by omega))
    · rw [if_neg hp] at h
      by_cases e : j = s
      · rw [e]; exact Bool.eq_false_iff.mpr hp
      · exact fndF_n k (s + 1) (by omega) h j (by omega) (by omega)
theorem fndF_y {P : Nat → Bool} : ∀ k s, ¬ fndF P k s = -1 → ∃ j, s ≤ j ∧ j < s + k ∧ P j = true
  | 0, s, h => absurd rfl h
  | k + 1, s, h => by
    rw [fndF] at h
    by_cases hp : P s = true
    · exact ⟨s, by omega, by omega, hp⟩
    · rw [if_neg hp] at h
      obtain ⟨j, h1, h2, h3⟩ := fndF_y k (s + 1) h
      exact ⟨j, by omega, by omega, h3⟩
theorem anyN_no {P : Nat → Bool} {n : Nat} (h : ∀ i, i < n → P i = false) : anyN P n = false := by
  induction n with
  | zero => rfl
  | succ n ih => rw [anyN, ih (fun i hi => h i (by omega)), h n (by omega)]; rfl
/-- the phrase is there -/
def ocB (S : LfS) (v m : Int32) : Bool := anyN (phF S v m) (l_n S)
def whV (T : TD) (S : LfS) (v m : Int32) : Int32 := fndF (fun k => ocB (yrsM T (-1) S k) v m) 21 0
def wheM (T : TD) (S : LfS) (v m : Int32) : Nat × Int32 := if phOK v m then (0, whV T S v m) else (1, 0)
theorem wheM_1 {T : TD} {S : LfS} {v m : Int32} (h : phOK v m = false) : wheM T S v m = (1, 0) := by unfold wheM; rw [h]; rfl
theorem wheM_0 {T : TD} {S : LfS} {v m : Int32} (h : phOK v m = true) : wheM T S v m = (0, whV T S v m) := by unfold wheM; rw [h]; rfl
theorem phF_n {S : LfS} {V M : Nat} (hV : V < 2 ^ 31) (hM : M < 2 ^ 31) : phF S (nI V) (nI M) = hasF (l_g S 0) (l_n S) (phD V M) M := by unfold phF; rw [nI_cl hV, nI_cl hM]
/-- what ended within the elder tune was looked at -/
theorem has_old {R K : LfS} {ph : Nat → Int32} {M p : Nat} (hp : preL R K) (h : hasF (l_g R 0) (l_n R) ph M p = false) (hM : p + M ≤ l_n R) : hasF (l_g K 0) (l_n K) ph M p = false := by
  unfold hasF at *
  rw [decide_eq_true hM] at h
  rw [decide_eq_true (Nat.le_trans hM hp.1), anyN_cg (fun i hi => by rw [← hp.2 0 (by decide) (p + i) (by omega)])]
  exact h
theorem c_X11_when {E : En} {d : Nat} {Q : QT} {X : XT} {g : G2} {t : Nat} (ht : is_town t) (h0 : g 0 2 = nI t) {T : TD} {S : LfS} {v m : Int32} (hR : RLf g 31 T (-1) S) (hT : RTn g t T) (oT : okT T) (hq : ∀ h, FC g h → (wheM T S v m).1 = 0 → Q (some (.int (wheM T S v m).2)) h) (hx : ∀ h, FC g h → (wheM T S v m).1 = 1 → X iaN h) : M E md_X11_when (d + 7) [.ref 0, .int v, .int m] g Q X := by
  refine M.of _ rfl rfl (Nat.le_of_ble_eq_true rfl) ?_
  have ht5 : t = 5 ∨ t = 18 := ht
  refine b_aload_n dX11_when_0 rfl rfl ?_
  refine b_iload_n dX11_when_1 rfl rfl ?_
  refine b_iload_n dX11_when_2 rfl rfl ?_
  refine b_callV (As := [_, _]) (st := []) dX11_when_3 lk_X11_261 lm_X11_spell lv_X11_spell rfl (by decide) rfl rfl rfl (Nat.le_of_ble_eq_true rfl) (Nat.le_refl _) (by decide) ?_
  refine c_X11_spell (fun h0_ hz hF hC => ?_) (fun h hz hF => hx h (FC.of82 hF) (by rw [wheM_1 hz]))
  have hq : ∀ h, FC g h → (0 : Nat) = 0 → Q (some (.int (whV T S v m))) h := by rw [wheM_0 hz] at hq; exact hq
  obtain ⟨V, M, hV, h1, h7, rfl, rfl⟩ := phOK_ex hz
  rw [nI_cl hV, nI_cl (by omega)] at hC
  have hR := hR.fc (FC.of82 hF)
  have hT1 : RTn h0_ t T := hT.fa ht (fun y y1 y2 y3 => hF y (by omega))
  have LP : ∀ i, i ≤ 21 → ∀ h, RLf h 41 T (-1) (yrsM T (-1) S i) → FU t h0_ h → ∀ s, (∀ p, p < s → hasF (l_g (yrsM T (-1) S i) 0) (l_n (yrsM T (-1) S i)) (phD V M) M p = false) → s ≤ l_n (yrsM T (-1) S i) → whV T S (nI V) (nI M) = fndF (fun k => ocB (yrsM T (-1) S k) (nI V) (nI M)) (21 - i) i → B E md_X11_when (d + 7) Q X 33 [(0, .ref 0), (1, .int (nI V)), (2, .int (nI M)), (3, .int (nI s)), (4, .int (nI i))] [] h 1 := by
    refine lp_up (fun i hi ih h hR4 U4 s hnone hs hwh => ?_)
    have h400 := hR4.le
    refine b_iload dX11_when_33 rfl ?_
    refine b_bipush (v := 20) dX11_when_35 (by decide +kernel) ?_
    refine b_icmp_gt (tgt := 93) dX11_when_37 (by decide) (fun h37 => ?_) (fun h37 => ?_)
    · have e37 : 20 < i := nn_lt (a := 20) (b := i) (by omega) (by omega) h37
      have e : i = 21 := by omega
      subst e
      refine b_iconst (v := (-1)) dX11_when_93 (by decide +kernel) ?_
      refine b_iret rfl (by decide) dX11_when_94 ?_
      rw [Nat.sub_self, fndF] at hwh
      rw [hwh] at hq
      exact hq h ((FC.of82 hF).tr (U4.fc ht)) rfl
    · have e37 : i ≤ 20 := nn_nlt (a := 20) (b := i) (by omega) (by omega) h37
      refine b_aload_n dX11_when_40 rfl rfl ?_
      refine b_getR (b := 41) lf_X11_62 rfl rfl dX11_when_41 ?_
      refine b_iload_n dX11_when_44 rfl rfl ?_
      refine b_aload_n dX11_when_45 rfl rfl ?_
      refine b_getR (b := 82) lf_X11_79 rfl rfl dX11_when_46 ?_
      refine b_iload_n dX11_when_49 rfl rfl ?_
      refine b_callV (As := [_, _, _]) (st := []) dX11_when_50 lk_X11_264 lm_X5_firstFrom lv_X5_firstFrom (life_c is_life41) (by decide) rfl rfl rfl (Nat.le_of_ble_eq_true rfl) (Nat.le_refl _) (by decide) ?_
      refine c_X5_firstFrom is_life41 hR4.n hR4.le h7 hs ?_
      have eH : hasF (h 42) (l_n (yrsM T (-1) S i)) (h 82) M = hasF (l_g (yrsM T (-1) S i) 0) (l_n (yrsM T (-1) S i)) (phD V M) M := hasF_cg (fun p hp => hR4.sg p hp) (fun p hp => by rw [U4 82 (by decide) (by omega)]; exact hC p hp)
      refine b_iconst (v := (-1)) dX11_when_53 (by decide +kernel) ?_
      refine b_icmp_eq (tgt := 60) dX11_when_54 (by decide) (fun h54 => ?_) (fun h54 => ?_)
      · refine b_iconst (v := 0) dX11_when_60 (by decide +kernel) ?_
        refine b_aload_n dX11_when_61 rfl rfl ?_
        refine b_getR (b := 41) lf_X11_62 rfl rfl dX11_when_62 ?_
        refine b_getI lf_X11_140 (life_c is_life41) dX11_when_65 ?_
        refine b_topE (y := nI (l_n (yrsM T (-1) S i))) (hR4.n) ?_
        refine b_iconst (v := 1) dX11_when_68 (by decide +kernel) ?_
        refine b_iadd dX11_when_69 ?_
        refine b_topE (nI_add (l_n (yrsM T (-1) S i)) 1) ?_
        refine b_iload_n dX11_when_70 rfl rfl ?_
        refine b_isub dX11_when_71 ?_
        refine b_max dX11_when_72 lc_X11_279 (by omega) (Nat.le_of_ble_eq_true rfl) (by decide) ?_
        refine b_topE (y := nI ((l_n (yrsM T (-1) S i) + 1 - M))) (mx0 (by omega) (by omega)) ?_
        refine b_istore_n (lv' := [(0, _), (1, _), (2, _), (3, _), (4, _)]) dX11_when_75 rfl (by decide) rfl rfl ?_
        refine b_aload_n dX11_when_76 rfl rfl ?_
        refine b_getR (b := 41) lf_X11_62 rfl rfl dX11_when_77 ?_
        refine b_aload_n dX11_when_80 rfl rfl ?_
        refine b_getD lf_X11_26 rfl (by rw [U4 0 (by decide) (by omega), hF 0 (by decide)]; exact h0) (town_31 ht) dX11_when_81 ?_
        refine b_callV (As := [_]) (st := []) dX11_when_84 lk_X11_234 lm_X5_passYear lv_X5_passYear (life_c is_life41) (by decide) rfl rfl rfl (Nat.le_of_ble_eq_true rfl) (Nat.le_refl _) (by decide) ?_
        refine c_X5_passYear is_life41 ht hR4 (U4.tn ht hT1) (wfT_of oT) (fun h5 F5 hR5 => ?_)
        refine b_incN (j := i) (lv' := [(0, _), (1, _), (2, _), (3, _), (4, _)]) dX11_when_87 rfl rfl (by decide) rfl rfl ?_
        refine b_goto (tgt := 33) dX11_when_90 (by decide) ?_
        have ez : 21 - i = (21 - (i + 1)) + 1 := by omega
        have eo : ocB (yrsM T (-1) S i) (nI V) (nI M) = false := by
          unfold ocB
          refine anyN_no (fun p hp => ?_)
          rw [phF_n hV (by omega)]
          by_cases e : p < s
          · exact hnone p e
          · rw [← eH]; exact fndF_n _ _ (by omega) h54 p (by omega) (by omega)
        rw [ez, fndF, if_neg (by rw [eo]; decide)] at hwh
        refine ih (i + 1) (by omega) (by omega) h5 hR5 (U4.tr (FU.py F5)) (l_n (yrsM T (-1) S i) + 1 - M) (fun p hp => ?_) (by have := (yrM_pre T (-1) (yrsM T (-1) S i)).1; show _ ≤ l_n (yrM T (-1) (yrsM T (-1) S i)); omega) hwh
        refine has_old (yrM_pre T (-1) (yrsM T (-1) S i)) ?_ (by omega)
        have := eo
        unfold ocB at this
        rw [phF_n hV (by omega)] at this
        by_cases e : hasF (l_g (yrsM T (-1) S i) 0) (l_n (yrsM T (-1) S i)) (phD V M) M p = true
        · rw [anyN_t (show p < l_n (yrsM T (-1) S i) by omega) e] at this; exact absurd this (by decide)
        · exact Bool.eq_false_iff.mpr e
      · refine b_iload dX11_when_57 rfl ?_
        refine b_iret rfl (by decide) dX11_when_59 ?_
        obtain ⟨p, p1, p2, p3⟩ := fndF_y _ _ h54
        have eo : ocB (yrsM T (-1) S i) (nI V) (nI M) = true := by
          unfold ocB
          exact anyN_t (i := p) (by omega) (by rw [phF_n hV (by omega), ← eH]; exact p3)
        rw [show 21 - i = (21 - (i + 1)) + 1 by omega, fndF, if_pos eo] at hwh
        rw [hwh] at hq
        exact hq h ((FC.of82 hF).tr (U4.fc ht)) rfl
  refine b_aload_n dX11_when_6 rfl rfl ?_
  refine b_getR (b := 41) lf_X11_62 rfl rfl dX11_when_7 ?_
  refine b_aload_n dX11_when_10 rfl rfl ?_
  refine b_getR (b := 31) lf_X11_33 rfl rfl dX11_when_11 ?_
  refine b_callV (As := [_]) (st := []) dX11_when_14 lk_X11_305 lm_X5_copyTune lv_X5_copyTune (life_c is_life41) (by decide) rfl rfl rfl (Nat.le_of_ble_eq_true rfl) (Nat.le_refl _) (by decide) ?_
  refine c_X5_copyTune is_life41 is_life31 (by decide) hR.n hR.le (fun h1 F1 t1 t2 t3 => ?_)
  have U1 : FU t h0_ h1 := FU.ct F1
  have tu := TU.ct hR t1 t2 t3
  refine b_aload_n dX11_when_17 rfl rfl ?_
  refine b_getR (b := 41) lf_X11_62 rfl rfl dX11_when_18 ?_
  refine b_aload_n dX11_when_21 rfl rfl ?_
  refine b_getR (b := 31) lf_X11_33 rfl rfl dX11_when_22 ?_
  refine b_callV (As := [_]) (st := []) dX11_when_25 lk_X11_309 lm_X5_copyRest lv_X5_copyRest (life_c is_life41) (by decide) rfl rfl rfl (Nat.le_of_ble_eq_true rfl) (Nat.le_refl _) (by decide) ?_
  refine c_X5_copyRest (T := T) (sp := -1) (S := S) is_life41 is_life31 (by decide) hT.le (U1.lf ht hR) tu.1 tu.2.1 tu.2.2 (fun h2 F2 hR2 => ?_)
  have U2 := U1.tr (FU.cr F2)
  refine b_iconst (v := 0) dX11_when_28 (by decide +kernel) ?_
  refine b_istore_n (lv' := [(0, _), (1, _), (2, _), (3, _)]) dX11_when_29 rfl (by decide) rfl rfl ?_
  refine b_iconst (v := 0) dX11_when_30 (by decide +kernel) ?_
  refine b_istore (lv' := [(0, _), (1, _), (2, _), (3, _), (4, _)]) dX11_when_31 (by decide) rfl rfl ?_
  exact LP 0 (Nat.zero_le _) h2 hR2 U2 0 (fun p hp => absurd hp (by omega)) (Nat.zero_le _) rfl
theorem c_X12_when {E : En} {d : Nat} {Q : QT} {X : XT} {g : G2} {T : TD} {S : LfS} {v m : Int32} (hR : RMl g T S) (hT : RMt g T) (hsp : g 84 44 = -1) (oT : okT T) (oL : okL T S) (hq : ∀ h, FD g h → RMl h T S → h 84 2 = nI (wheM T S v m).1 → Q (some (.int (wheM T S v m).2)) h) : M E md_X12_when (d + 5) [.ref 84, .int v, .int m] g Q X := by
  refine M.of _ rfl rfl (Nat.le_of_ble_eq_true rfl) ?_
  refine b_aload_n dX12_when_0 rfl rfl ?_
  refine b_iconst (v := 0) dX12_when_1 (by decide +kernel) ?_
  refine b_putI lf_X12_165 lp_12_2 rfl dX12_when_2 ?_
  have F1 : FD g (up2 g 84 2 0) := FD.code 0
  have c1 : up2 g 84 2 0 84 2 = 0 := up2_s _ _ _ _
  have hR := hR.code (x := 0)
  have hT := hT.code (x := 0)
  generalize up2 g 84 2 0 = g1 at F1 c1 hR hT ⊢
  have hsp : g1 84 44 = -1 := by rw [F1.2 44 (by decide)]; exact hsp
  refine b_aload_n dX12_when_5 rfl rfl ?_
  refine b_iload_n dX12_when_6 rfl rfl ?_
  refine b_iload_n dX12_when_7 rfl rfl ?_
  refine b_callV (As := [_, _]) (st := []) dX12_when_8 lk_X12_424 lm_X12_tellPhrase lv_X12_tellPhrase rfl (by decide) rfl rfl rfl (Nat.le_of_ble_eq_true rfl) (Nat.le_refl _) (by decide) ?_
  refine c_X12_tellPhrase (fun h b hz hF hC => ?_)
  have F2 := F1.tr (FD.of109 hF)
  have hR := hR.cg (h := h) (fun j _ _ => by rw [hF 84 (by decide)]) (fun z a b c => hF z (by omega))
  have hT := hT.fd (FD.of109 hF)
  have c1 : h 84 2 = 0 := by rw [hF 84 (by decide)]; exact c1
  have hsp : h 84 44 = -1 := by rw [hF 84 (by decide)]; exact hsp
  
  refine b_if_ne (tgt := 20) dX12_when_11 (by decide) (fun h11 => ?_) (fun h11 => ?_)
  · have e11 := b2i_1 h11
    subst e11
    have hC := hC rfl
    obtain ⟨V, M, hV, h1M, h7, rfl, rfl⟩ := phOK_ex hz
    rw [nI_cl hV, nI_cl (by omega)] at hC
    have h4 := hR.le
    refine b_aload_n dX12_when_20 rfl rfl ?_
    refine b_aload_n dX12_when_21 rfl rfl ?_
    refine b_getR (b := 112) lf_X12_120 rfl rfl dX12_when_22 ?_
    refine b_iconst (v := 0) dX12_when_25 (by decide +kernel) ?_
    refine b_callV (As := [_, _]) (st := []) dX12_when_26 lk_X12_387 lm_X12_pack lv_X12_pack rfl (by decide) rfl rfl rfl (Nat.le_of_ble_eq_true rfl) (Nat.le_refl _) (by decide) ?_
    refine c_X12_pack (z := 112) (n := 35) (f := 0) rfl (by decide) (by decide) (by decide) (fun h1 pF _ pk => ?_)
    have D1 := F2.tr (FD.ofZ (z := 112) (by decide) pF)
    have rk := RPk.of hT.le hR pk
    have hR1 := hR.ofZ (by decide) pF
    have c1 : h1 84 2 = 0 := by rw [pF 84 (by decide)]; exact c1
    have sp1 : h1 84 44 = -1 := by rw [pF 84 (by decide)]; exact hsp
    have hT1 := hT.fd (FD.ofZ (z := 112) (by decide) pF)
    have EN : ∀ i h x j, RMl h T (yrsM T (-1) S i) → FM h1 h → whV T S (nI V) (nI M) = x → B E md_X12_when (d + 5) Q X 69 [(0, .ref 84), (1, .int (nI V)), (2, .int (nI M)), (3, .int x), (4, .int j)] [] h 0 := by
      intro i h x j hR2 fm hx
      refine b_aload_n dX12_when_69 rfl rfl ?_
      refine b_aload_n dX12_when_70 rfl rfl ?_
      refine b_getR (b := 112) lf_X12_120 rfl rfl dX12_when_71 ?_
      refine b_iconst (v := 0) dX12_when_74 (by decide +kernel) ?_
      refine b_callV (As := [_, _]) (st := []) dX12_when_75 lk_X12_416 lm_X12_unpack lv_X12_unpack rfl (by decide) rfl rfl rfl (Nat.le_of_ble_eq_true rfl) (Nat.le_refl _) (by decide) ?_
      refine c_X12_unpack (z := 112) (n := 35) (f := 0) rfl (by decide) (by decide) (by decide) (fun h3 uF u84 uk => ?_)
      have hR3 := RMl.back hT.le oL.1 oL.2.2.2.2 (by rw [fm.1 112 (by decide) (by decide) (by decide) (by decide) (by decide) (by decide)]; exact rk) hR2 (yrsM_pre T (-1) S i) uF uk
      have D3 := (D1.tr fm.fd).tr (FD.unp uF u84)
      refine b_iload_n dX12_when_78 rfl rfl ?_
      refine b_iret rfl (by decide) dX12_when_79 ?_
      have hq := hq h3 D3 hR3 (by rw [wheM_0 hz, u84 2 (by decide), fm.2 2 (by decide) (by decide)]; exact c1)
      rw [wheM_0 hz] at hq
      subst hx
      exact hq
    have LP : ∀ i, i ≤ 21 → ∀ h, RMl h T (yrsM T (-1) S i) → FM h1 h → whV T S (nI V) (nI M) = fndF (fun k => ocB (yrsM T (-1) S k) (nI V) (nI M)) (21 - i) i → B E md_X12_when (d + 5) Q X 34 [(0, .ref 84), (1, .int (nI V)), (2, .int (nI M)), (3, .int (-1)), (4, .int (nI i))] [] h 0 := by
      refine lp_up (fun i hi ih h hR2 fm hwh => ?_)
      have h5 := hR2.le
      refine b_iload dX12_when_34 rfl ?_
      refine b_bipush (v := 20) dX12_when_36 (by decide +kernel) ?_
      refine b_icmp_gt (tgt := 69) dX12_when_38 (by decide) (fun h38 => ?_) (fun h38 => ?_)
      · have e38 : 20 < i := nn_lt (a := 20) (b := i) (by omega) (by omega) h38
        have e : i = 21 := by omega
        subst e
        rw [Nat.sub_self, fndF] at hwh
        exact EN 21 h _ _ hR2 fm hwh
      · have e38 : i ≤ 20 := nn_nlt (a := 20) (b := i) (by omega) (by omega) h38
        refine b_iload_n dX12_when_41 rfl rfl ?_
        refine b_iconst (v := (-1)) dX12_when_42 (by decide +kernel) ?_
        refine b_icmp_ne (tgt := 69) dX12_when_43 (by decide) (fun h43 => ?_) (fun h43 => ?_)
        · exact absurd rfl h43
        · refine b_aload_n dX12_when_46 rfl rfl ?_
          refine b_iconst (v := 0) dX12_when_47 (by decide +kernel) ?_
          refine b_iload_n dX12_when_48 rfl rfl ?_
          refine b_callV (As := [_, _]) (st := []) dX12_when_49 lk_X12_427 lm_X12_firstFrom lv_X12_firstFrom rfl (by decide) rfl rfl rfl (Nat.le_of_ble_eq_true rfl) (Nat.le_refl _) (by decide) ?_
          refine c_X12_firstFrom (s := 0) hR2.n hR2.le h7 (Nat.zero_le _) ?_
          have eH : hasF (h 104) (l_n (yrsM T (-1) S i)) (h 109) M = hasF (l_g (yrsM T (-1) S i) 0) (l_n (yrsM T (-1) S i)) (phD V M) M := hasF_cg (fun p hp => hR2.sg p hp) (fun p hp => by rw [fm.1 109 (by decide) (by decide) (by decide) (by decide) (by decide) (by decide), pF 109 (by decide)]; exact hC p hp)
          refine b_iconst (v := (-1)) dX12_when_52 (by decide +kernel) ?_
          refine b_icmp_eq (tgt := 59) dX12_when_53 (by decide) (fun h53 => ?_) (fun h53 => ?_)
          · refine b_aload_n dX12_when_59 rfl rfl ?_
            refine b_callV (As := []) (st := []) dX12_when_60 lk_X12_376 lm_X12_aYear lv_X12_aYear rfl (by decide) rfl rfl rfl (Nat.le_of_ble_eq_true rfl) (Nat.le_refl _) (by decide) ?_
            refine c_X12_aYear (sp := -1) (hT1.fd fm.fd) hR2 oT (oL.1.yrs oT i) (by rw [fm.2 44 (by decide) (by decide)]; exact sp1) (fun h2 f2 hR3 => ?_)
            refine b_incN (j := i) (lv' := [(0, _), (1, _), (2, _), (3, _), (4, _)]) dX12_when_63 rfl rfl (by decide) rfl rfl ?_
            refine b_goto (tgt := 34) dX12_when_66 (by decide) ?_
            have eo : ocB (yrsM T (-1) S i) (nI V) (nI M) = false := by
              unfold ocB
              refine anyN_no (fun p hp => ?_)
              rw [phF_n hV (by omega), ← eH]
              exact fndF_n _ _ (by omega) h53 p (by omega) (by omega)
            rw [show 21 - i = (21 - (i + 1)) + 1 by omega, fndF, if_neg (by rw [eo]; decide)] at hwh
            exact ih (i + 1) (by omega) (by omega) h2 hR3 (fm.tr f2) hwh
          · refine b_iload dX12_when_56 rfl ?_
            refine b_istore_n (lv' := [(0, _), (1, _), (2, _), (3, _), (4, _)]) dX12_when_58 rfl (by decide) rfl rfl ?_
            refine b_aload_n dX12_when_59 rfl rfl ?_
            refine b_callV (As := []) (st := []) dX12_when_60 lk_X12_376 lm_X12_aYear lv_X12_aYear rfl (by decide) rfl rfl rfl (Nat.le_of_ble_eq_true rfl) (Nat.le_refl _) (by decide) ?_
            refine c_X12_aYear (sp := -1) (hT1.fd fm.fd) hR2 oT (oL.1.yrs oT i) (by rw [fm.2 44 (by decide) (by decide)]; exact sp1) (fun h2 f2 hR3 => ?_)
            refine b_incN (j := i) (lv' := [(0, _), (1, _), (2, _), (3, _), (4, _)]) dX12_when_63 rfl rfl (by decide) rfl rfl ?_
            refine b_goto (tgt := 34) dX12_when_66 (by decide) ?_
            obtain ⟨p, p1, p2, p3⟩ := fndF_y _ _ h53
            have eo : ocB (yrsM T (-1) S i) (nI V) (nI M) = true := by
              unfold ocB
              exact anyN_t (i := p) (by omega) (by rw [phF_n hV (by omega), ← eH]; exact p3)
            rw [show 21 - i = (21 - (i + 1)) + 1 by omega, fndF, if_pos eo] at hwh
            refine b_iload dX12_when_34 rfl ?_
            refine b_bipush (v := 20) dX12_when_36 (by decide +kernel) ?_
            refine b_icmp_gt (tgt := 69) dX12_when_38 (by decide) (fun _ => ?_) (fun _ => ?_)
            · exact EN (i + 1) h2 _ _ hR3 (fm.tr f2) hwh
            · refine b_iload_n dX12_when_41 rfl rfl ?_
              refine b_iconst (v := (-1)) dX12_when_42 (by decide +kernel) ?_
              refine b_icmp_ne (tgt := 69) dX12_when_43 (by decide) (fun _ => ?_) (fun q => absurd q (nI_nm1 (by omega)))
              exact EN (i + 1) h2 _ _ hR3 (fm.tr f2) hwh
    refine b_iconst (v := (-1)) dX12_when_29 (by decide +kernel) ?_
    refine b_istore_n (lv' := [(0, _), (1, _), (2, _), (3, _)]) dX12_when_30 rfl (by decide) rfl rfl ?_
    refine b_iconst (v := 0) dX12_when_31 (by decide +kernel) ?_
    refine b_istore (lv' := [(0, _), (1, _), (2, _), (3, _), (4, _)]) dX12_when_32 (by decide) rfl rfl ?_
    exact LP 0 (Nat.zero_le _) h1 hR1 (FM.rf h1) rfl
  · have e11 := b2i_0 h11
    subst e11
    refine b_aload_n dX12_when_14 rfl rfl ?_
    refine b_iconst (v := 1) dX12_when_15 (by decide +kernel) ?_
    refine b_callV (As := [_]) (st := []) dX12_when_16 lk_X12_303 lm_X12_fail lv_X12_fail rfl (by decide) rfl rfl rfl (Nat.le_of_ble_eq_true rfl) (Nat.le_refl _) (by decide) ?_
    refine c_X12_fail ?_
    refine b_iret rfl (by decide) dX12_when_19 ?_
    rw [show wheM T S v m = (1, 0) from wheM_1 hz] at hq
    exact hq _ (F2.tr (FD.code 1)) hR.code (up2_s _ _ _ _)
