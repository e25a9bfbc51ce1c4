def quaM (T : TD) (F : FS) (p o : Int32) : Nat × Int32 × FS :=
  if inB p.toInt 0 (t_n T - 1) = true ∧ inB o.toInt 0 (t_n T - 1) = true then (if p = o ∨ anyN (fdP (l_g (f_S F) 6) (l_g (f_S F) 7) p o) (l_fn (f_S F)) = true ∨ 6 ≤ l_fn (f_S F) then (0, -1, refF F 1) else (0, nI (l_fn (f_S F)), pushF F (quaS (f_S F) p o))) else (1, 0, F)
theorem quaM_o {T : TD} {F : FS} {p o : Int32} (h : inB p.toInt 0 (t_n T - 1) = false ∨ inB o.toInt 0 (t_n T - 1) = false) : quaM T F p o = (1, 0, F) := by
  unfold quaM; rw [if_neg (fun q => by rcases h with h | h <;> rw [h] at q <;> simp at q)]
theorem quaM_r {T : TD} {F : FS} {p o : Int32} (h1 : inB p.toInt 0 (t_n T - 1) = true) (h2 : inB o.toInt 0 (t_n T - 1) = true) (h : p = o ∨ anyN (fdP (l_g (f_S F) 6) (l_g (f_S F) 7) p o) (l_fn (f_S F)) = true ∨ 6 ≤ l_fn (f_S F)) : quaM T F p o = (0, -1, refF F 1) := by
  unfold quaM; rw [if_pos ⟨h1, h2⟩, if_pos h]
theorem quaM_y {T : TD} {F : FS} {p o : Int32} (h1 : inB p.toInt 0 (t_n T - 1) = true) (h2 : inB o.toInt 0 (t_n T - 1) = true) (h : ¬ (p = o ∨ anyN (fdP (l_g (f_S F) 6) (l_g (f_S F) 7) p o) (l_fn (f_S F)) = true ∨ 6 ≤ l_fn (f_S F))) : quaM T F p o = (0, nI (l_fn (f_S F)), pushF F (quaS (f_S F) p o)) := by
  unfold quaM; rw [if_pos ⟨h1, h2⟩, if_neg h]
theorem fdP_cg {f f2 s s2 : Nat → Int32} {p o : Int32} {n : Nat} (h1 : ∀ i, i < n → f i = f2 i) (h2 : ∀ i, i < n → s i = s2 i) : anyN (fdP f s p o) n = anyN (fdP f2 s2 p o) n := anyN_cg (fun i hi => by unfold fdP; rw [h1 i hi, h2 i hi])
theorem insF_end {f : Nat → Int32} {n i : Nat} {x : Int32} (hi : i < n + 1) : insF f n n x i = if i = n then x else f i := by
  unfold insF
  by_cases e : i = n
  · rw [if_pos e, if_pos e]
  · rw [if_neg e, if_neg e, if_neg (by omega)]
theorem RLf.fds {g h : G2} {a : Nat} {T : TD} {sp : Int32} {S R : LfS} (hR : RLf g a T sp S) (hz : ∀ y, y ≠ a + 7 → y ≠ a + 8 → y ≠ a + 9 → h y = g y) (hn : l_n R = l_n S) (hc : ∀ c, c < 6 → l_g R c = l_g S c) (fn : h (a + 7) 2 = nI (l_fn R)) (f6 : l_fn R ≤ 6) (fa : ∀ i, i < l_fn R → h (a + 8) i = l_g R 6 i) (fb : ∀ i, i < l_fn R → h (a + 9) i = l_g R 7 i) : RLf h a T sp R := by
  refine hR.upd hn (by rw [hz a (by omega) (by omega) (by omega)]) (by rw [hz a (by omega) (by omega) (by omega)]) (by rw [hz a (by omega) (by omega) (by omega)]) (hz _ (by omega) (by omega) (by omega)) (hz _ (by omega) (by omega) (by omega)) (hz _ (by omega) (by omega) (by omega)) (hz _ (by omega) (by omega) (by omega)) (hz _ (by omega) (by omega) (by omega)) (hc 0 (by decide)) (hc 1 (by decide)) (hc 2 (by decide)) (hc 5 (by decide)) (fun j hj => ?_) (fun q hq => ?_) fn f6 fa fb
  · rw [hz a (by omega) (by omega) (by omega), hc 3 (by decide)]; exact hR.fld j hj
  · rw [hz _ (by omega) (by omega) (by omega), hc 4 (by decide)]; exact hR.ho q hq
theorem quaS_c (S : LfS) (p o : Int32) {c : Nat} (hc : c < 6) : l_g (quaS S p o) c = l_g S c := by
  show up2 (up2 (l_g S) 6 (l_fn S) p) 7 (l_fn S) o c = _
  rw [up2_f _ _ _ _ (by omega), up2_f _ _ _ _ (by omega)]
theorem peaS_c (S : LfS) (k : Nat) {c : Nat} (hc : c < 6) : l_g (peaS S k) c = l_g S c := by
  show upA (upA (l_g S) 6 (rmF (l_g S 6) k)) 7 (rmF (l_g S 7) k) c = _
  rw [upA_a _ _ _ (by omega), upA_a _ _ _ (by omega)]
theorem quaS_6 (S : LfS) (p o : Int32) (i : Nat) : l_g (quaS S p o) 6 i = if i = l_fn S then p else l_g S 6 i := by
  show up2 (up2 (l_g S) 6 (l_fn S) p) 7 (l_fn S) o 6 i = _
  rw [up2_a _ _ _ _ (by decide), up2_if]
theorem quaS_7 (S : LfS) (p o : Int32) (i : Nat) : l_g (quaS S p o) 7 i = if i = l_fn S then o else l_g S 7 i := by
  show up2 (up2 (l_g S) 6 (l_fn S) p) 7 (l_fn S) o 7 i = _
  rw [up2_if, up2_a _ _ _ _ (by decide)]
theorem peaS_6 (S : LfS) (k : Nat) : l_g (peaS S k) 6 = rmF (l_g S 6) k := by
  show upA (upA (l_g S) 6 (rmF (l_g S 6) k)) 7 (rmF (l_g S 7) k) 6 = _
  rw [upA_a _ _ _ (by decide), upA_s]
theorem peaS_7 (S : LfS) (k : Nat) : l_g (peaS S k) 7 = rmF (l_g S 7) k := by
  show upA (upA (l_g S) 6 (rmF (l_g S 6) k)) 7 (rmF (l_g S 7) k) 7 = _
  rw [upA_s]
theorem RLf.qua {g h : G2} {a : Nat} {T : TD} {sp p o : Int32} {S : LfS} (hR : RLf g a T sp S) (h5 : l_fn S < 6) (hF : FR [a + 7, a + 7 + 1, a + 7 + 2] g h) (h2 : h (a + 7) 2 = nI (l_fn S + 1)) (ha : ∀ j, h (a + 7 + 1) j = insF (g (a + 7 + 1)) (l_fn S) (l_fn S) p j) (hb : ∀ j, h (a + 7 + 2) j = insF (g (a + 7 + 2)) (l_fn S) (l_fn S) o j) : RLf h a T sp (quaS S p o) := by
  refine hR.fds (fun y y1 y2 y3 => hF y (by simp only [List.mem_cons, List.not_mem_nil, or_false, not_or]; omega)) rfl (fun c hc => quaS_c S p o hc) h2 h5 (fun i hi => ?_) (fun i hi => ?_)
  · have hi : i < l_fn S + 1 := hi
    rw [show a + 8 = a + 7 + 1 by omega, ha i, insF_end hi, quaS_6]
    by_cases e : i = l_fn S
    · rw [if_pos e, if_pos e]
    · rw [if_neg e, if_neg e]; exact hR.fa i (by omega)
  · have hi : i < l_fn S + 1 := hi
    rw [show a + 9 = a + 7 + 2 by omega, hb i, insF_end hi, quaS_7]
    by_cases e : i = l_fn S
    · rw [if_pos e, if_pos e]
    · rw [if_neg e, if_neg e]; exact hR.fb i (by omega)
theorem RLf.pea {g h : G2} {a k : Nat} {T : TD} {sp : Int32} {S : LfS} (hR : RLf g a T sp S) (hk : k < l_fn S) (hF : FR [a + 7, a + 7 + 1, a + 7 + 2] g h) (h2 : h (a + 7) 2 = nI (l_fn S - 1)) (ha : ∀ j, j < l_fn S - 1 → h (a + 7 + 1) j = rmF (g (a + 7 + 1)) k j) (hb : ∀ j, j < l_fn S - 1 → h (a + 7 + 2) j = rmF (g (a + 7 + 2)) k j) : RLf h a T sp (peaS S k) := by
  have h6 := hR.f6
  refine hR.fds (fun y y1 y2 y3 => hF y (by simp only [List.mem_cons, List.not_mem_nil, or_false, not_or]; omega)) rfl (fun c hc => peaS_c S k hc) h2 (by show l_fn S - 1 ≤ 6; omega) (fun i hi => ?_) (fun i hi => ?_)
  · have hi : i < l_fn S - 1 := hi
    rw [show a + 8 = a + 7 + 1 by omega, ha i hi, peaS_6]
    unfold rmF
    split
    · exact hR.fa _ (by omega)
    · exact hR.fa _ (by omega)
  · have hi : i < l_fn S - 1 := hi
    rw [show a + 9 = a + 7 + 2 by omega, hb i hi, peaS_7]
    unfold rmF
    split
    · exact hR.fb _ (by omega)
    · exact hR.fb _ (by omega)
theorem c_X11_quarrel {E : En} {d : Nat} {Q : QT} {X : XT} {g : G2} {t : Nat} (ht : is_town t) (h0 : g 0 2 = nI t) {T : TD} {F : FS} (hT : RTn g t T) (hC : RCf g 31 61 65 71 T F) (oF : okF T F) {p0 o0 : Int32} (hq : ∀ h, (quaM T F p0 o0).1 = 0 → RCf h 31 61 65 71 T (quaM T F p0 o0).2.2 → FA g h → Q (some (.int (quaM T F p0 o0).2.1)) h) (hx : (quaM T F p0 o0).1 = 1 → X nsN g) : M E md_X11_quarrel (d + 7) [.ref 0, .int p0, .int o0] g Q X := by
  refine M.of _ rfl rfl (Nat.le_of_ble_eq_true rfl) ?_
  refine b_aload_n dX11_quarrel_0 rfl rfl ?_
  refine b_iload_n dX11_quarrel_1 rfl rfl ?_
  refine b_callV (As := [_]) (st := []) dX11_quarrel_2 lk_X11_164 lm_X11_needPerson lv_X11_needPerson rfl (by decide) rfl rfl rfl (Nat.le_of_ble_eq_true rfl) (Nat.le_refl _) (by decide) ?_
  refine c_X11_needPerson ht h0 hT.n hT.le (fun hin => ?_) (fun ho => hx (by rw [quaM_o (Or.inl ho)]))
  obtain ⟨p, hp, rfl⟩ := in_nat hin
  have h8 := hT.le
  refine b_aload_n dX11_quarrel_5 rfl rfl ?_
  refine b_iload_n dX11_quarrel_6 rfl rfl ?_
  refine b_callV (As := [_]) (st := []) dX11_quarrel_7 lk_X11_164 lm_X11_needPerson lv_X11_needPerson rfl (by decide) rfl rfl rfl (Nat.le_of_ble_eq_true rfl) (Nat.le_refl _) (by decide) ?_
  refine c_X11_needPerson ht h0 hT.n hT.le (fun hin2 => ?_) (fun ho => hx (by rw [quaM_o (Or.inr ho)]))
  obtain ⟨o, ho, rfl⟩ := in_nat hin2
  refine b_aload_n dX11_quarrel_10 rfl rfl ?_
  refine b_getR (b := 31) lf_X11_33 rfl rfl dX11_quarrel_11 ?_
  refine b_getR (b := 38) lf_X11_127 (life_c is_life31) (life_r14 is_life31) dX11_quarrel_14 ?_
  refine b_astore_n (lv' := [(0, _), (1, _), (2, _), (3, _)]) dX11_quarrel_17 rfl (by decide) rfl rfl ?_
  refine b_iload_n dX11_quarrel_18 rfl rfl ?_
  refine b_iload_n dX11_quarrel_19 rfl rfl ?_
  refine b_icmp_eq (tgt := 41) dX11_quarrel_20 (by decide) (fun h20 => ?_) (fun h20 => ?_)
  · have hz := quaM_r (F := F) hin hin2 (Or.inl h20)
    refine b_aload_n dX11_quarrel_41 rfl rfl ?_
    refine b_callV (As := []) (st := []) dX11_quarrel_42 lk_X11_227 lm_X11_refuseAct lv_X11_refuseAct rfl (by decide) rfl rfl rfl (Nat.le_of_ble_eq_true rfl) (Nat.le_refl _) (by decide) ?_
    refine c_X11_refuseAct ?_
    refine b_iconst (v := (-1)) dX11_quarrel_45 (by decide +kernel) ?_
    refine b_iret rfl (by decide) dX11_quarrel_46 ?_
    rw [hz] at hq
    exact hq _ rfl hC.ref (FA.ref g 1 _)
  · refine b_aload_n dX11_quarrel_23 rfl rfl ?_
    refine b_iload_n dX11_quarrel_24 rfl rfl ?_
    refine b_iload_n dX11_quarrel_25 rfl rfl ?_
    refine b_callV (As := [_, _]) (st := []) dX11_quarrel_26 lk_X11_247 lm_X1_between lv_X1_between (feuds_c (life_feuds is_life31)) (by decide) rfl rfl rfl (Nat.le_of_ble_eq_true rfl) (Nat.le_refl _) (by decide) ?_
    refine c_X1_between (life_feuds is_life31) hC.1.fn hC.1.f6 ?_
    rw [fdP_cg (fun i hi => hC.1.fa i hi) (fun i hi => hC.1.fb i hi)]
    have hf6 := hC.1.f6
    refine b_if_ne (tgt := 41) dX11_quarrel_29 (by decide) (fun h29 => ?_) (fun h29 => ?_)
    · have e29 := b2i_1 h29
      have hz := quaM_r (F := F) hin hin2 (Or.inr (Or.inl e29))
      refine b_aload_n dX11_quarrel_41 rfl rfl ?_
      refine b_callV (As := []) (st := []) dX11_quarrel_42 lk_X11_227 lm_X11_refuseAct lv_X11_refuseAct rfl (by decide) rfl rfl rfl (Nat.le_of_ble_eq_true rfl) (Nat.le_refl _) (by decide) ?_
      refine c_X11_refuseAct ?_
      refine b_iconst (v := (-1)) dX11_quarrel_45 (by decide +kernel) ?_
      refine b_iret rfl (by decide) dX11_quarrel_46 ?_
      rw [hz] at hq
      exact hq _ rfl hC.ref (FA.ref g 1 _)
    · have e29 := b2i_0 h29
      refine b_aload_n dX11_quarrel_32 rfl rfl ?_
      refine b_getI lf_X11_131 (feuds_c (life_feuds is_life31)) dX11_quarrel_33 ?_
      refine b_topE (y := nI (l_fn (f_S F))) (hC.1.fn) ?_
      refine b_bipush (v := 6) dX11_quarrel_36 (by decide +kernel) ?_
      refine b_icmp_lt (tgt := 47) dX11_quarrel_38 (by decide) (fun h38 => ?_) (fun h38 => ?_)
      · have e38 : (l_fn (f_S F)) < 6 := nn_lt (a := (l_fn (f_S F))) (b := 6) (by omega) (by omega) h38
        have hz := quaM_y (F := F) hin hin2 (fun q => q.elim h20 (fun q => q.elim (fun q => by rw [e29] at q; exact absurd q (by decide)) (fun q => absurd e38 (by omega))))
        rw [hz] at hq
        refine b_aload_n dX11_quarrel_47 rfl rfl ?_
        refine b_aload_n dX11_quarrel_48 rfl rfl ?_
        refine b_getI lf_X11_131 (feuds_c (life_feuds is_life31)) dX11_quarrel_49 ?_
        refine b_topE (y := nI (l_fn (f_S F))) (hC.1.fn) ?_
        refine b_iload_n dX11_quarrel_52 rfl rfl ?_
        refine b_iload_n dX11_quarrel_53 rfl rfl ?_
        refine b_callV (As := [_, _, _]) (st := []) dX11_quarrel_54 lk_X11_250 lm_X1_insert lv_X1_insert (feuds_c (life_feuds is_life31)) (by decide) rfl rfl rfl (Nat.le_of_ble_eq_true rfl) (Nat.le_refl _) (by decide) ?_
        refine c_X1_insert (life_feuds is_life31) hC.1.fn e38 (Nat.le_refl _) (fun g1 iF i1 i2 ia ib => ?_)
        have hz1 : ∀ y, y ≠ 38 → y ≠ 39 → y ≠ 40 → g1 y = g y := fun y y1 y2 y3 => iF y (by simp; omega)
        have hR1 : RLf g1 31 T (-1) (quaS (f_S F) (nI p) (nI o)) := hC.1.qua e38 iF i2 ia ib
        refine b_aload_n dX11_quarrel_57 rfl rfl ?_
        refine b_getR (b := 61) lf_X11_40 rfl rfl dX11_quarrel_58 ?_
        refine b_iconst (v := 4) dX11_quarrel_61 (by decide +kernel) ?_
        refine b_iconst (v := 0) dX11_quarrel_62 (by decide +kernel) ?_
        refine b_iconst (v := 0) dX11_quarrel_63 (by decide +kernel) ?_
        refine b_iconst (v := 0) dX11_quarrel_64 (by decide +kernel) ?_
        refine b_callV (As := [_, _, _, _]) (st := []) dX11_quarrel_65 lk_X11_230 lm_X0_keep lv_X0_keep (acts_c is_acts61) (by decide) rfl rfl rfl (Nat.le_of_ble_eq_true rfl) (Nat.le_refl _) (by decide) ?_
        refine c_X0_keep is_acts61 (by rw [hz1 61 (by decide) (by decide) (by decide)]; exact hC.2.1.1) (keep_hm oF.1) (fun g2 kF kA kn kc k0 k1 k2 k3 => ?_)
        have hz2 : ∀ y, y ≠ 61 → y ≠ 62 → g2 y = g1 y := fun y y1 y2 => kF y (by simp [y1, y2])
        refine b_aload_n dX11_quarrel_68 rfl rfl ?_
        refine b_getI lf_X11_131 (feuds_c (life_feuds is_life31)) dX11_quarrel_69 ?_
        refine b_topE (y := nI ((l_fn (f_S F) + 1))) (by rw [hz2 38 (by decide) (by decide)]; exact i2) ?_
        refine b_iconst (v := 1) dX11_quarrel_72 (by decide +kernel) ?_
        refine b_isub dX11_quarrel_73 ?_
        refine b_topE (nI_sub ((l_fn (f_S F) + 1)) 1 (by omega)) ?_
        refine b_iret rfl (by decide) dX11_quarrel_74 ?_
        refine hq g2 rfl (hC.push oF.1 (hR1.cg (fun k hk => hz2 _ (by omega) (by omega))) kn (fun i r j1 j2 => by rw [kc i r j1 j2, hz1 62 (by decide) (by decide) (by decide)]) (act_quar k0) ?_ ?_ ?_ ?_) (fun y y1 y2 y3 y4 y5 => ?_)
        · rw [hz2 _ (by decide) (by decide), hz1 _ (by decide) (by decide) (by decide)]
        · rw [hz2 _ (by decide) (by decide), hz1 _ (by decide) (by decide) (by decide)]
        · rw [hz2 _ (by decide) (by decide), hz1 _ (by decide) (by decide) (by decide)]
        · rw [hz2 _ (by decide) (by decide), hz1 _ (by decide) (by decide) (by decide)]
        · rw [hz2 y y3 y4, hz1 y (by omega) (by omega) (by omega)]
      · have e38 : 6 ≤ (l_fn (f_S F)) := nn_nlt (a := (l_fn (f_S F))) (b := 6) (by omega) (by omega) h38
        have hz := quaM_r (F := F) hin hin2 (Or.inr (Or.inr e38))
        refine b_aload_n dX11_quarrel_41 rfl rfl ?_
        refine b_callV (As := []) (st := []) dX11_quarrel_42 lk_X11_227 lm_X11_refuseAct lv_X11_refuseAct rfl (by decide) rfl rfl rfl (Nat.le_of_ble_eq_true rfl) (Nat.le_refl _) (by decide) ?_
        refine c_X11_refuseAct ?_
        refine b_iconst (v := (-1)) dX11_quarrel_45 (by decide +kernel) ?_
        refine b_iret rfl (by decide) dX11_quarrel_46 ?_
        rw [hz] at hq
        exact hq _ rfl hC.ref (FA.ref g 1 _)
def peaM (F : FS) (k : Int32) : Nat × Int32 × FS := if inB k.toInt 0 (l_fn (f_S F) - 1) then (0, 1, pushF F (peaS (f_S F) k.toNatClampNeg)) else (0, 0, refF F 1)
theorem peaM_r {F : FS} {k : Int32} (h : inB k.toInt 0 (l_fn (f_S F) - 1) = false) : peaM F k = (0, 0, refF F 1) := by unfold peaM; rw [h]; rfl
theorem peaM_y {F : FS} {k : Nat} (h : k < l_fn (f_S F)) (h6 : l_fn (f_S F) ≤ 6) : peaM F (nI k) = (0, 1, pushF F (peaS (f_S F) k)) := by unfold peaM; rw [in_nI h (by omega), if_pos rfl, nI_cl (by omega)]
theorem c_X11_peace {E : En} {d : Nat} {Q : QT} {X : XT} {g : G2} {T : TD} {F : FS} (hC : RCf g 31 61 65 71 T F) (oF : okF T F) {k0 : Int32} (hq : ∀ h, RCf h 31 61 65 71 T (peaM F k0).2.2 → FA g h → Q (some (.int (peaM F k0).2.1)) h) : M E md_X11_peace (d + 4) [.ref 0, .int k0] g Q X := by
  refine M.of _ rfl rfl (Nat.le_of_ble_eq_true rfl) ?_
  refine b_aload_n dX11_peace_0 rfl rfl ?_
  refine b_getR (b := 31) lf_X11_33 rfl rfl dX11_peace_1 ?_
  refine b_getR (b := 38) lf_X11_127 (life_c is_life31) (life_r14 is_life31) dX11_peace_4 ?_
  refine b_astore_n (lv' := [(0, _), (1, _), (2, _)]) dX11_peace_7 rfl (by decide) rfl rfl ?_
  refine b_aload_n dX11_peace_8 rfl rfl ?_
  refine b_iload_n dX11_peace_9 rfl rfl ?_
  refine b_callV (As := [_]) (st := []) dX11_peace_10 lk_X11_202 lm_X1_has lv_X1_has (feuds_c (life_feuds is_life31)) (by decide) rfl rfl rfl (Nat.le_of_ble_eq_true rfl) (Nat.le_refl _) (by decide) ?_
  refine c_X1_has (life_feuds is_life31) hC.1.fn ?_
  have h6 := hC.1.f6
  rw [has_in (by omega)]
  refine b_if_ne (tgt := 22) dX11_peace_13 (by decide) (fun h13 => ?_) (fun h13 => ?_)
  · have e13 := b2i_1 h13
    obtain ⟨k, hk, rfl⟩ := in_nat e13
    rw [peaM_y hk h6] at hq
    refine b_aload_n dX11_peace_22 rfl rfl ?_
    refine b_getR (b := 61) lf_X11_40 rfl rfl dX11_peace_23 ?_
    refine b_iconst (v := 5) dX11_peace_26 (by decide +kernel) ?_
    refine b_iload_n dX11_peace_27 rfl rfl ?_
    refine b_aload_n dX11_peace_28 rfl rfl ?_
    refine b_getR (b := 39) lf_X11_207 (feuds_c (life_feuds is_life31)) (feuds_r0 (life_feuds is_life31)) dX11_peace_29 ?_
    refine b_iload_n dX11_peace_32 rfl rfl ?_
    refine b_ildN (j := k) dX11_peace_33 (rfl) (by rw [(feuds_n1 (life_feuds is_life31))]; omega) ?_
    refine b_aload_n dX11_peace_34 rfl rfl ?_
    refine b_getR (b := 40) lf_X11_210 (feuds_c (life_feuds is_life31)) (feuds_r1 (life_feuds is_life31)) dX11_peace_35 ?_
    refine b_iload_n dX11_peace_38 rfl rfl ?_
    refine b_ildN (j := k) dX11_peace_39 (rfl) (by rw [(feuds_n2 (life_feuds is_life31))]; omega) ?_
    refine b_callV (As := [_, _, _, _]) (st := []) dX11_peace_40 lk_X11_230 lm_X0_keep lv_X0_keep (acts_c is_acts61) (by decide) rfl rfl rfl (Nat.le_of_ble_eq_true rfl) (Nat.le_refl _) (by decide) ?_
    refine c_X0_keep is_acts61 (hC.2.1.1) (keep_hm oF.1) (fun g2 kF kA kn kc k0 k1 k2 k3 => ?_)
    have hz2 : ∀ y, y ≠ 61 → y ≠ 62 → g2 y = g y := fun y y1 y2 => kF y (by simp [y1, y2])
    have hR2 : RLf g2 31 T (-1) (f_S F) := hC.1.cg (fun k hk => hz2 _ (by omega) (by omega))
    refine b_aload_n dX11_peace_43 rfl rfl ?_
    refine b_iload_n dX11_peace_44 rfl rfl ?_
    refine b_callV (As := [_]) (st := []) dX11_peace_45 lk_X11_254 lm_X1_remove lv_X1_remove (feuds_c (life_feuds is_life31)) (by decide) rfl rfl rfl (Nat.le_of_ble_eq_true rfl) (Nat.le_refl _) (by decide) ?_
    refine c_X1_remove (n := l_fn (f_S F) - 1) (k := k) (life_feuds is_life31) (by rw [hR2.fn]; exact congrArg nI (by omega)) (by omega) (by omega) (fun g3 rF r1 r2 ra rb => ?_)
    have hz3 : ∀ y, y ≠ 38 → y ≠ 39 → y ≠ 40 → g3 y = g2 y := fun y y1 y2 y3 => rF y (by simp; omega)
    refine b_iconst (v := 1) dX11_peace_48 (by decide +kernel) ?_
    refine b_zret (Or.inr rfl) rfl (by decide) dX11_peace_49 ?_
    refine hq g3 (hC.push oF.1 (hR2.pea hk rF r2 ra rb) (by rw [hz3 61 (by decide) (by decide) (by decide)]; exact kn) (fun i r i1 i2 => by rw [hz3 62 (by decide) (by decide) (by decide)]; exact kc i r i1 i2) ?_ ?_ ?_ ?_ ?_) (fun y y1 y2 y3 y4 y5 => ?_)
    · have e62 := hz3 62 (by decide) (by decide) (by decide)
      exact act_peace hk h6 (by show g3 62 _ = _; rw [e62]; exact k0) (by show g3 62 _ = _; rw [e62]; exact k1) (by show g3 62 _ = _; rw [e62, k2]; exact hC.1.fa k hk) (by show g3 62 _ = _; rw [e62, k3]; exact hC.1.fb k hk)
    · rw [hz3 _ (by decide) (by decide) (by decide), hz2 _ (by decide) (by decide)]
    · rw [hz3 _ (by decide) (by decide) (by decide), hz2 _ (by decide) (by decide)]
    · rw [hz3 _ (by decide) (by decide) (by decide), hz2 _ (by decide) (by decide)]
    · rw [hz3 _ (by decide) (by decide) (by decide), hz2 _ (by decide) (by decide)]
    · rw [hz3 y (by omega) (by omega) (by omega), hz2 y y3 y4]
  · have e13 := b2i_0 h13
    rw [peaM_r e13] at hq
    refine b_aload_n dX11_peace_16 rfl rfl ?_
    refine b_callV (As := []) (st := []) dX11_peace_17 lk_X11_227 lm_X11_refuseAct lv_X11_refuseAct rfl (by decide) rfl rfl rfl (Nat.le_of_ble_eq_true rfl) (Nat.le_refl _) (by decide) ?_
    refine c_X11_refuseAct ?_
    refine b_iconst (v := 0) dX11_peace_20 (by decide +kernel) ?_
    refine b_zret (Or.inl rfl) rfl (by decide) dX11_peace_21 ?_
    exact hq _ hC.ref (FA.ref g 1 _)
def undM (F : FS) : Nat × Int32 × FS := if f_na F = 0 then (0, -1, F) else (0, nI (f_na F - 1), popF F)
theorem c_X11_undo {E : En} {d : Nat} {Q : QT} {X : XT} {g : G2} {T : TD} {F : FS} (hC : RCf g 31 61 65 71 T F) (oF : okF T F) (h8 : t_n T ≤ 8) (hq : ∀ h, RCf h 31 61 65 71 T (undM F).2.2 → FA g h → Q (some (.int (undM F).2.1)) h) : M E md_X11_undo (d + 4) [.ref 0] g Q X := by
  refine M.of _ rfl rfl (Nat.le_of_ble_eq_true rfl) ?_
  have h40 := oF.1
  refine b_aload_n dX11_undo_0 rfl rfl ?_
  refine b_getR (b := 61) lf_X11_40 rfl rfl dX11_undo_1 ?_
  refine b_getI lf_X11_113 (acts_c is_acts61) dX11_undo_4 ?_
  refine b_topE (y := nI (f_na F)) (hC.2.1.1) ?_
  refine b_if_gt (tgt := 12) dX11_undo_7 (by decide) (fun h7 => ?_) (fun h7 => ?_)
  · have e7 : 0 < (f_na F) := nn_lt (a := 0) (by decide) (by omega) h7
    unfold undM at hq
    rw [if_neg (by omega)] at hq
    refine b_aload_n dX11_undo_12 rfl rfl ?_
    refine b_getR (b := 61) lf_X11_40 rfl rfl dX11_undo_13 ?_
    refine b_dup dX11_undo_16 rfl ?_
    refine b_getI lf_X11_113 (acts_c is_acts61) dX11_undo_17 ?_
    refine b_topE (y := nI (f_na F)) (hC.2.1.1) ?_
    refine b_iconst (v := 1) dX11_undo_20 (by decide +kernel) ?_
    refine b_isub dX11_undo_21 ?_
    refine b_topE (nI_sub (f_na F) 1 (by omega)) ?_
    refine b_putI lf_X11_113 lp_0_1 (acts_c is_acts61) dX11_undo_22 ?_
    refine b_aload_n dX11_undo_25 rfl rfl ?_
    refine b_getR (b := 31) lf_X11_33 rfl rfl dX11_undo_26 ?_
    refine b_aload_n dX11_undo_29 rfl rfl ?_
    refine b_getR (b := 61) lf_X11_40 rfl rfl dX11_undo_30 ?_
    refine b_aload_n dX11_undo_33 rfl rfl ?_
    refine b_getR (b := 61) lf_X11_40 rfl rfl dX11_undo_34 ?_
    refine b_getI lf_X11_113 (acts_c is_acts61) dX11_undo_37 ?_
    refine b_topE (y := nI ((f_na F - 1))) (up2_s _ _ _ _) ?_
    refine b_callV (As := [_, _]) (st := []) dX11_undo_40 lk_X11_257 lm_X5_takeBack lv_X5_takeBack (life_c is_life31) (by decide) rfl rfl rfl (Nat.le_of_ble_eq_true rfl) (Nat.le_refl _) (by decide) ?_
    refine c_X5_takeBack (T := T) (sp := -1) (S := f_S F) is_life31 is_acts61 (i := f_na F - 1) (by have := oF.1; omega) h8 (hC.1.cg (fun k hk => up2_f _ _ _ _ (by omega))) oF.S.1 ?_ (fun h hF hR => ?_)
    · have := (hC.2.1.2 (f_na F - 1) (by omega)).1
      rw [show f_na F - 1 + 1 = f_na F by omega, f_at_S] at this
      rw [up2_f _ _ _ _ (by decide)]; exact this
    have hz : ∀ y, ¬ (31 ≤ y ∧ y ≤ 40) → h y = up2 g 61 1 (nI (f_na F - 1)) y := fun y y1 => hF y (by simp; omega)
    rw [up2_f _ _ _ _ (show 61 + 1 ≠ 61 by decide)] at hR
    refine b_aload_n dX11_undo_43 rfl rfl ?_
    refine b_getR (b := 61) lf_X11_40 rfl rfl dX11_undo_44 ?_
    refine b_getI lf_X11_113 (acts_c is_acts61) dX11_undo_47 ?_
    refine b_topE (y := nI ((f_na F - 1))) (by rw [hz 61 (by decide)]; exact up2_s _ _ _ _) ?_
    refine b_iret rfl (by decide) dX11_undo_50 ?_
    have hact := (hC.2.1.2 (f_na F - 1) (by omega)).2
    rw [show f_na F - 1 + 1 = f_na F by omega, f_at_S] at hact
    refine hq h ⟨hR.eqv hact, hC.2.1.pop (by omega) (by rw [hz 61 (by decide)]; exact up2_s _ _ _ _) (by rw [hz 62 (by decide)]; exact up2_f _ _ _ _ (by decide)), RCh.cg hC.2.2.1 (by rw [hz 65 (by decide)]; exact up2_f _ _ _ _ (by decide)) (by rw [hz 66 (by decide)]; exact up2_f _ _ _ _ (by decide)) (by rw [hz 67 (by decide)]; exact up2_f _ _ _ _ (by decide)), RCu.cg hC.2.2.2 (by rw [hz 71 (by decide)]; exact up2_f _ _ _ _ (by decide))⟩ (fun y y1 y2 y3 y4 y5 => ?_)
    rw [hz y y2]; exact up2_f _ _ _ _ y3
  · have e7 : (f_na F) = 0 := Nat.le_zero.mp (nn_nlt (a := 0) (by decide) (by omega) h7)
    unfold undM at hq
    rw [if_pos e7] at hq
    refine b_iconst (v := (-1)) dX11_undo_10 (by decide +kernel) ?_
    refine b_iret rfl (by decide) dX11_undo_11 ?_
    exact hq g hC (FA.rf g)
