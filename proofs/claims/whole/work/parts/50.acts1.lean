theorem RLf.set {g : G2} {a j : Nat} {T : TD} {sp x : Int32} {S : LfS} (hR : RLf g a T sp S) (hj : j < 5) : RLf (up2 g a (4 + j) x) a T sp (setS S j x) := by
  have e : ∀ c i, l_g (setS S j x) c i = up2 (l_g S) 3 j x c i := fun _ _ => rfl
  refine hR.upd rfl (up2_k _ _ _ _ (by omega)) (up2_k _ _ _ _ (by omega)) (up2_k _ _ _ _ (by omega)) (up2_f _ _ _ _ (by omega)) (up2_f _ _ _ _ (by omega)) (up2_f _ _ _ _ (by omega)) (up2_f _ _ _ _ (by omega)) (up2_f _ _ _ _ (by omega)) (funext fun i => ?_) (funext fun i => ?_) (funext fun i => ?_) (funext fun i => ?_) (fun q hq => ?_) (fun p hp => ?_) ?_ hR.f6 (fun i hi => ?_) (fun i hi => ?_)
  · rw [e, up2_a _ _ _ _ (by decide)]
  · rw [e, up2_a _ _ _ _ (by decide)]
  · rw [e, up2_a _ _ _ _ (by decide)]
  · rw [e, up2_a _ _ _ _ (by decide)]
  · rw [e]
    by_cases z : q = j
    · subst z; rw [up2_s, up2_s]
    · rw [up2_k _ _ _ _ (by omega), up2_k _ _ _ _ z]; exact hR.fld q hq
  · rw [e, up2_a _ _ _ _ (by omega), up2_a _ _ _ _ (by decide)]; exact hR.ho p hp
  · rw [up2_a _ _ _ _ (by omega)]; exact hR.fn
  · rw [e, up2_a _ _ _ _ (by omega), up2_a _ _ _ _ (by decide)]; exact hR.fa i hi
  · rw [e, up2_a _ _ _ _ (by omega), up2_a _ _ _ _ (by decide)]; exact hR.fb i hi
def awaM (T : TD) (F : FS) (p : Int32) (gone : Bool) : Nat × Int32 × FS :=
  if inB p.toInt 0 (t_n T - 1) then (if (!(btI (l_g (f_S F) 3 3) p == 0)) = true ∨ (!(btI (l_g (f_S F) 3 2) p == 0)) = gone then (0, 0, refF F 1) else (0, 1, pushF F (setS (f_S F) 2 (l_g (f_S F) 3 2 ^^^ sbI p)))) else (1, 0, F)
theorem awaM_o {T : TD} {F : FS} {p : Int32} {b : Bool} (h : inB p.toInt 0 (t_n T - 1) = false) : awaM T F p b = (1, 0, F) := by unfold awaM; rw [h]; rfl
theorem awaM_r {T : TD} {F : FS} {p : Int32} {b : Bool} (h : inB p.toInt 0 (t_n T - 1) = true) (h2 : (!(btI (l_g (f_S F) 3 3) p == 0)) = true ∨ (!(btI (l_g (f_S F) 3 2) p == 0)) = b) : awaM T F p b = (0, 0, refF F 1) := by unfold awaM; rw [h, if_pos rfl, if_pos h2]
theorem awaM_y {T : TD} {F : FS} {p : Int32} {b : Bool} (h : inB p.toInt 0 (t_n T - 1) = true) (h2 : ¬ ((!(btI (l_g (f_S F) 3 3) p == 0)) = true ∨ (!(btI (l_g (f_S F) 3 2) p == 0)) = b)) : awaM T F p b = (0, 1, pushF F (setS (f_S F) 2 (l_g (f_S F) 3 2 ^^^ sbI p))) := by unfold awaM; rw [h, if_pos rfl, if_neg h2]
theorem b2i_inj {a b : Bool} (h : b2i a = b2i b) : a = b := by cases a <;> cases b <;> first | rfl | exact absurd h (by decide)
def dieM (T : TD) (F : FS) (p : Int32) : Nat × Int32 × FS :=
  if inB p.toInt 0 (t_n T - 1) then (if (!(btI (l_g (f_S F) 3 3) p == 0)) = true then (0, 0, refF F 1) else (0, 1, pushF F (setS (f_S F) 3 (l_g (f_S F) 3 3 ||| sbI p)))) else (1, 0, F)
theorem dieM_o {T : TD} {F : FS} {p : Int32} (h : inB p.toInt 0 (t_n T - 1) = false) : dieM T F p = (1, 0, F) := by unfold dieM; rw [h]; rfl
theorem dieM_r {T : TD} {F : FS} {p : Int32} (h : inB p.toInt 0 (t_n T - 1) = true) (h2 : (!(btI (l_g (f_S F) 3 3) p == 0)) = true) : dieM T F p = (0, 0, refF F 1) := by unfold dieM; rw [h, if_pos rfl, if_pos h2]
theorem dieM_y {T : TD} {F : FS} {p : Int32} (h : inB p.toInt 0 (t_n T - 1) = true) (h2 : (!(btI (l_g (f_S F) 3 3) p == 0)) = false) : dieM T F p = (0, 1, pushF F (setS (f_S F) 3 (l_g (f_S F) 3 3 ||| sbI p))) := by unfold dieM; rw [h, if_pos rfl, if_neg (by rw [h2]; decide)]
theorem c_X11_away {E : En} {d : Nat} {Q : QT} {X : XT} {g : G2} {t : Nat} (ht : is_town t) (h0 : g 0 2 = nI t) {T : TD} {F : FS} (hT : RTn g t T) (hC : RCf g 31 61 65 71 T F) (oF : okF T F) {p0 : Int32} {gone : Bool} (hq : ∀ h, (awaM T F p0 gone).1 = 0 → RCf h 31 61 65 71 T (awaM T F p0 gone).2.2 → FA g h → Q (some (.int (awaM T F p0 gone).2.1)) h) (hx : (awaM T F p0 gone).1 = 1 → X nsN g) : M E md_X11_away (d + 7) [.ref 0, .int p0, .int (b2i gone)] g Q X := by
  refine M.of _ rfl rfl (Nat.le_of_ble_eq_true rfl) ?_
  refine b_aload_n dX11_away_0 rfl rfl ?_
  refine b_iload_n dX11_away_1 rfl rfl ?_
  refine b_callV (As := [_]) (st := []) dX11_away_2 lk_X11_164 lm_X11_needPerson lv_X11_needPerson rfl (by decide) rfl rfl rfl (Nat.le_of_ble_eq_true rfl) (Nat.le_refl _) (by decide) ?_
  refine c_X11_needPerson ht h0 hT.n hT.le (fun hin => ?_) (fun ho => hx (by rw [awaM_o ho]))
  obtain ⟨p, hp, rfl⟩ := in_nat hin
  have h8 := hT.le
  refine b_aload_n dX11_away_5 rfl rfl ?_
  refine b_getR (b := 31) lf_X11_33 rfl rfl dX11_away_6 ?_
  refine b_getI lf_X11_153 (life_c is_life31) dX11_away_9 ?_
  refine b_iload_n dX11_away_12 rfl rfl ?_
  refine b_callS (As := [_, _]) (st := []) dX11_away_13 lk_X11_237 lm_X11_isIn ls_X11_isIn rfl rfl (Nat.le_of_ble_eq_true rfl) (Nat.le_refl _) (by decide) ?_
  refine c_X11_isIn ?_
  rw [hC.1.de]
  refine b_if_ne (tgt := 34) dX11_away_16 (by decide) (fun h16 => ?_) (fun h16 => ?_)
  · have e16 := b2i_1 h16
    have hz := awaM_r (F := F) (b := gone) hin (Or.inl e16)
    refine b_aload_n dX11_away_34 rfl rfl ?_
    refine b_callV (As := []) (st := []) dX11_away_35 lk_X11_227 lm_X11_refuseAct lv_X11_refuseAct rfl (by decide) rfl rfl rfl (Nat.le_of_ble_eq_true rfl) (Nat.le_refl _) (by decide) ?_
    refine c_X11_refuseAct ?_
    refine b_iconst (v := 0) dX11_away_38 (by decide +kernel) ?_
    refine b_zret (Or.inl rfl) rfl (by decide) dX11_away_39 ?_
    rw [hz] at hq
    exact hq _ rfl hC.ref (FA.ref g 1 _)
  · have e16 := b2i_0 h16
    refine b_aload_n dX11_away_19 rfl rfl ?_
    refine b_getR (b := 31) lf_X11_33 rfl rfl dX11_away_20 ?_
    refine b_getI lf_X11_150 (life_c is_life31) dX11_away_23 ?_
    refine b_iload_n dX11_away_26 rfl rfl ?_
    refine b_callS (As := [_, _]) (st := []) dX11_away_27 lk_X11_237 lm_X11_isIn ls_X11_isIn rfl rfl (Nat.le_of_ble_eq_true rfl) (Nat.le_refl _) (by decide) ?_
    refine c_X11_isIn ?_
    rw [hC.1.aw]
    refine b_iload_n dX11_away_30 rfl rfl ?_
    refine b_icmp_ne (tgt := 40) dX11_away_31 (by decide) (fun h31 => ?_) (fun h31 => ?_)
    · have hz := awaM_y (F := F) (b := gone) hin (fun q => q.elim (fun q => by rw [e16] at q; exact absurd q (by decide)) (fun q => h31 (by rw [q])))
      refine b_aload_n dX11_away_40 rfl rfl ?_
      refine b_getR (b := 31) lf_X11_33 rfl rfl dX11_away_41 ?_
      refine b_dup dX11_away_44 rfl ?_
      refine b_getI lf_X11_150 (life_c is_life31) dX11_away_45 ?_
      refine b_iconst (v := 1) dX11_away_48 (by decide +kernel) ?_
      refine b_iload_n dX11_away_49 rfl rfl ?_
      refine b_ishl dX11_away_50 ?_
      refine b_ixor dX11_away_51 ?_
      refine b_putI lf_X11_150 lp_5_6 (life_c is_life31) dX11_away_52 ?_
      refine b_aload_n dX11_away_55 rfl rfl ?_
      refine b_getR (b := 61) lf_X11_40 rfl rfl dX11_away_56 ?_
      refine b_iconst (v := 1) dX11_away_59 (by decide +kernel) ?_
      refine b_iload_n dX11_away_60 rfl rfl ?_
      refine b_iconst (v := 0) dX11_away_61 (by decide +kernel) ?_
      refine b_iconst (v := 0) dX11_away_62 (by decide +kernel) ?_
      refine b_callV (As := [_, _, _, _]) (st := []) dX11_away_63 lk_X11_230 lm_X0_keep lv_X0_keep (acts_c is_acts61) (by decide) rfl rfl rfl (Nat.le_of_ble_eq_true rfl) (Nat.le_refl _) (by decide) ?_
      refine c_X0_keep is_acts61 (n := f_na F) (m := f_na F - shF F) (sf := shF F) (by rw [up2_a _ _ _ _ (by decide)]; exact hC.2.1.1) (keep_hm oF.1) (fun g2 kF kA kn kc k0 k1 k2 k3 => ?_)
      refine b_iconst (v := 1) dX11_away_66 (by decide +kernel) ?_
      refine b_zret (Or.inr rfl) rfl (by decide) dX11_away_67 ?_
      rw [hz] at hq
      have k62 : ∀ z, up2 g 31 6 z 62 = g 62 := fun z => up2_f _ _ _ _ (by decide)
      refine hq g2 rfl (hC.push oF.1 ((RLf.set (j := 2) hC.1 (by decide)).cg (fun k hk => by rw [kF _ (by simp; omega)]; rw [hC.1.aw]; rfl)) kn (fun i r i1 i2 => by rw [kc i r i1 i2, k62]) ?_ ?_ ?_ ?_ ?_) (fun y y1 y2 y3 y4 y5 => ?_)
      · have := act_away (T := T) (S := f_S F) (r := fun j => g2 62 (4 * (f_na F - shF F) + j)) k0
        rw [show g2 62 (4 * (f_na F - shF F) + 1) = nI p from k1] at this
        exact this
      · rw [kF 65 (by decide)]; exact up2_f _ _ _ _ (by decide)
      · rw [kF 66 (by decide)]; exact up2_f _ _ _ _ (by decide)
      · rw [kF 67 (by decide)]; exact up2_f _ _ _ _ (by decide)
      · rw [kF 71 (by decide)]; exact up2_f _ _ _ _ (by decide)
      · rw [kF y (by simp; omega)]; exact up2_f _ _ _ _ (by omega)
    · have hz := awaM_r (F := F) (b := gone) hin (Or.inr (b2i_inj h31))
      refine b_aload_n dX11_away_34 rfl rfl ?_
      refine b_callV (As := []) (st := []) dX11_away_35 lk_X11_227 lm_X11_refuseAct lv_X11_refuseAct rfl (by decide) rfl rfl rfl (Nat.le_of_ble_eq_true rfl) (Nat.le_refl _) (by decide) ?_
      refine c_X11_refuseAct ?_
      refine b_iconst (v := 0) dX11_away_38 (by decide +kernel) ?_
      refine b_zret (Or.inl rfl) rfl (by decide) dX11_away_39 ?_
      rw [hz] at hq
      exact hq _ rfl hC.ref (FA.ref g 1 _)
theorem c_X11_dies {E : En} {d : Nat} {Q : QT} {X : XT} {g : G2} {t : Nat} (ht : is_town t) (h0 : g 0 2 = nI t) {T : TD} {F : FS} (hT : RTn g t T) (hC : RCf g 31 61 65 71 T F) (oF : okF T F) {p0 : Int32} (hq : ∀ h, (dieM T F p0).1 = 0 → RCf h 31 61 65 71 T (dieM T F p0).2.2 → FA g h → Q (some (.int (dieM T F p0).2.1)) h) (hx : (dieM T F p0).1 = 1 → X nsN g) : M E md_X11_dies (d + 7) [.ref 0, .int p0] g Q X := by
  refine M.of _ rfl rfl (Nat.le_of_ble_eq_true rfl) ?_
  refine b_aload_n dX11_dies_0 rfl rfl ?_
  refine b_iload_n dX11_dies_1 rfl rfl ?_
  refine b_callV (As := [_]) (st := []) dX11_dies_2 lk_X11_164 lm_X11_needPerson lv_X11_needPerson rfl (by decide) rfl rfl rfl (Nat.le_of_ble_eq_true rfl) (Nat.le_refl _) (by decide) ?_
  refine c_X11_needPerson ht h0 hT.n hT.le (fun hin => ?_) (fun ho => hx (by rw [dieM_o ho]))
  obtain ⟨p, hp, rfl⟩ := in_nat hin
  have h8 := hT.le
  refine b_aload_n dX11_dies_5 rfl rfl ?_
  refine b_getR (b := 31) lf_X11_33 rfl rfl dX11_dies_6 ?_
  refine b_getI lf_X11_153 (life_c is_life31) dX11_dies_9 ?_
  refine b_iload_n dX11_dies_12 rfl rfl ?_
  refine b_callS (As := [_, _]) (st := []) dX11_dies_13 lk_X11_237 lm_X11_isIn ls_X11_isIn rfl rfl (Nat.le_of_ble_eq_true rfl) (Nat.le_refl _) (by decide) ?_
  refine c_X11_isIn ?_
  rw [hC.1.de]
  refine b_if_eq (tgt := 25) dX11_dies_16 (by decide) (fun h16 => ?_) (fun h16 => ?_)
  · have e16 := b2i_0 h16
    have hz := dieM_y (F := F) hin e16
    refine b_aload_n dX11_dies_25 rfl rfl ?_
    refine b_getR (b := 31) lf_X11_33 rfl rfl dX11_dies_26 ?_
    refine b_dup dX11_dies_29 rfl ?_
    refine b_getI lf_X11_153 (life_c is_life31) dX11_dies_30 ?_
    refine b_iconst (v := 1) dX11_dies_33 (by decide +kernel) ?_
    refine b_iload_n dX11_dies_34 rfl rfl ?_
    refine b_ishl dX11_dies_35 ?_
    refine b_ior dX11_dies_36 ?_
    refine b_putI lf_X11_153 lp_5_7 (life_c is_life31) dX11_dies_37 ?_
    refine b_aload_n dX11_dies_40 rfl rfl ?_
    refine b_getR (b := 61) lf_X11_40 rfl rfl dX11_dies_41 ?_
    refine b_iconst (v := 2) dX11_dies_44 (by decide +kernel) ?_
    refine b_iload_n dX11_dies_45 rfl rfl ?_
    refine b_iconst (v := 0) dX11_dies_46 (by decide +kernel) ?_
    refine b_iconst (v := 0) dX11_dies_47 (by decide +kernel) ?_
    refine b_callV (As := [_, _, _, _]) (st := []) dX11_dies_48 lk_X11_230 lm_X0_keep lv_X0_keep (acts_c is_acts61) (by decide) rfl rfl rfl (Nat.le_of_ble_eq_true rfl) (Nat.le_refl _) (by decide) ?_
    refine c_X0_keep is_acts61 (n := f_na F) (m := f_na F - shF F) (sf := shF F) (by rw [up2_a _ _ _ _ (by decide)]; exact hC.2.1.1) (keep_hm oF.1) (fun g2 kF kA kn kc k0 k1 k2 k3 => ?_)
    refine b_iconst (v := 1) dX11_dies_51 (by decide +kernel) ?_
    refine b_zret (Or.inr rfl) rfl (by decide) dX11_dies_52 ?_
    rw [hz] at hq
    have k62 : ∀ z, up2 g 31 7 z 62 = g 62 := fun z => up2_f _ _ _ _ (by decide)
    refine hq g2 rfl (hC.push oF.1 ((RLf.set (j := 3) hC.1 (by decide)).cg (fun k hk => by rw [kF _ (by simp; omega)]; rw [hC.1.de]; rfl)) kn (fun i r i1 i2 => by rw [kc i r i1 i2, k62]) ?_ ?_ ?_ ?_ ?_) (fun y y1 y2 y3 y4 y5 => ?_)
    · exact act_dies (r := fun j => g2 62 (4 * (f_na F - shF F) + j)) (by omega) k0 k1 (by simpa using e16)
    · rw [kF 65 (by decide)]; exact up2_f _ _ _ _ (by decide)
    · rw [kF 66 (by decide)]; exact up2_f _ _ _ _ (by decide)
    · rw [kF 67 (by decide)]; exact up2_f _ _ _ _ (by decide)
    · rw [kF 71 (by decide)]; exact up2_f _ _ _ _ (by decide)
    · rw [kF y (by simp; omega)]; exact up2_f _ _ _ _ (by omega)
  · have e16 := b2i_1 h16
    have hz := dieM_r (F := F) hin e16
    refine b_aload_n dX11_dies_19 rfl rfl ?_
    refine b_callV (As := []) (st := []) dX11_dies_20 lk_X11_227 lm_X11_refuseAct lv_X11_refuseAct rfl (by decide) rfl rfl rfl (Nat.le_of_ble_eq_true rfl) (Nat.le_refl _) (by decide) ?_
    refine c_X11_refuseAct ?_
    refine b_iconst (v := 0) dX11_dies_23 (by decide +kernel) ?_
    refine b_zret (Or.inl rfl) rfl (by decide) dX11_dies_24 ?_
    rw [hz] at hq
    exact hq _ rfl hC.ref (FA.ref g 1 _)
def marM (T : TD) (F : FS) (p o : Int32) : Nat × Int32 × FS :=
  if inB p.toInt 0 (t_n T - 1) = true ∧ inB o.toInt 0 (t_n T - 1) = true then (if mmB (l_g (f_S F) 3 2 ||| l_g (f_S F) 3 3 ||| l_g (f_S F) 3 4) (l_g (f_S F) 4) p.toNatClampNeg o.toNatClampNeg then (0, byM (l_g (f_S F) 3 1 + 7), pushF F (wedS (f_S F) p.toNatClampNeg o.toNatClampNeg)) else (0, -1, refF F 1)) else (1, 0, F)
theorem marM_o {T : TD} {F : FS} {p o : Int32} (h : inB p.toInt 0 (t_n T - 1) = false ∨ inB o.toInt 0 (t_n T - 1) = false) : marM T F p o = (1, 0, F) := by
  unfold marM; rw [if_neg (fun q => by rcases h with h | h <;> rw [h] at q <;> simp at q)]
theorem marM_i {T : TD} {F : FS} {p o : Nat} (hp : p < t_n T) (ho : o < t_n T) (h8 : t_n T ≤ 8) : marM T F (nI p) (nI o) = (if mmB (l_g (f_S F) 3 2 ||| l_g (f_S F) 3 3 ||| l_g (f_S F) 3 4) (l_g (f_S F) 4) p o then (0, byM (l_g (f_S F) 3 1 + 7), pushF F (wedS (f_S F) p o)) else (0, -1, refF F 1)) := by
  unfold marM; rw [if_pos ⟨in_nI hp (by omega), in_nI ho (by omega)⟩, nI_cl (by omega), nI_cl (by omega)]
theorem mmB_cg {m m2 : Int32} {f f2 : Nat → Int32} {p o : Nat} (h : m = m2) (hp : f p = f2 p) (ho : f o = f2 o) : mmB m f p o = mmB m2 f2 p o := by unfold mmB; rw [h, hp, ho]
theorem key_7 : ∀ k, k < 12 → rmI (nI k + 7) 12 = byM (nI k + 7) := by decide +kernel
theorem RLf.wed {g h : G2} {a p o : Nat} {T : TD} {sp : Int32} {S : LfS} (hR : RLf g a T sp S) (hp : p < t_n T) (hk : ∃ k, k < 12 ∧ l_g S 3 1 = nI k) (hF : FR [a, a + 4] g h) (h1 : ∀ j, j ≠ 5 → j ≠ 8 → h a j = g a j) (h5 : h a 5 = rmI (g a 5 + 7) 12) (h8 : h a 8 = g a 8 ||| (sbI (nI p) ||| sbI (nI o))) (h4 : ∀ j, j ≠ o → h (a + 4) j = g (a + 4) j) (h4o : h (a + 4) o = g (a + 4) p) : RLf h a T sp (wedS S p o) := by
  have e : ∀ c i, l_g (wedS S p o) c i = up2 (up2 (up2 (l_g S) 3 1 (byM (l_g S 3 1 + 7))) 4 o (l_g S 4 p)) 3 4 (l_g S 3 4 ||| (sbI (nI p) ||| sbI (nI o))) c i := fun _ _ => rfl
  have hz : ∀ y, y ≠ a → y ≠ a + 4 → h y = g y := fun y y1 y2 => hF y (by simp [y1, y2])
  obtain ⟨k, hk, ek⟩ := hk
  refine hR.upd rfl (h1 3 (by decide) (by decide)) (h1 9 (by decide) (by decide)) (h1 10 (by decide) (by decide)) (hz _ (by omega) (by omega)) (hz _ (by omega) (by omega)) (hz _ (by omega) (by omega)) (hz _ (by omega) (by omega)) (hz _ (by omega) (by omega)) (funext fun i => ?_) (funext fun i => ?_) (funext fun i => ?_) (funext fun i => ?_) (fun j hj => ?_) (fun q hq2 => ?_) ?_ hR.f6 (fun i hi => ?_) (fun i hi => ?_)
  · rw [e]; simp [up2]
  · rw [e]; simp [up2]
  · rw [e]; simp [up2]
  · rw [e]; simp [up2]
  · rw [e]
    rcases lt5 hj with rfl | rfl | rfl | rfl | rfl
    · rw [h1 _ (by decide) (by decide), hR.yy]; simp [up2]
    · rw [h5, hR.key, ek, key_7 k hk]; simp [up2]
    · rw [h1 _ (by decide) (by decide), hR.aw]; simp [up2]
    · rw [h1 _ (by decide) (by decide), hR.de]; simp [up2]
    · rw [h8, hR.ma]; simp [up2]
  · rw [e]
    by_cases z : q = o
    · subst z; rw [h4o, hR.ho p hp]; simp [up2]
    · rw [h4 q z, hR.ho q hq2]; simp [up2, z]
  · rw [hz _ (by omega) (by omega)]; exact hR.fn
  · rw [e, hz _ (by omega) (by omega), hR.fa i hi]; simp [up2]
  · rw [e, hz _ (by omega) (by omega), hR.fb i hi]; simp [up2]
theorem c_X11_marry {E : En} {d : Nat} {Q : QT} {X : XT} {g : G2} {t : Nat} (ht : is_town t) (h0 : g 0 2 = nI t) {T : TD} {F : FS} (hT : RTn g t T) (hC : RCf g 31 61 65 71 T F) (oF : okF T F) {p0 o0 : Int32} (hq : ∀ h, (marM T F p0 o0).1 = 0 → RCf h 31 61 65 71 T (marM T F p0 o0).2.2 → FA g h → Q (some (.int (marM T F p0 o0).2.1)) h) (hx : (marM T F p0 o0).1 = 1 → X nsN g) : M E md_X11_marry (d + 7) [.ref 0, .int p0, .int o0] g Q X := by
  refine M.of _ rfl rfl (Nat.le_of_ble_eq_true rfl) ?_
  refine b_aload_n dX11_marry_0 rfl rfl ?_
  refine b_iload_n dX11_marry_1 rfl rfl ?_
  refine b_callV (As := [_]) (st := []) dX11_marry_2 lk_X11_164 lm_X11_needPerson lv_X11_needPerson rfl (by decide) rfl rfl rfl (Nat.le_of_ble_eq_true rfl) (Nat.le_refl _) (by decide) ?_
  refine c_X11_needPerson ht h0 hT.n hT.le (fun hin => ?_) (fun ho => hx (by rw [marM_o (Or.inl ho)]))
  obtain ⟨p, hp, rfl⟩ := in_nat hin
  have h8 := hT.le
  refine b_aload_n dX11_marry_5 rfl rfl ?_
  refine b_iload_n dX11_marry_6 rfl rfl ?_
  refine b_callV (As := [_]) (st := []) dX11_marry_7 lk_X11_164 lm_X11_needPerson lv_X11_needPerson rfl (by decide) rfl rfl rfl (Nat.le_of_ble_eq_true rfl) (Nat.le_refl _) (by decide) ?_
  refine c_X11_needPerson ht h0 hT.n hT.le (fun hin2 => ?_) (fun ho => hx (by rw [marM_o (Or.inr ho)]))
  obtain ⟨o, ho, rfl⟩ := in_nat hin2
  rw [marM_i hp ho h8] at hq hx
  refine b_aload_n dX11_marry_10 rfl rfl ?_
  refine b_getR (b := 31) lf_X11_33 rfl rfl dX11_marry_11 ?_
  refine b_iload_n dX11_marry_14 rfl rfl ?_
  refine b_iload_n dX11_marry_15 rfl rfl ?_
  refine b_callV (As := [_, _]) (st := []) dX11_marry_16 lk_X11_241 lm_X5_mayMarry lv_X5_mayMarry (life_c is_life31) (by decide) rfl rfl rfl (Nat.le_of_ble_eq_true rfl) (Nat.le_refl _) (by decide) ?_
  refine c_X5_mayMarry is_life31 (by omega) (by omega) ?_
  rw [mmB_cg (by rw [hC.1.aw, hC.1.de, hC.1.ma]) (hC.1.ho p hp) (hC.1.ho o ho)]
  refine b_if_ne (tgt := 28) dX11_marry_19 (by decide) (fun h19 => ?_) (fun h19 => ?_)
  · have e19 := b2i_1 h19
    rw [if_pos e19] at hq
    refine b_aload_n dX11_marry_28 rfl rfl ?_
    refine b_getR (b := 61) lf_X11_40 rfl rfl dX11_marry_29 ?_
    refine b_iconst (v := 3) dX11_marry_32 (by decide +kernel) ?_
    refine b_iload_n dX11_marry_33 rfl rfl ?_
    refine b_iload_n dX11_marry_34 rfl rfl ?_
    refine b_aload_n dX11_marry_35 rfl rfl ?_
    refine b_getR (b := 31) lf_X11_33 rfl rfl dX11_marry_36 ?_
    refine b_getR (b := 35) lf_X11_170 (life_c is_life31) (life_r11 is_life31) dX11_marry_39 ?_
    refine b_iload_n dX11_marry_42 rfl rfl ?_
    refine b_ildN (j := o) dX11_marry_43 (rfl) (by rw [(life_n4 is_life31)]; omega) ?_
    refine b_callV (As := [_, _, _, _]) (st := []) dX11_marry_44 lk_X11_230 lm_X0_keep lv_X0_keep (acts_c is_acts61) (by decide) rfl rfl rfl (Nat.le_of_ble_eq_true rfl) (Nat.le_refl _) (by decide) ?_
    refine c_X0_keep is_acts61 (hC.2.1.1) (keep_hm oF.1) (fun g2 kF kA kn kc k0 k1 k2 k3 => ?_)
    have hz2 : ∀ y, y ≠ 61 → y ≠ 62 → g2 y = g y := fun y y1 y2 => kF y (by simp [y1, y2])
    refine b_aload_n dX11_marry_47 rfl rfl ?_
    refine b_getR (b := 31) lf_X11_33 rfl rfl dX11_marry_48 ?_
    refine b_iload_n dX11_marry_51 rfl rfl ?_
    refine b_iload_n dX11_marry_52 rfl rfl ?_
    refine b_callV (As := [_, _]) (st := []) dX11_marry_53 lk_X11_244 lm_X5_wed lv_X5_wed (life_c is_life31) (by decide) rfl rfl rfl (Nat.le_of_ble_eq_true rfl) (Nat.le_refl _) (by decide) ?_
    refine c_X5_wed is_life31 (by omega) (by omega) (fun g3 wF w1 w5 w8 w4 w4o => ?_)
    have hz3 : ∀ y, y ≠ 31 → y ≠ 35 → g3 y = g2 y := fun y y1 y2 => wF y (by simp [y1, y2])
    have hR2 : RLf g2 31 T (-1) (f_S F) := hC.1.cg (fun k hk => hz2 _ (by omega) (by omega))
    have hR3 : RLf g3 31 T (-1) (wedS (f_S F) p o) := hR2.wed hp oF.S.2.2.1 wF w1 w5 w8 w4 w4o
    refine b_aload_n dX11_marry_56 rfl rfl ?_
    refine b_getR (b := 31) lf_X11_33 rfl rfl dX11_marry_57 ?_
    refine b_getI lf_X11_134 (life_c is_life31) dX11_marry_60 ?_
    refine b_iret rfl (by decide) dX11_marry_63 ?_
    have ek : g3 31 5 = byM (l_g (f_S F) 3 1 + 7) := hR3.key.trans (by show up2 (up2 (up2 (l_g (f_S F)) 3 1 (byM (l_g (f_S F) 3 1 + 7))) 4 o (l_g (f_S F) 4 p)) 3 4 (l_g (f_S F) 3 4 ||| (sbI (nI p) ||| sbI (nI o))) 3 1 = _; simp [up2])
    rw [ek]
    refine hq g3 rfl (hC.push oF.1 hR3 (by rw [hz3 61 (by decide) (by decide)]; exact kn) (fun i r i1 i2 => by rw [hz3 62 (by decide) (by decide)]; exact kc i r i1 i2) ?_ ?_ ?_ ?_ ?_) (fun y y1 y2 y3 y4 y5 => ?_)
    · have e62 := hz3 62 (by decide) (by decide)
      exact act_marry h8 hp ho oF.S.2.2.1 (by show g3 62 _ = _; rw [e62]; exact k0) (by show g3 62 _ = _; rw [e62]; exact k1) (by show g3 62 _ = _; rw [e62]; exact k2) (by show g3 62 _ = _; rw [e62, k3]; exact hC.1.ho o ho) e19
    · rw [hz3 _ (by decide) (by decide), hz2 _ (by decide) (by decide)]
    · rw [hz3 _ (by decide) (by decide), hz2 _ (by decide) (by decide)]
    · rw [hz3 _ (by decide) (by decide), hz2 _ (by decide) (by decide)]
    · rw [hz3 _ (by decide) (by decide), hz2 _ (by decide) (by decide)]
    · rw [hz3 y (by omega) (by omega), hz2 y y3 y4]
  · have e19 := b2i_0 h19
    rw [if_neg (by rw [e19]; decide)] at hq
    refine b_aload_n dX11_marry_22 rfl rfl ?_
    refine b_callV (As := []) (st := []) dX11_marry_23 lk_X11_227 lm_X11_refuseAct lv_X11_refuseAct rfl (by decide) rfl rfl rfl (Nat.le_of_ble_eq_true rfl) (Nat.le_refl _) (by decide) ?_
    refine c_X11_refuseAct ?_
    refine b_iconst (v := (-1)) dX11_marry_26 (by decide +kernel) ?_
    refine b_iret rfl (by decide) dX11_marry_27 ?_
    exact hq _ rfl hC.ref (FA.ref g 1 _)
