/-- a reader of the model does what the descent says -/
def MBd (f : Nat → Nat) (n : Nat) (md : MD) (D ar : Nat) (fn : MS → MS) : Prop := ∀ (E : En) (Q : QT) (X : XT) (g : G2) (s : MS), RMs g f n s → (s.bad = 0 → s.c.length ≤ s.t.pl) → (∀ h, FP g h → RMs h f n (fn s) → Q none h) → M E md D [.ref 84, .int (nI ar)] g Q X
theorem trC_nI {v : Nat} (h : v < 2 ^ 31) : nI v = trC (nI v) := by unfold trC; rw [if_pos (nI_pos' h)]
theorem trV : ∀ i, i < 7 → (-1 : Int32) - nI i = trC (-(nI (ksV i))) := by decide +kernel
theorem ksV_all : ∀ k, k < 117 → 110 ≤ k → ∃ i, i < 7 ∧ k = ksV i := by
  intro k h1 h2
  have h3 : k = 110 ∨ k = 111 ∨ k = 112 ∨ k = 113 ∨ k = 114 ∨ k = 115 ∨ k = 116 := by omega
  rcases h3 with rfl | rfl | rfl | rfl | rfl | rfl | rfl
  · exact ⟨3, by decide, rfl⟩
  · exact ⟨0, by decide, rfl⟩
  · exact ⟨1, by decide, rfl⟩
  · exact ⟨2, by decide, rfl⟩
  · exact ⟨4, by decide, rfl⟩
  · exact ⟨5, by decide, rfl⟩
  · exact ⟨6, by decide, rfl⟩
theorem ksV_ge : ∀ i, i < 7 → 110 ≤ ksV i := by decide
theorem nmV_lt {lo hi : Nat} {s : MS} (h : s.t.v ≤ 9999) : nmV lo hi s ≤ 9999 := by unfold nmV; split <;> omega
theorem part_num {f : Nat → Nat} {n : Nat} {rE : MS → MS} {s : MS} (hb : s.bad = 0) (h2 : s.t.k = 2) (hv : s.t.v ≤ 9999) : layM (nI (nmV 0 9999 s)) (rnN f n 0 9999 s) = rPart f n rE s := by
  unfold rPart
  rw [if_pos hb, if_pos h2]
  by_cases h4 : 4 < s.t.dg
  · have e : nmM 0 9999 s = ⟨s.t, 2, s.t.pl, s.c⟩ := by unfold nmM; rw [if_pos hb, if_pos h2, if_pos (Or.inl h4), wr_ok hb]
    rw [if_pos h4, wr_ok hb]
    unfold rnN adB
    rw [e, if_neg (by exact fun q => by cases q)]
    exact layM_bad (fun q => by cases q)
  · have e : nmM 0 9999 s = s := by unfold nmM; rw [if_pos hb, if_pos h2, if_neg (by omega)]
    rw [if_neg h4]
    unfold rnN adB nmV
    rw [e, if_pos hb, if_pos hb]
theorem rnN_c {f : Nat → Nat} {n lo hi : Nat} {s : MS} (h : (rnN f n lo hi s).bad = 0) : (rnN f n lo hi s).c = s.c := by
  unfold rnN adB nmM wr at *
  (repeat' split at h) <;> (repeat' split) <;> first | rfl | simp_all
theorem mk_len {f : Nat → Nat} {n k : Nat} {s : MS} (hl : s.c.length ≤ s.t.pl) (hb : s.bad = 0) (hok : isTk f n s.t) (q : (mkM f n k s).bad = 0) : (mkM f n k s).c.length ≤ (mkM f n k s).t.pl := by
  by_cases h : s.t.k = k
  · have e : mkM f n k s = adv f n s := by unfold mkM adB; rw [if_pos h, if_pos hb]
    rw [e]
    have h1 := nxt_pl_ge (f := f) (n := n) (p := s.t.af) hok.ok.1
    have h2 := hok.pa
    show s.c.length ≤ (nxt f n s.t.af).pl
    omega
  · have e : mkM f n k s = ⟨s.t, 1, s.t.pl, s.c⟩ := by unfold mkM adB; rw [if_neg h, wr_ok hb]; rfl
    rw [e] at q; cases q
theorem c_X12_readPart {f : Nat → Nat} {n d ar : Nat} {rE : MS → MS} (har : ar < 100) (hE : MBd f n md_X12_readExpression (d + 6) (ar + 1) rE) : MBd f n md_X12_readPart (d + 7) ar (rPart f n rE) := by
  intro E Q X g s hR hlen hq
  refine M.of _ rfl rfl (Nat.le_of_ble_eq_true rfl) ?_
  have hpaf := hR.2.2.1.pa
  have hn := hR.1.2.1
  have hok := hR.2.2.1.ok
  have hkl := tkM_le s.t.k
  have hb5 := hR.2.2.2.2.1
  have hp1 := hok.1
  have hp2 := hok.2.1
  refine b_aload_n dX12_readPart_0 rfl rfl ?_
  refine b_getI lf_X12_214 rfl dX12_readPart_1 ?_
  refine b_topE (hR.2.2.2.1) ?_
  refine b_if_eq (tgt := 8) dX12_readPart_4 (by decide) (fun h4 => ?_) (fun h4 => ?_)
  · have e4 : s.bad = 0 := nI_inj (b := 0) (by omega) (by decide) h4
    refine b_aload_n dX12_readPart_8 rfl rfl ?_
    refine b_getI lf_X12_188 rfl dX12_readPart_9 ?_
    refine b_topE (hR.2.1.2.2.2.1) ?_
    refine b_iconst (v := 2) dX12_readPart_12 (by decide +kernel) ?_
    refine b_icmp_ne (tgt := 29) dX12_readPart_13 (by decide) (fun h13 => ?_) (fun h13 => ?_)
    · have e13 : (tkM s.t.k) ≠ 2 := fun q => h13 (congrArg nI q)
      have k2 : ¬ s.t.k = 2 := fun q => e13 ((tkM_2 hR.2.2.1).mpr q)
      refine b_aload_n dX12_readPart_29 rfl rfl ?_
      refine b_getI lf_X12_188 rfl dX12_readPart_30 ?_
      refine b_topE (hR.2.1.2.2.2.1) ?_
      refine b_iconst (v := 1) dX12_readPart_33 (by decide +kernel) ?_
      refine b_icmp_ne (tgt := 75) dX12_readPart_34 (by decide) (fun h34 => ?_) (fun h34 => ?_)
      · have e34 : (tkM s.t.k) ≠ 1 := fun q => h34 (congrArg nI q)
        have h99 : ¬ 99 ≤ s.t.k := fun q => e34 ((tkM_1 hR.2.2.1).mpr q)
        refine b_aload_n dX12_readPart_75 rfl rfl ?_
        refine b_bipush (v := 40) dX12_readPart_76 (by decide +kernel) ?_
        refine b_callV (As := [_]) (st := []) dX12_readPart_78 lk_X12_255 lm_X12_mark lv_X12_mark rfl (by decide) rfl rfl rfl (Nat.le_of_ble_eq_true rfl) (Nat.le_refl _) (by decide) ?_
        refine c_X12_mark (d := d + 4) (k := 40) hR (by decide) (fun h1 F1 R1 => ?_)
        refine b_aload_n dX12_readPart_81 rfl rfl ?_
        refine b_iload_n dX12_readPart_82 rfl rfl ?_
        refine b_iconst (v := 1) dX12_readPart_83 (by decide +kernel) ?_
        refine b_iadd dX12_readPart_84 ?_
        refine b_topE (nI_add ar 1) ?_
        refine b_callV (As := [_]) (st := []) dX12_readPart_85 lk_X12_258 lm_X12_readExpression lv_X12_readExpression rfl (by decide) rfl rfl rfl (Nat.le_of_ble_eq_true rfl) (Nat.le_refl _) (by decide) ?_
        refine hE _ _ _ _ _ R1 (fun q => ?_) (fun h2 F2 R2 => ?_)
        · exact mk_len (hlen e4) e4 hR.2.2.1 q
        refine b_aload_n dX12_readPart_88 rfl rfl ?_
        refine b_bipush (v := 41) dX12_readPart_89 (by decide +kernel) ?_
        refine b_callV (As := [_]) (st := []) dX12_readPart_91 lk_X12_255 lm_X12_mark lv_X12_mark rfl (by decide) rfl rfl rfl (Nat.le_of_ble_eq_true rfl) (Nat.le_refl _) (by decide) ?_
        refine c_X12_mark (d := d + 4) (k := 41) R2 (by decide) (fun h3 F3 R3 => ?_)
        refine b_vret rfl (by decide) dX12_readPart_94 ?_
        refine hq _ ((F1.tr F2).tr F3) ?_
        rw [show rPart f n rE s = mkM f n 41 (rE (mkM f n 40 s)) from by unfold rPart; rw [if_pos e4, if_neg k2, if_neg h99]]
        exact R3
      · have e34 : (tkM s.t.k) = 1 := nI_inj (a := (tkM s.t.k)) (b := 1) (by omega) (by omega) h34
        have h99 := (tkM_1 hR.2.2.1).mp e34
        have hwd : s.t.k ≤ 116 ∧ s.t.pl < s.t.af := by rcases hR.2.2.1.cs with h | h | h | h | h <;> first | exact ⟨h.2.1, h.2.2.2.1⟩ | omega
        refine b_aload_n dX12_readPart_37 rfl rfl ?_
        refine b_aload_n dX12_readPart_38 rfl rfl ?_
        refine b_getR (b := 86) lf_X12_37 rfl rfl dX12_readPart_39 ?_
        refine b_callV (As := [_]) (st := []) dX12_readPart_42 lk_X12_251 lm_X12_which lv_X12_which rfl (by decide) rfl rfl rfl (Nat.le_of_ble_eq_true rfl) (Nat.le_refl _) (by decide) ?_
        refine c_X12_whichV (d := d + 1) hR (fun i hi hk => ?_) (fun hno => ?_)
        · refine b_istore_n (lv' := [(0, _), (1, _), (2, _)]) dX12_readPart_45 rfl (by decide) rfl rfl ?_
          refine b_iload_n dX12_readPart_46 rfl rfl ?_
          refine b_iconst (v := (-1)) dX12_readPart_47 (by decide +kernel) ?_
          refine b_icmp_ne (tgt := 56) dX12_readPart_48 (by decide) (fun h48 => ?_) (fun h48 => ?_)
          · refine b_aload_n dX12_readPart_56 rfl rfl ?_
            refine b_iconst (v := (-1)) dX12_readPart_57 (by decide +kernel) ?_
            refine b_iload_n dX12_readPart_58 rfl rfl ?_
            refine b_isub dX12_readPart_59 ?_
            refine b_callV (As := [_]) (st := []) dX12_readPart_60 lk_X12_248 lm_X12_lay lv_X12_lay rfl (by decide) rfl rfl rfl (Nat.le_of_ble_eq_true rfl) (Nat.le_refl _) (by decide) ?_
            refine c_X12_lay hR (x := -(nI s.t.k)) (by rw [hk.2]; exact trV i hi) (fun _ => by have := hlen hk.1; omega) (fun h1 F1 R1 => ?_)
            have hb1 : (layM (-(nI s.t.k)) s).bad = 0 := by rw [layM_ok e4]; exact e4
            refine b_aload_n dX12_readPart_63 rfl rfl ?_
            refine b_getI lf_X12_214 rfl dX12_readPart_64 ?_
            refine b_topE (R1.2.2.2.1) ?_
            refine b_if_ne (tgt := 74) dX12_readPart_67 (by decide) (fun h67 => ?_) (fun h67 => ?_)
            · exact absurd (by rw [hb1]; rfl) h67
            · refine b_aload_n dX12_readPart_70 rfl rfl ?_
              refine b_callV (As := []) (st := []) dX12_readPart_71 lk_X12_239 lm_X12_stepOn lv_X12_stepOn rfl (by decide) rfl rfl rfl (Nat.le_of_ble_eq_true rfl) (Nat.le_refl _) (by decide) ?_
              refine c_X12_stepOn (d := d + 5) R1.1 R1.2.1.1 R1.2.2.1.ok.1 (fun h2 F2 T2 => ?_)
              refine b_vret rfl (by decide) dX12_readPart_74 ?_
              refine hq h2 (F1.tr F2.fp) ?_
              rw [show rPart f n rE s = adv f n (layM (-(nI s.t.k)) s) from by unfold rPart; rw [if_pos e4, if_neg (by omega), if_pos h99, if_pos (by rw [hk.2]; exact ksV_ge i hi)]]
              exact R1.adv F2 T2
          · exact absurd h48 (nI_nm1 (by omega))
        · refine b_istore_n (lv' := [(0, _), (1, _), (2, _)]) dX12_readPart_45 rfl (by decide) rfl rfl ?_
          refine b_iload_n dX12_readPart_46 rfl rfl ?_
          refine b_iconst (v := (-1)) dX12_readPart_47 (by decide +kernel) ?_
          refine b_icmp_ne (tgt := 56) dX12_readPart_48 (by decide) (fun h48 => ?_) (fun h48 => ?_)
          · exact absurd rfl h48
          · refine b_aload_n dX12_readPart_51 rfl rfl ?_
            refine b_iconst (v := 3) dX12_readPart_52 (by decide +kernel) ?_
            refine b_callV (As := [_]) (st := []) dX12_readPart_53 lk_X12_235 lm_X12_wrong lv_X12_wrong rfl (by decide) rfl rfl rfl (Nat.le_of_ble_eq_true rfl) (Nat.le_refl _) (by decide) ?_
            refine c_X12_wrong (k := 3) hR (by decide) (fun h1 F1 R1 => ?_)
            have hb1 : (wr 3 s).bad ≠ 0 := by rw [wr_ok e4]; exact Nat.succ_ne_zero 2
            refine b_aload_n dX12_readPart_56 rfl rfl ?_
            refine b_iconst (v := (-1)) dX12_readPart_57 (by decide +kernel) ?_
            refine b_iload_n dX12_readPart_58 rfl rfl ?_
            refine b_isub dX12_readPart_59 ?_
            refine b_callV (As := [_]) (st := []) dX12_readPart_60 lk_X12_248 lm_X12_lay lv_X12_lay rfl (by decide) rfl rfl rfl (Nat.le_of_ble_eq_true rfl) (Nat.le_refl _) (by decide) ?_
            refine c_X12_lay R1 (x := 0) (by decide) (fun q => absurd q hb1) (fun h2 F2 R2 => ?_)
            rw [layM_bad hb1] at R2
            refine b_aload_n dX12_readPart_63 rfl rfl ?_
            refine b_getI lf_X12_214 rfl dX12_readPart_64 ?_
            refine b_if_ne (tgt := 74) dX12_readPart_67 (by decide) (fun h67 => ?_) (fun h67 => ?_)
            · refine b_vret rfl (by decide) dX12_readPart_74 ?_
              refine hq h2 (F1.tr F2) ?_
              rw [show rPart f n rE s = wr 3 s from by unfold rPart; rw [if_pos e4, if_neg (by omega), if_pos h99, if_neg (fun q => by obtain ⟨i, i1, i2⟩ := ksV_all s.t.k (by omega) q; exact hno i i1 ⟨e4, i2⟩)]]
              exact R2
            · exact absurd (nI_inj (b := 0) (by have := R2.2.2.2.2.1; omega) (by decide) (R2.2.2.2.1.symm.trans h67)) hb1
    · have e13 : (tkM s.t.k) = 2 := nI_inj (a := (tkM s.t.k)) (b := 2) (by omega) (by omega) h13
      have k2 := (tkM_2 hR.2.2.1).mp e13
      have hnum : s.t.v ≤ 9999 ∧ s.t.pl < s.t.af := by rcases hR.2.2.1.cs with h | h | h | h | h <;> first | exact ⟨h.2.2.1, h.2.2.2.1⟩ | omega
      refine b_aload_n dX12_readPart_16 rfl rfl ?_
      refine b_aload_n dX12_readPart_17 rfl rfl ?_
      refine b_iconst (v := 0) dX12_readPart_18 (by decide +kernel) ?_
      refine b_sipush (v := 9999) dX12_readPart_19 (by decide +kernel) ?_
      refine b_callV (As := [_, _]) (st := [_]) dX12_readPart_22 lk_X12_245 lm_X12_readNumber lv_X12_readNumber rfl (by decide) rfl rfl rfl (Nat.le_of_ble_eq_true rfl) (Nat.le_refl _) (by decide) ?_
      refine c_X12_readNumber (d := d + 4) (lo := 0) (hi := 9999) hR (by decide) (by decide) (fun h1 F1 R1 => ?_)
      have hv9 := nmV_lt (lo := 0) (hi := 9999) hnum.1
      refine b_callV (As := [_]) (st := []) dX12_readPart_25 lk_X12_248 lm_X12_lay lv_X12_lay rfl (by decide) rfl rfl rfl (Nat.le_of_ble_eq_true rfl) (Nat.le_refl _) (by decide) ?_
      refine c_X12_lay R1 (x := nI (nmV 0 9999 s)) (trC_nI (by omega)) (fun q => by rw [rnN_c q]; have := hlen e4; omega) (fun h2 F2 R2 => ?_)
      refine b_vret rfl (by decide) dX12_readPart_28 ?_
      refine hq _ (F1.tr F2) ?_
      rw [← part_num e4 k2 hnum.1]; exact R2
  · have e4 : s.bad ≠ 0 := fun q => h4 (by rw [q]; rfl)
    refine b_vret rfl (by decide) dX12_readPart_7 ?_
    exact hq g (FP.rf g) (by rw [show rPart f n rE s = s from if_neg e4]; exact hR)
theorem lpW_stop {f : Nat → Nat} {n : Nat} {P : Nat → Bool} {body : MS → MS} {F : Nat} {s : MS} (h : ¬ (s.bad = 0 ∧ P s.t.k = true)) : lpW f n P body F s = s := by
  cases F with
  | zero => rfl
  | succ F => simp only [lpW]; rw [if_neg h]
theorem c_X12_readProduct {f : Nat → Nat} {n d ar : Nat} {body : MS → MS} (har : ar < 100) (hB : MBd f n md_X12_readPart (d + 6) ar body) (hL : Len f n body) : MBd f n md_X12_readProduct (d + 7) ar (rLev f n P42 body) := by
  intro E Q X g s hR hlen hq
  have hn := hR.1.2.1
  have hP0 : ∀ k, P42 k = true → k ≠ 0 := fun k h => by rintro rfl; revert h; decide
  refine M.of _ rfl rfl (Nat.le_of_ble_eq_true rfl) ?_
  have key : ∀ (F : Nat) (h : G2) (s1 : MS), FP g h → RMs h f n s1 → (s1.bad = 0 → s1.c.length ≤ s1.t.pl ∧ n < F + s1.t.pl) → lpW f n P42 body F s1 = rLev f n P42 body s → B E md_X12_readProduct (d + 7) Q X 5 [(0, .ref 84), (1, .int (nI ar))] [] h 0 := by
    intro F
    induction F using Nat.strongRecOn with
    | ind F ih =>
    intro h s1 F1 R hl hT
    have C39 : ∀ y : Int32, y = trC (-(nI s1.t.k)) → (hc : s1.bad = 0 ∧ P42 s1.t.k = true) → B E md_X12_readProduct (d + 7) Q X 39 [(0, .ref 84), (1, .int (nI ar))] [.int y] h 0 := by
      intro y hy hc
      refine b_istore_n (lv' := [(0, _), (1, _), (2, _)]) dX12_readProduct_39 rfl (by decide) rfl rfl ?_
      refine b_aload_n dX12_readProduct_40 rfl rfl ?_
      refine b_callV (As := []) (st := []) dX12_readProduct_41 lk_X12_239 lm_X12_stepOn lv_X12_stepOn rfl (by decide) rfl rfl rfl (Nat.le_of_ble_eq_true rfl) (Nat.le_refl _) (by decide) ?_
      refine c_X12_stepOn (d := d + 5) R.1 R.2.1.1 R.2.2.1.ok.1 (fun h2 F2 T2 => ?_)
      have R2 := R.adv F2 T2
      obtain ⟨hn2, hp3⟩ := R.2.2.1.ok.adv (f := f) (hP0 _ hc.2)
      refine b_aload_n dX12_readProduct_44 rfl rfl ?_
      refine b_iload_n dX12_readProduct_45 rfl rfl ?_
      refine b_callV (As := [_]) (st := []) dX12_readProduct_46 lk_X12_261 lm_X12_readPart lv_X12_readPart rfl (by decide) rfl rfl rfl (Nat.le_of_ble_eq_true rfl) (Nat.le_refl _) (by decide) ?_
      refine hB _ _ _ _ _ R2 (fun _ => ?_) (fun h3 F3 R3 => ?_)
      · show s1.c.length ≤ (nxt f n s1.t.af).pl; have := (hl hc.1).1; omega
      have hL3 : (body (adv f n s1)).bad = 0 → (body (adv f n s1)).c.length + 1 ≤ (body (adv f n s1)).t.pl ∧ (body (adv f n s1)).t.pl ≤ n ∧ s1.t.pl < (body (adv f n s1)).t.pl := by
        intro q
        obtain ⟨w1, w2, w3⟩ := hL.2 (adv f n s1) hc.1 hn2 q
        have w2 : (nxt f n s1.t.af).pl < _ := w2
        have w3 : _ + (nxt f n s1.t.af).pl ≤ s1.c.length + _ := w3
        have := (hl hc.1).1
        exact ⟨by omega, w1.2.1, by omega⟩
      refine b_aload_n dX12_readProduct_49 rfl rfl ?_
      refine b_iload_n dX12_readProduct_50 rfl rfl ?_
      refine b_callV (As := [_]) (st := []) dX12_readProduct_51 lk_X12_248 lm_X12_lay lv_X12_lay rfl (by decide) rfl rfl rfl (Nat.le_of_ble_eq_true rfl) (Nat.le_refl _) (by decide) ?_
      refine c_X12_lay R3 (x := -(nI s1.t.k)) hy (fun q => by have := hL3 q; omega) (fun h4 F4 R4 => ?_)
      refine b_goto (tgt := 5) dX12_readProduct_54 (by decide) ?_
      refine b_take 2 ?_
      obtain ⟨F', rfl⟩ : ∃ F', F = F' + 1 := ⟨F - 1, by have := (hl hc.1).2; have := R.2.2.1.ok.2.1; omega⟩
      refine ih F' (Nat.lt_succ_self _) h4 _ (F1.tr (F2.fp.tr (F3.tr F4))) R4 (fun q => ?_) ?_
      · by_cases q3 : (body (adv f n s1)).bad = 0
        · obtain ⟨w1, w2, w3⟩ := hL3 q3
          have := (hl hc.1).2
          rw [layM_ok q3]
          exact ⟨w1, by show n < F' + (body (adv f n s1)).t.pl; omega⟩
        · rw [layM_bad q3] at q; exact absurd q q3
      · rw [← hT]; simp only [lpW]; rw [if_pos hc]
    have C23 : (s1.bad = 0 ∧ P42 s1.t.k = true) → B E md_X12_readProduct (d + 7) Q X 23 [(0, .ref 84), (1, .int (nI ar))] [] h 0 := by
      intro hc
      have C39 := fun y hy => C39 y hy hc
      refine b_aload_n dX12_readProduct_23 rfl rfl ?_
      refine b_bipush (v := 42) dX12_readProduct_24 (by decide +kernel) ?_
      refine b_callV (As := [_]) (st := []) dX12_readProduct_26 lk_X12_232 lm_X12_isMarked lv_X12_isMarked rfl (by decide) rfl rfl rfl (Nat.le_of_ble_eq_true rfl) (Nat.le_refl _) (by decide) ?_
      refine c_X12_isMarked R (k := 42) (by decide) ?_
      refine b_if_eq (tgt := 37) dX12_readProduct_29 (by decide) (fun h29 => ?_) (fun h29 => ?_)
      · have e29 := b2i_0 h29
        refine b_bipush (v := (-23)) dX12_readProduct_37 (by decide +kernel) ?_
        refine C39 _ ?_
        have q2 : s1.t.k = 42 ∨ s1.t.k = 47 := by simpa [P42] using hc.2
        rcases q2 with q2 | q2
        · rw [decide_eq_true hc.1, decide_eq_true q2] at e29; cases e29
        · rw [q2]; decide +kernel
      · have e29 := b2i_1 h29
        refine b_bipush (v := (-22)) dX12_readProduct_32 (by decide +kernel) ?_
        refine b_goto (tgt := 39) dX12_readProduct_34 (by decide) ?_
        refine C39 _ ?_
        simp only [Bool.and_eq_true, decide_eq_true_eq] at e29
        rw [e29.2]; decide +kernel
    refine b_aload_n dX12_readProduct_5 rfl rfl ?_
    refine b_bipush (v := 42) dX12_readProduct_6 (by decide +kernel) ?_
    refine b_callV (As := [_]) (st := []) dX12_readProduct_8 lk_X12_232 lm_X12_isMarked lv_X12_isMarked rfl (by decide) rfl rfl rfl (Nat.le_of_ble_eq_true rfl) (Nat.le_refl _) (by decide) ?_
    refine c_X12_isMarked R (k := 42) (by decide) ?_
    refine b_if_ne (tgt := 23) dX12_readProduct_11 (by decide) (fun h11 => ?_) (fun h11 => ?_)
    · have e11 := b2i_1 h11
      exact C23 (by simp only [Bool.and_eq_true, decide_eq_true_eq] at e11; exact ⟨e11.1, by rw [e11.2]; rfl⟩)
    · have e11 := b2i_0 h11
      refine b_aload_n dX12_readProduct_14 rfl rfl ?_
      refine b_bipush (v := 47) dX12_readProduct_15 (by decide +kernel) ?_
      refine b_callV (As := [_]) (st := []) dX12_readProduct_17 lk_X12_232 lm_X12_isMarked lv_X12_isMarked rfl (by decide) rfl rfl rfl (Nat.le_of_ble_eq_true rfl) (Nat.le_refl _) (by decide) ?_
      refine c_X12_isMarked R (k := 47) (by decide) ?_
      refine b_if_eq (tgt := 57) dX12_readProduct_20 (by decide) (fun h20 => ?_) (fun h20 => ?_)
      · have e20 := b2i_0 h20
        refine b_vret rfl (by decide) dX12_readProduct_57 (hq h F1 ?_)
        rw [← hT, lpW_stop (fun q => ?_)]
        · exact R
        · have q2 : s1.t.k = 42 ∨ s1.t.k = 47 := by simpa [P42] using q.2
          rcases q2 with q2 | q2
          · rw [decide_eq_true q.1, decide_eq_true q2] at e11; cases e11
          · rw [decide_eq_true q.1, decide_eq_true q2] at e20; cases e20
      · have e20 := b2i_1 h20
        exact C23 (by simp only [Bool.and_eq_true, decide_eq_true_eq] at e20; exact ⟨e20.1, by rw [e20.2]; rfl⟩)
  refine b_aload_n dX12_readProduct_0 rfl rfl ?_
  refine b_iload_n dX12_readProduct_1 rfl rfl ?_
  refine b_callV (As := [_]) (st := []) dX12_readProduct_2 lk_X12_261 lm_X12_readPart lv_X12_readPart rfl (by decide) rfl rfl rfl (Nat.le_of_ble_eq_true rfl) (Nat.le_refl _) (by decide) ?_
  refine hB _ _ _ _ _ hR hlen (fun h1 F1 R1 => ?_)
  refine key 601 h1 (body s) F1 R1 (fun q => ?_) rfl
  by_cases q0 : s.bad = 0
  · obtain ⟨w1, w2, w3⟩ := hL.2 s q0 hR.2.2.1.ok q
    have := hlen q0
    exact ⟨by omega, by omega⟩
  · rw [hL.1 s q0] at q; exact absurd q q0
theorem c_X12_readSum {f : Nat → Nat} {n d ar : Nat} {body : MS → MS} (har : ar < 100) (hB : MBd f n md_X12_readProduct (d + 6) ar body) (hL : Len f n body) : MBd f n md_X12_readSum (d + 7) ar (rLev f n P43 body) := by
  intro E Q X g s hR hlen hq
  have hn := hR.1.2.1
  have hP0 : ∀ k, P43 k = true → k ≠ 0 := fun k h => by rintro rfl; revert h; decide
  refine M.of _ rfl rfl (Nat.le_of_ble_eq_true rfl) ?_
  have key : ∀ (F : Nat) (h : G2) (s1 : MS), FP g h → RMs h f n s1 → (s1.bad = 0 → s1.c.length ≤ s1.t.pl ∧ n < F + s1.t.pl) → lpW f n P43 body F s1 = rLev f n P43 body s → B E md_X12_readSum (d + 7) Q X 5 [(0, .ref 84), (1, .int (nI ar))] [] h 0 := by
    intro F
    induction F using Nat.strongRecOn with
    | ind F ih =>
    intro h s1 F1 R hl hT
    have C39 : ∀ y : Int32, y = trC (-(nI s1.t.k)) → (hc : s1.bad = 0 ∧ P43 s1.t.k = true) → B E md_X12_readSum (d + 7) Q X 39 [(0, .ref 84), (1, .int (nI ar))] [.int y] h 0 := by
      intro y hy hc
      refine b_istore_n (lv' := [(0, _), (1, _), (2, _)]) dX12_readSum_39 rfl (by decide) rfl rfl ?_
      refine b_aload_n dX12_readSum_40 rfl rfl ?_
      refine b_callV (As := []) (st := []) dX12_readSum_41 lk_X12_239 lm_X12_stepOn lv_X12_stepOn rfl (by decide) rfl rfl rfl (Nat.le_of_ble_eq_true rfl) (Nat.le_refl _) (by decide) ?_
      refine c_X12_stepOn (d := d + 5) R.1 R.2.1.1 R.2.2.1.ok.1 (fun h2 F2 T2 => ?_)
      have R2 := R.adv F2 T2
      obtain ⟨hn2, hp3⟩ := R.2.2.1.ok.adv (f := f) (hP0 _ hc.2)
      refine b_aload_n dX12_readSum_44 rfl rfl ?_
      refine b_iload_n dX12_readSum_45 rfl rfl ?_
      refine b_callV (As := [_]) (st := []) dX12_readSum_46 lk_X12_264 lm_X12_readProduct lv_X12_readProduct rfl (by decide) rfl rfl rfl (Nat.le_of_ble_eq_true rfl) (Nat.le_refl _) (by decide) ?_
      refine hB _ _ _ _ _ R2 (fun _ => ?_) (fun h3 F3 R3 => ?_)
      · show s1.c.length ≤ (nxt f n s1.t.af).pl; have := (hl hc.1).1; omega
      have hL3 : (body (adv f n s1)).bad = 0 → (body (adv f n s1)).c.length + 1 ≤ (body (adv f n s1)).t.pl ∧ (body (adv f n s1)).t.pl ≤ n ∧ s1.t.pl < (body (adv f n s1)).t.pl := by
        intro q
        obtain ⟨w1, w2, w3⟩ := hL.2 (adv f n s1) hc.1 hn2 q
        have w2 : (nxt f n s1.t.af).pl < _ := w2
        have w3 : _ + (nxt f n s1.t.af).pl ≤ s1.c.length + _ := w3
        have := (hl hc.1).1
        exact ⟨by omega, w1.2.1, by omega⟩
      refine b_aload_n dX12_readSum_49 rfl rfl ?_
      refine b_iload_n dX12_readSum_50 rfl rfl ?_
      refine b_callV (As := [_]) (st := []) dX12_readSum_51 lk_X12_248 lm_X12_lay lv_X12_lay rfl (by decide) rfl rfl rfl (Nat.le_of_ble_eq_true rfl) (Nat.le_refl _) (by decide) ?_
      refine c_X12_lay R3 (x := -(nI s1.t.k)) hy (fun q => by have := hL3 q; omega) (fun h4 F4 R4 => ?_)
      refine b_goto (tgt := 5) dX12_readSum_54 (by decide) ?_
      refine b_take 2 ?_
      obtain ⟨F', rfl⟩ : ∃ F', F = F' + 1 := ⟨F - 1, by have := (hl hc.1).2; have := R.2.2.1.ok.2.1; omega⟩
      refine ih F' (Nat.lt_succ_self _) h4 _ (F1.tr (F2.fp.tr (F3.tr F4))) R4 (fun q => ?_) ?_
      · by_cases q3 : (body (adv f n s1)).bad = 0
        · obtain ⟨w1, w2, w3⟩ := hL3 q3
          have := (hl hc.1).2
          rw [layM_ok q3]
          exact ⟨w1, by show n < F' + (body (adv f n s1)).t.pl; omega⟩
        · rw [layM_bad q3] at q; exact absurd q q3
      · rw [← hT]; simp only [lpW]; rw [if_pos hc]
    have C23 : (s1.bad = 0 ∧ P43 s1.t.k = true) → B E md_X12_readSum (d + 7) Q X 23 [(0, .ref 84), (1, .int (nI ar))] [] h 0 := by
      intro hc
      have C39 := fun y hy => C39 y hy hc
      refine b_aload_n dX12_readSum_23 rfl rfl ?_
      refine b_bipush (v := 43) dX12_readSum_24 (by decide +kernel) ?_
      refine b_callV (As := [_]) (st := []) dX12_readSum_26 lk_X12_232 lm_X12_isMarked lv_X12_isMarked rfl (by decide) rfl rfl rfl (Nat.le_of_ble_eq_true rfl) (Nat.le_refl _) (by decide) ?_
      refine c_X12_isMarked R (k := 43) (by decide) ?_
      refine b_if_eq (tgt := 37) dX12_readSum_29 (by decide) (fun h29 => ?_) (fun h29 => ?_)
      · have e29 := b2i_0 h29
        refine b_bipush (v := (-21)) dX12_readSum_37 (by decide +kernel) ?_
        refine C39 _ ?_
        have q2 : s1.t.k = 43 ∨ s1.t.k = 45 := by simpa [P43] using hc.2
        rcases q2 with q2 | q2
        · rw [decide_eq_true hc.1, decide_eq_true q2] at e29; cases e29
        · rw [q2]; decide +kernel
      · have e29 := b2i_1 h29
        refine b_bipush (v := (-20)) dX12_readSum_32 (by decide +kernel) ?_
        refine b_goto (tgt := 39) dX12_readSum_34 (by decide) ?_
        refine C39 _ ?_
        simp only [Bool.and_eq_true, decide_eq_true_eq] at e29
        rw [e29.2]; decide +kernel
    refine b_aload_n dX12_readSum_5 rfl rfl ?_
    refine b_bipush (v := 43) dX12_readSum_6 (by decide +kernel) ?_
    refine b_callV (As := [_]) (st := []) dX12_readSum_8 lk_X12_232 lm_X12_isMarked lv_X12_isMarked rfl (by decide) rfl rfl rfl (Nat.le_of_ble_eq_true rfl) (Nat.le_refl _) (by decide) ?_
    refine c_X12_isMarked R (k := 43) (by decide) ?_
    refine b_if_ne (tgt := 23) dX12_readSum_11 (by decide) (fun h11 => ?_) (fun h11 => ?_)
    · have e11 := b2i_1 h11
      exact C23 (by simp only [Bool.and_eq_true, decide_eq_true_eq] at e11; exact ⟨e11.1, by rw [e11.2]; rfl⟩)
    · have e11 := b2i_0 h11
      refine b_aload_n dX12_readSum_14 rfl rfl ?_
      refine b_bipush (v := 45) dX12_readSum_15 (by decide +kernel) ?_
      refine b_callV (As := [_]) (st := []) dX12_readSum_17 lk_X12_232 lm_X12_isMarked lv_X12_isMarked rfl (by decide) rfl rfl rfl (Nat.le_of_ble_eq_true rfl) (Nat.le_refl _) (by decide) ?_
      refine c_X12_isMarked R (k := 45) (by decide) ?_
      refine b_if_eq (tgt := 57) dX12_readSum_20 (by decide) (fun h20 => ?_) (fun h20 => ?_)
      · have e20 := b2i_0 h20
        refine b_vret rfl (by decide) dX12_readSum_57 (hq h F1 ?_)
        rw [← hT, lpW_stop (fun q => ?_)]
        · exact R
        · have q2 : s1.t.k = 43 ∨ s1.t.k = 45 := by simpa [P43] using q.2
          rcases q2 with q2 | q2
          · rw [decide_eq_true q.1, decide_eq_true q2] at e11; cases e11
          · rw [decide_eq_true q.1, decide_eq_true q2] at e20; cases e20
      · have e20 := b2i_1 h20
        exact C23 (by simp only [Bool.and_eq_true, decide_eq_true_eq] at e20; exact ⟨e20.1, by rw [e20.2]; rfl⟩)
  refine b_aload_n dX12_readSum_0 rfl rfl ?_
  refine b_iload_n dX12_readSum_1 rfl rfl ?_
  refine b_callV (As := [_]) (st := []) dX12_readSum_2 lk_X12_264 lm_X12_readProduct lv_X12_readProduct rfl (by decide) rfl rfl rfl (Nat.le_of_ble_eq_true rfl) (Nat.le_refl _) (by decide) ?_
  refine hB _ _ _ _ _ hR hlen (fun h1 F1 R1 => ?_)
  refine key 601 h1 (body s) F1 R1 (fun q => ?_) rfl
  by_cases q0 : s.bad = 0
  · obtain ⟨w1, w2, w3⟩ := hL.2 s q0 hR.2.2.1.ok q
    have := hlen q0
    exact ⟨by omega, by omega⟩
  · rw [hL.1 s q0] at q; exact absurd q q0
