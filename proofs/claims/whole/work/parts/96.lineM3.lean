theorem RWr.oth {g : G2} {s : TxS} {t : Tk} {v : Nat} (hW : RWr g s) : RWr (up2 (up2 g 94 (24 + s.no) (nI v)) 87 7 (nI (s.no + 1))) (t, s.np, s.nf, s.no + 1, s.dk, s.dt, s.ds, s.c, uN s.H 4 s.no v) := by
  obtain ⟨a1, a2, a3, a4, a5, a6, a7⟩ := hW
  have hR : ∀ r p, r ≠ 4 → uN s.H 4 s.no v r p = s.H r p := fun r p q => uN_r _ _ _ _ q _
  have e : ∀ y, y ≠ 87 → y ≠ 94 → up2 (up2 g 94 (24 + s.no) (nI v)) 87 7 (nI (s.no + 1)) y = g y := fun y a b => by rw [up2_f _ _ _ _ a, up2_f _ _ _ _ b]
  have e7 : ∀ j, j ≠ 7 → up2 (up2 g 94 (24 + s.no) (nI v)) 87 7 (nI (s.no + 1)) 87 j = g 87 j := fun j a => by rw [up2_k _ _ _ _ a, up2_a _ _ _ _ (by decide)]
  refine ⟨by rw [e7 5 (by decide)]; exact a1, by rw [e7 6 (by decide)]; exact a2, up2_s _ _ _ _, ?_, fun p hp => ?_, fun i hi => ?_, fun i hi => ?_⟩
  · show _ = nI (uN s.H 4 s.no v 9 0)
    rw [hR 9 0 (by decide), e7 8 (by decide)]; exact a4
  · show _ = nI (uN s.H 4 s.no v 0 p) ∧ _ = nI (uN s.H 4 s.no v 5 p) ∧ _ = nI (uN s.H 4 s.no v 1 p) ∧ _ = nI (uN s.H 4 s.no v 6 p)
    rw [hR _ _ (by decide), hR _ _ (by decide), hR _ _ (by decide), hR _ _ (by decide), e 88 (by decide) (by decide), e 89 (by decide) (by decide), e 90 (by decide) (by decide), e 91 (by decide) (by decide)]
    exact a5 p hp
  · show _ = nI (uN s.H 4 s.no v 7 i) ∧ _ = nI (uN s.H 4 s.no v 8 i)
    rw [hR _ _ (by decide), hR _ _ (by decide), e 92 (by decide) (by decide), e 93 (by decide) (by decide)]; exact a6 i hi
  · have hi : i < s.no + 1 := hi
    show _ = nI (uN s.H 4 s.no v 4 i)
    rw [up2_f _ _ _ _ (by decide)]
    by_cases q : i = s.no
    · rw [q, up2_s, uN_s]
    · rw [up2_k _ _ _ _ (by omega), uN_j _ _ _ _ q]; exact a7 i (by omega)
theorem RWr.key {g : G2} {s : TxS} {t : Tk} {v : Nat} (hW : RWr g s) : RWr (up2 g 87 8 (nI v)) (t, s.np, s.nf, s.no, true, s.dt, s.ds, s.c, uN s.H 9 0 v) := by
  obtain ⟨a1, a2, a3, a4, a5, a6, a7⟩ := hW
  have hR : ∀ r p, r ≠ 9 → uN s.H 9 0 v r p = s.H r p := fun r p q => uN_r _ _ _ _ q _
  have e : ∀ y, y ≠ 87 → up2 g 87 8 (nI v) y = g y := fun y a => up2_f _ _ _ _ a
  have e7 : ∀ j, j ≠ 8 → up2 g 87 8 (nI v) 87 j = g 87 j := fun j a => up2_k _ _ _ _ a
  refine ⟨by rw [e7 5 (by decide)]; exact a1, by rw [e7 6 (by decide)]; exact a2, by rw [e7 7 (by decide)]; exact a3, ?_, fun p hp => ?_, fun i hi => ?_, fun i hi => ?_⟩
  · show _ = nI (uN s.H 9 0 v 9 0)
    rw [uN_s]; exact up2_s _ _ _ _
  · show _ = nI (uN s.H 9 0 v 0 p) ∧ _ = nI (uN s.H 9 0 v 5 p) ∧ _ = nI (uN s.H 9 0 v 1 p) ∧ _ = nI (uN s.H 9 0 v 6 p)
    rw [hR _ _ (by decide), hR _ _ (by decide), hR _ _ (by decide), hR _ _ (by decide), e 88 (by decide), e 89 (by decide), e 90 (by decide), e 91 (by decide)]
    exact a5 p hp
  · show _ = nI (uN s.H 9 0 v 7 i) ∧ _ = nI (uN s.H 9 0 v 8 i)
    rw [hR _ _ (by decide), hR _ _ (by decide), e 92 (by decide), e 93 (by decide)]; exact a6 i hi
  · show _ = nI (uN s.H 9 0 v 4 i)
    rw [hR _ _ (by decide), e 94 (by decide)]; exact a7 i hi
theorem mkM_b {f : Nat → Nat} {n k : Nat} {s : MS} (h : s.bad ≠ 0) : mkM f n k s = s := by
  unfold mkM
  rw [wr_b h]
  split <;> exact adB_b h
theorem mkM_1 {f : Nat → Nat} {n k : Nat} {t : Tk} {c : List Int32} (h : t.k = k) : mkM f n k (t, 0, 0, c) = (nxt f n t.af, 0, 0, c) := by
  unfold mkM; rw [if_pos h]; exact if_pos rfl
theorem mkM_2 {f : Nat → Nat} {n k : Nat} {t : Tk} {c : List Int32} (h : t.k ≠ k) : mkM f n k (t, 0, 0, c) = (t, 1, t.pl, c) := by
  unfold mkM; rw [if_neg h, wr_z]; exact if_neg (Nat.succ_ne_zero 0)
theorem rE_b {f : Nat → Nat} {n a : Nat} {s : MS} (h : s.bad ≠ 0) : rE f n a s = s := by
  cases a <;> simp only [rE] <;> exact if_neg h
/-- which of key, other, sings have been, as the model counts them -/
def dnN (s : TxS) : Nat := (if s.dk = true then 1 else 0) + (if s.dt = true then 2 else 0) + (if s.ds = true then 4 else 0)
def dn3 (a b c : Bool) : Nat := (if a = true then 1 else 0) + (if b = true then 2 else 0) + (if c = true then 4 else 0)
theorem dn_and1 : ∀ a b c : Bool, ((1 : Int32) &&& nI (dn3 a b c) = 0 ↔ a = false) ∧ (nI (dn3 a b c) ||| 1) = nI (dn3 true b c) := by decide +kernel
theorem dn_and2 : ∀ a b c : Bool, ((2 : Int32) &&& nI (dn3 a b c) = 0 ↔ b = false) ∧ (nI (dn3 a b c) ||| 2) = nI (dn3 a true c) := by decide +kernel
theorem dn_and4 : ∀ a b c : Bool, ((4 : Int32) &&& nI (dn3 a b c) = 0 ↔ c = false) ∧ (nI (dn3 a b c) ||| 4) = nI (dn3 a b true) := by decide +kernel
theorem dn_and0 : ∀ a b c : Bool, ((0 : Int32) &&& nI (dn3 a b c) = 0) ∧ (nI (dn3 a b c) ||| 0) = nI (dn3 a b c) := by decide +kernel
theorem RMs.z {g : G2} {f : Nat → Nat} {n : Nat} {r : MS} (h : r.bad = 0) (hR : RMs g f n r) : RMs g f n (r.t, 0, 0, r.c) := by
  obtain ⟨a1, a2, a3, a4, a5, a6, a7, a8, a9⟩ := hR
  exact ⟨a1, a2, a3, by rw [h] at a4; exact a4, Nat.zero_le _, fun q => absurd rfl q, a7, a8, a9⟩
theorem ksK_s : ∀ {i : Nat}, i < 4 → ksK i - 100 = i := by
  intro i hi
  have h : i = 0 ∨ i = 1 ∨ i = 2 ∨ i = 3 := by omega
  rcases h with rfl | rfl | rfl | rfl <;> rfl
theorem ksK_r : ∀ {i : Nat}, i < 4 → 100 ≤ ksK i ∧ ksK i ≤ 103 := by
  intro i hi
  have h : i = 0 ∨ i = 1 ∨ i = 2 ∨ i = 3 := by omega
  rcases h with rfl | rfl | rfl | rfl <;> decide
theorem ksK_n {k : Nat} (h : ∀ i, i < 4 → k ≠ ksK i) : ¬ (100 ≤ k ∧ k ≤ 103) := by
  have h0 : k ≠ 100 := h 0 (by decide)
  have h1 : k ≠ 101 := h 1 (by decide)
  have h2 : k ≠ 102 := h 2 (by decide)
  have h3 : k ≠ 103 := h 3 (by decide)
  omega
theorem otL_dn {f : Nat → Nat} {n : Nat} : ∀ (F : Nat) {s : TxS}, dnN (otL f n F s).s = dnN s
  | 0, s => rfl
  | F + 1, s => by
    simp only [otL]
    split
    · split
      · rfl
      · split
        · rfl
        · exact otL_dn F
    · rfl
theorem lnP_dn {f : Nat → Nat} {n k : Nat} {s : TxS} (_ : (lnP f n k s).b = 0) : dnN (lnP f n k s).s = dnN s := by
  unfold lnP
  simp only
  (repeat' split) <;> rfl
theorem lnF_dn {f : Nat → Nat} {n : Nat} {s : TxS} (_ : (lnF f n s).b = 0) : dnN (lnF f n s).s = dnN s := by
  unfold lnF
  simp only
  (repeat' split) <;> rfl
theorem okLs_o {f : Nat → Nat} {n : Nat} {s : TxS} (h : okLs f n s) : okLs f n (nxt f n s.t.af, s.np, s.nf, s.no, s.dk, true, s.ds, s.c, s.H) := ⟨h.1.nx, h.2.1, h.2.2.1, h.2.2.2.1, h.2.2.2.2.1, h.2.2.2.2.2.1, h.2.2.2.2.2.2.1, h.2.2.2.2.2.2.2.1, h.2.2.2.2.2.2.2.2.1, h.2.2.2.2.2.2.2.2.2.1, h.2.2.2.2.2.2.2.2.2.2.1, h.2.2.2.2.2.2.2.2.2.2.2.1, h.2.2.2.2.2.2.2.2.2.2.2.2.1, fun q => by cases q⟩
theorem c_X12_sayOther0 {E : En} {d : Nat} {Q : QT} {X : XT} {g : G2} {f : Nat → Nat} {n : Nat} {s : MS} (hR : RMs g f n s) (hb : s.bad ≠ 0) (hq : Q none g) : M E md_X12_sayOther (d + 2) [.ref 84] g Q X := by
  refine M.of _ rfl rfl (Nat.le_of_ble_eq_true rfl) ?_
  have hb6 := hR.2.2.2.2.1
  refine b_iconst (v := 1) dX12_sayOther_0 (by decide +kernel) ?_
  refine b_istore_n (lv' := [(0, _), (1, _)]) dX12_sayOther_1 rfl (by decide) rfl rfl ?_
  refine b_aload_n dX12_sayOther_2 rfl rfl ?_
  refine b_getI lf_X12_214 rfl dX12_sayOther_3 ?_
  refine b_topE (hR.2.2.2.1) ?_
  refine b_if_ne (tgt := 98) dX12_sayOther_6 (by decide) (fun h6 => ?_) (fun h6 => ?_)
  · have e6 : s.bad ≠ 0 := fun q => h6 (by rw [q]; rfl)
    refine b_vret rfl (by decide) dX12_sayOther_98 ?_
    exact hq
  · have e6 : s.bad = 0 := nI_inj (b := 0) (by omega) (by decide) h6
    exact absurd e6 hb
theorem c_X12_sayOther {E : En} {d : Nat} {Q : QT} {X : XT} {g : G2} {f : Nat → Nat} {n : Nat} {s : TxS} (hM : RMr g f n s) (hO : okLs f n s) (n0 : s.no = 0) (hq : LMq Q f n g (otL f n 25 s)) : M E md_X12_sayOther (d + 2) [.ref 84] g Q X := by
  refine M.of _ rfl rfl (Nat.le_of_ble_eq_true rfl) ?_
  have h24 := hO.2.2.2.1
  have key : ∀ (F : Nat) (s : TxS) (h : G2), RMr h f n s → isTk f n s.t → s.no ≤ 24 → s.no + F = 25 → FMl g h → LMq Q f n g (otL f n F s) → B E md_X12_sayOther (d + 2) Q X 2 [(0, .ref 84), (1, .int (b2i (decide (s.no = 0))))] [] h 0 := by
    clear hq hM hO h24 n0
    clear s
    intro F
    induction F with
    | zero => intro s h hM hO h24 hF; omega
    | succ F ih =>
      intro s h hM hO h24 hF L hq
      have htm := tkM_le s.t.k
      have hv9 : nmV 0 12 (s.t, 0, 0, s.c) ≤ 9999 := nmV_le (s := (s.t, 0, 0, s.c)) f hO
      simp only [otL] at hq
      have K21 : ∀ z : Int32, (s.no = 0 ∨ s.t.k = 2) → B E md_X12_sayOther (d + 2) Q X 21 [(0, .ref 84), (1, .int z)] [] h 0 := by
        intro z c0
        rw [if_pos c0] at hq
        have oF : s.t.k = 2 → s.no = 24 → (if nuC 0 12 s.t ≠ 0 then (nuC 0 12 s.t, s.t.pl, s) else if s.no = 24 then (2, s.t.pl, s) else otL f n F (nxt f n s.t.af, s.np, s.nf, s.no + 1, s.dk, s.dt, s.ds, s.c, uN s.H 4 s.no s.t.v)) = ((2, s.t.pl, s) : LR) := by
          intro q1 q2
          by_cases z : nuC 0 12 s.t ≠ 0
          · rw [if_pos z, show nuC 0 12 s.t = 2 from by
              unfold nuC at z ⊢
              rw [if_pos q1] at z ⊢
              split at z
              · rw [if_pos ‹_›]
              · exact absurd rfl z]
          · rw [if_neg z, if_pos q2]
        refine b_iconst (v := 0) dX12_sayOther_21 (by decide +kernel) ?_
        refine b_istore_n (lv' := [(0, _), (1, _)]) dX12_sayOther_22 rfl (by decide) rfl rfl ?_
        refine b_aload_n dX12_sayOther_23 rfl rfl ?_
        refine b_getI lf_X12_188 rfl dX12_sayOther_24 ?_
        refine b_topE (hM.1.2.1.2.2.2.1) ?_
        refine b_iconst (v := 2) dX12_sayOther_27 (by decide +kernel) ?_
        refine b_icmp_ne (tgt := 48) dX12_sayOther_28 (by decide) (fun h28 => ?_) (fun h28 => ?_)
        · have e28 : ((tkM s.t.k)) ≠ 2 := fun q => h28 (congrArg nI q)
          have k2 : ¬ s.t.k = 2 := fun q => e28 ((tkM_2 hO).mpr q)
          refine b_aload_n dX12_sayOther_48 rfl rfl ?_
          refine b_iconst (v := 0) dX12_sayOther_49 (by decide +kernel) ?_
          refine b_bipush (v := 12) dX12_sayOther_50 (by decide +kernel) ?_
          refine b_callV (As := [_, _]) (st := []) dX12_sayOther_52 lk_X12_242 lm_X12_numberNow lv_X12_numberNow rfl (by decide) rfl rfl rfl (Nat.le_of_ble_eq_true rfl) (Nat.le_refl _) (by decide) ?_
          refine c_X12_numberNow (lo := 0) (hi := 12) hM.1 (by decide) (by decide) (fun h2 F2 R2 => ?_)
          have hb6 := R2.2.2.2.2.1
          refine b_istore_n (lv' := [(0, _), (1, _), (2, _)]) dX12_sayOther_55 rfl (by decide) rfl rfl ?_
          refine b_aload_n dX12_sayOther_56 rfl rfl ?_
          refine b_getI lf_X12_214 rfl dX12_sayOther_57 ?_
          refine b_topE (R2.2.2.2.1) ?_
          refine b_if_eq (tgt := 64) dX12_sayOther_60 (by decide) (fun h60 => ?_) (fun h60 => ?_)
          · have e60 : ((nmM 0 12 (s.t, 0, 0, s.c)).bad) = 0 := nI_inj (b := 0) (by omega) (by decide) h60
            have v0 : nuC 0 12 s.t = 0 := by
              by_cases q : nuC 0 12 s.t = 0
              · exact q
              · rw [nmM_n q] at e60; exact absurd e60 q
            have k22 := (nuC_0 v0).1
            have v12 := (nuC_0 v0).2.2.2
            rw [if_neg (Decidable.not_not.mpr v0), if_neg (by omega)] at hq
            rw [nmM_0 v0] at R2
            have W2 := hM.2.fp F2
            refine b_aload_n dX12_sayOther_64 rfl rfl ?_
            refine b_callV (As := []) (st := []) dX12_sayOther_65 lk_X12_239 lm_X12_stepOn lv_X12_stepOn rfl (by decide) rfl rfl rfl (Nat.le_of_ble_eq_true rfl) (Nat.le_refl _) (by decide) ?_
            refine c_X12_stepOn R2.1 R2.2.1.1 hO.ok.1 (fun h3 F3 T3 => ?_)
            have R3 : RMs h3 f n (nxt f n s.t.af, 0, 0, s.c) := R2.adv F3 T3
            have W3 := W2.fp F3.fp
            refine b_aload_n dX12_sayOther_68 rfl rfl ?_
            refine b_getR (b := 94) lf_X12_61 rfl rfl dX12_sayOther_69 ?_
            refine b_bipush (v := 24) dX12_sayOther_72 (by decide +kernel) ?_
            refine b_aload_n dX12_sayOther_74 rfl rfl ?_
            refine b_getR (b := 87) lf_X12_40 rfl rfl dX12_sayOther_75 ?_
            refine b_bipush (v := 7) dX12_sayOther_78 (by decide +kernel) ?_
            refine b_ildN (j := 7) dX12_sayOther_80 (rfl) (by show _ < 10; omega) ?_
            refine b_topE (W3.2.2.1) ?_
            refine b_iadd dX12_sayOther_81 ?_
            refine b_topE (nI_add 24 s.no) ?_
            refine b_iload_n dX12_sayOther_82 rfl rfl ?_
            refine b_istN (j := (24 + s.no)) dX12_sayOther_83 (rfl) (by show _ < 48; omega) ?_
            refine b_aload_n dX12_sayOther_84 rfl rfl ?_
            refine b_getR (b := 87) lf_X12_40 rfl rfl dX12_sayOther_85 ?_
            refine b_bipush (v := 7) dX12_sayOther_88 (by decide +kernel) ?_
            refine b_dup2 dX12_sayOther_90 rfl rfl ?_
            refine b_ildN (j := 7) dX12_sayOther_91 (rfl) (by show _ < 10; omega) ?_
            refine b_topE (y := nI s.no) (by rw [up2_a _ _ _ _ (by decide)]; exact W3.2.2.1) ?_
            refine b_iconst (v := 1) dX12_sayOther_92 (by decide +kernel) ?_
            refine b_iadd dX12_sayOther_93 ?_
            refine b_topE (nI_add s.no 1) ?_
            refine b_istN (j := 7) dX12_sayOther_94 (rfl) (by show _ < 10; omega) ?_
            refine b_goto (tgt := 2) dX12_sayOther_95 (by decide) ?_
            have hF : FMl g (up2 (up2 h3 94 (24 + s.no) (nI (nmV 0 12 (s.t, 0, 0, s.c)))) 87 7 (nI (s.no + 1))) := (((L.tr (FMl.fp F2)).tr (FMl.fp F3.fp)).tr (FMl.up (by decide) (by decide) (Nat.le_add_right 24 _))).tr (FMl.up (by decide) (by decide) (by decide))
            have R7 : RMs (up2 (up2 h3 94 (24 + s.no) (nI (nmV 0 12 (s.t, 0, 0, s.c)))) 87 7 (nI (s.no + 1))) f n (nxt f n s.t.af, 0, 0, s.c) := (R3.up (by decide) (by decide) (by decide) (fun e => absurd e (by decide))).up (by decide) (by decide) (by decide) (fun _ => by decide)
            rw [nmV_0 v0] at *
            have y := ih (nxt f n s.t.af, s.np, s.nf, s.no + 1, s.dk, s.dt, s.ds, s.c, uN s.H 4 s.no s.t.v) _ ⟨R7, RWr.oth W3⟩ hO.nx (by show s.no + 1 ≤ 24; omega) (by show s.no + 1 + F = 25; omega) hF hq
            exact b_take 2 y
          · have e60 : ((nmM 0 12 (s.t, 0, 0, s.c)).bad) ≠ 0 := fun q => h60 (by rw [q]; rfl)
            refine b_vret rfl (by decide) dX12_sayOther_63 ?_
            have v0 : nuC 0 12 s.t ≠ 0 := fun q => e60 (by rw [nmM_0 q])
            rw [if_pos v0] at hq
            rw [nmM_n v0] at R2
            exact hq.2 h2 v0 (L.tr (FMl.fp F2)) ⟨_, rfl, rfl, R2⟩
        · have e28 : ((tkM s.t.k)) = 2 := nI_inj (a := ((tkM s.t.k))) (b := 2) (by omega) (by omega) h28
          have k2 : s.t.k = 2 := (tkM_2 hO).mp e28
          refine b_aload_n dX12_sayOther_31 rfl rfl ?_
          refine b_getR (b := 87) lf_X12_40 rfl rfl dX12_sayOther_32 ?_
          refine b_bipush (v := 7) dX12_sayOther_35 (by decide +kernel) ?_
          refine b_ildN (j := 7) dX12_sayOther_37 (rfl) (by show _ < 10; omega) ?_
          refine b_topE (hM.2.2.2.1) ?_
          refine b_bipush (v := 24) dX12_sayOther_38 (by decide +kernel) ?_
          refine b_icmp_ne (tgt := 48) dX12_sayOther_40 (by decide) (fun h40 => ?_) (fun h40 => ?_)
          · have e40 : s.no ≠ 24 := fun q => h40 (congrArg nI q)
            refine b_aload_n dX12_sayOther_48 rfl rfl ?_
            refine b_iconst (v := 0) dX12_sayOther_49 (by decide +kernel) ?_
            refine b_bipush (v := 12) dX12_sayOther_50 (by decide +kernel) ?_
            refine b_callV (As := [_, _]) (st := []) dX12_sayOther_52 lk_X12_242 lm_X12_numberNow lv_X12_numberNow rfl (by decide) rfl rfl rfl (Nat.le_of_ble_eq_true rfl) (Nat.le_refl _) (by decide) ?_
            refine c_X12_numberNow (lo := 0) (hi := 12) hM.1 (by decide) (by decide) (fun h2 F2 R2 => ?_)
            have hb6 := R2.2.2.2.2.1
            refine b_istore_n (lv' := [(0, _), (1, _), (2, _)]) dX12_sayOther_55 rfl (by decide) rfl rfl ?_
            refine b_aload_n dX12_sayOther_56 rfl rfl ?_
            refine b_getI lf_X12_214 rfl dX12_sayOther_57 ?_
            refine b_topE (R2.2.2.2.1) ?_
            refine b_if_eq (tgt := 64) dX12_sayOther_60 (by decide) (fun h60 => ?_) (fun h60 => ?_)
            · have e60 : ((nmM 0 12 (s.t, 0, 0, s.c)).bad) = 0 := nI_inj (b := 0) (by omega) (by decide) h60
              have v0 : nuC 0 12 s.t = 0 := by
                by_cases q : nuC 0 12 s.t = 0
                · exact q
                · rw [nmM_n q] at e60; exact absurd e60 q
              have k22 := (nuC_0 v0).1
              have v12 := (nuC_0 v0).2.2.2
              rw [if_neg (Decidable.not_not.mpr v0), if_neg (by omega)] at hq
              rw [nmM_0 v0] at R2
              have W2 := hM.2.fp F2
              refine b_aload_n dX12_sayOther_64 rfl rfl ?_
              refine b_callV (As := []) (st := []) dX12_sayOther_65 lk_X12_239 lm_X12_stepOn lv_X12_stepOn rfl (by decide) rfl rfl rfl (Nat.le_of_ble_eq_true rfl) (Nat.le_refl _) (by decide) ?_
              refine c_X12_stepOn R2.1 R2.2.1.1 hO.ok.1 (fun h3 F3 T3 => ?_)
              have R3 : RMs h3 f n (nxt f n s.t.af, 0, 0, s.c) := R2.adv F3 T3
              have W3 := W2.fp F3.fp
              refine b_aload_n dX12_sayOther_68 rfl rfl ?_
              refine b_getR (b := 94) lf_X12_61 rfl rfl dX12_sayOther_69 ?_
              refine b_bipush (v := 24) dX12_sayOther_72 (by decide +kernel) ?_
              refine b_aload_n dX12_sayOther_74 rfl rfl ?_
              refine b_getR (b := 87) lf_X12_40 rfl rfl dX12_sayOther_75 ?_
              refine b_bipush (v := 7) dX12_sayOther_78 (by decide +kernel) ?_
              refine b_ildN (j := 7) dX12_sayOther_80 (rfl) (by show _ < 10; omega) ?_
              refine b_topE (W3.2.2.1) ?_
              refine b_iadd dX12_sayOther_81 ?_
              refine b_topE (nI_add 24 s.no) ?_
              refine b_iload_n dX12_sayOther_82 rfl rfl ?_
              refine b_istN (j := (24 + s.no)) dX12_sayOther_83 (rfl) (by show _ < 48; omega) ?_
              refine b_aload_n dX12_sayOther_84 rfl rfl ?_
              refine b_getR (b := 87) lf_X12_40 rfl rfl dX12_sayOther_85 ?_
              refine b_bipush (v := 7) dX12_sayOther_88 (by decide +kernel) ?_
              refine b_dup2 dX12_sayOther_90 rfl rfl ?_
              refine b_ildN (j := 7) dX12_sayOther_91 (rfl) (by show _ < 10; omega) ?_
              refine b_topE (y := nI s.no) (by rw [up2_a _ _ _ _ (by decide)]; exact W3.2.2.1) ?_
              refine b_iconst (v := 1) dX12_sayOther_92 (by decide +kernel) ?_
              refine b_iadd dX12_sayOther_93 ?_
              refine b_topE (nI_add s.no 1) ?_
              refine b_istN (j := 7) dX12_sayOther_94 (rfl) (by show _ < 10; omega) ?_
              refine b_goto (tgt := 2) dX12_sayOther_95 (by decide) ?_
              have hF : FMl g (up2 (up2 h3 94 (24 + s.no) (nI (nmV 0 12 (s.t, 0, 0, s.c)))) 87 7 (nI (s.no + 1))) := (((L.tr (FMl.fp F2)).tr (FMl.fp F3.fp)).tr (FMl.up (by decide) (by decide) (Nat.le_add_right 24 _))).tr (FMl.up (by decide) (by decide) (by decide))
              have R7 : RMs (up2 (up2 h3 94 (24 + s.no) (nI (nmV 0 12 (s.t, 0, 0, s.c)))) 87 7 (nI (s.no + 1))) f n (nxt f n s.t.af, 0, 0, s.c) := (R3.up (by decide) (by decide) (by decide) (fun e => absurd e (by decide))).up (by decide) (by decide) (by decide) (fun _ => by decide)
              rw [nmV_0 v0] at *
              have y := ih (nxt f n s.t.af, s.np, s.nf, s.no + 1, s.dk, s.dt, s.ds, s.c, uN s.H 4 s.no s.t.v) _ ⟨R7, RWr.oth W3⟩ hO.nx (by show s.no + 1 ≤ 24; omega) (by show s.no + 1 + F = 25; omega) hF hq
              exact b_take 2 y
            · have e60 : ((nmM 0 12 (s.t, 0, 0, s.c)).bad) ≠ 0 := fun q => h60 (by rw [q]; rfl)
              refine b_vret rfl (by decide) dX12_sayOther_63 ?_
              have v0 : nuC 0 12 s.t ≠ 0 := fun q => e60 (by rw [nmM_0 q])
              rw [if_pos v0] at hq
              rw [nmM_n v0] at R2
              exact hq.2 h2 v0 (L.tr (FMl.fp F2)) ⟨_, rfl, rfl, R2⟩
          · have e40 : s.no = 24 := nI_inj (a := s.no) (b := 24) (by omega) (by omega) h40
            refine b_aload_n dX12_sayOther_43 rfl rfl ?_
            refine b_iconst (v := 2) dX12_sayOther_44 (by decide +kernel) ?_
            refine b_callV (As := [_]) (st := []) dX12_sayOther_45 lk_X12_235 lm_X12_wrong lv_X12_wrong rfl (by decide) rfl rfl rfl (Nat.le_of_ble_eq_true rfl) (Nat.le_refl _) (by decide) ?_
            refine c_X12_wrong (k := 2) hM.1 (by decide) (fun h1 F1 R1 => ?_)
            rw [wr_z] at R1
            have hb1 : MS.bad (s.t, 2, s.t.pl, s.c) ≠ 0 := Nat.succ_ne_zero 1
            refine b_aload_n dX12_sayOther_48 rfl rfl ?_
            refine b_iconst (v := 0) dX12_sayOther_49 (by decide +kernel) ?_
            refine b_bipush (v := 12) dX12_sayOther_50 (by decide +kernel) ?_
            refine b_callV (As := [_, _]) (st := []) dX12_sayOther_52 lk_X12_242 lm_X12_numberNow lv_X12_numberNow rfl (by decide) rfl rfl rfl (Nat.le_of_ble_eq_true rfl) (Nat.le_refl _) (by decide) ?_
            refine c_X12_numberNow (lo := 0) (hi := 12) R1 (by decide) (by decide) (fun h2 F2 R2 => ?_)
            rw [nmM_b hb1] at R2
            refine b_istore_n (lv' := [(0, _), (1, _), (2, _)]) dX12_sayOther_55 rfl (by decide) rfl rfl ?_
            refine b_aload_n dX12_sayOther_56 rfl rfl ?_
            refine b_getI lf_X12_214 rfl dX12_sayOther_57 ?_
            refine b_topE (R2.2.2.2.1) ?_
            refine b_if_eq (tgt := 64) dX12_sayOther_60 (by decide) (fun h60 => ?_) (fun h60 => ?_)
            · have e60 : 2 = 0 := nI_inj (b := 0) (by omega) (by decide) h60
              exact absurd e60 (by decide)
            · have e60 : 2 ≠ 0 := fun q => h60 (by rw [q]; rfl)
              refine b_vret rfl (by decide) dX12_sayOther_63 ?_
              refine hq.2 h2 ?_ (L.tr (FMl.fp (F1.tr F2))) ⟨_, ?_, ?_, R2⟩
              · rw [oF k2 e40]; exact Nat.succ_ne_zero 1
              · rw [oF k2 e40]
              · rw [oF k2 e40]
      refine b_aload_n dX12_sayOther_2 rfl rfl ?_
      refine b_getI lf_X12_214 rfl dX12_sayOther_3 ?_
      refine b_topE (hM.1.2.2.2.1) ?_
      refine b_if_ne (tgt := 98) dX12_sayOther_6 (by decide) (fun h6 => ?_) (fun h6 => ?_)
      · exact absurd rfl h6
      · refine b_iload_n dX12_sayOther_9 rfl rfl ?_
        refine b_if_ne (tgt := 21) dX12_sayOther_10 (by decide) (fun h10 => ?_) (fun h10 => ?_)
        · have e10 := b2i_1 h10
          have e10 := of_decide_eq_true e10
          exact K21 _ (Or.inl e10)
        · have e10 := b2i_0 h10
          have e10 := of_decide_eq_false e10
          refine b_aload_n dX12_sayOther_13 rfl rfl ?_
          refine b_getI lf_X12_188 rfl dX12_sayOther_14 ?_
          refine b_topE (hM.1.2.1.2.2.2.1) ?_
          refine b_iconst (v := 2) dX12_sayOther_17 (by decide +kernel) ?_
          refine b_icmp_ne (tgt := 98) dX12_sayOther_18 (by decide) (fun h18 => ?_) (fun h18 => ?_)
          · have e18 : ((tkM s.t.k)) ≠ 2 := fun q => h18 (congrArg nI q)
            have k2 : ¬ s.t.k = 2 := fun q => e18 ((tkM_2 hO).mpr q)
            refine b_vret rfl (by decide) dX12_sayOther_98 ?_
            rw [if_neg (fun q => q.elim e10 k2)] at hq
            exact hq.1 h rfl L hM
          · have e18 : ((tkM s.t.k)) = 2 := nI_inj (a := ((tkM s.t.k))) (b := 2) (by omega) (by omega) h18
            have k2 : s.t.k = 2 := (tkM_2 hO).mp e18
            exact K21 _ (Or.inr k2)
  refine b_iconst (v := 1) dX12_sayOther_0 (by decide +kernel) ?_
  refine b_istore_n (lv' := [(0, _), (1, _)]) dX12_sayOther_1 rfl (by decide) rfl rfl ?_
  have y := key 25 s g hM hO.1 h24 (by omega) (FMl.rf g) hq
  rw [show decide (s.no = 0) = true from decide_eq_true n0] at y
  exact y
theorem c_X12_readLine {E : En} {d : Nat} {Q : QT} {X : XT} {g : G2} {f : Nat → Nat} {n : Nat} {s : TxS} (hM : RMr g f n s) (hO : okLs f n s) (hn6 : n ≤ 600) (hq1 : ∀ h, (ln f n s).b = 0 → FMl g h → RMr h f n (ln f n s).s → Q (some (.int (nI (dnN (ln f n s).s)))) h) (hq2 : ∀ h z, (ln f n s).b ≠ 0 → FMl g h → (∃ m : MS, m.bad = (ln f n s).b ∧ m.bp = (ln f n s).p ∧ RMs h f n m) → Q (some (.int z)) h) : M E md_X12_readLine (d + 49) [.ref 84, .int (nI (dnN s))] g Q X := by
  refine M.of _ rfl rfl (Nat.le_of_ble_eq_true rfl) ?_
  have dz : ∀ k, decide (MS.bad (s.t, 0, 0, s.c) = 0 ∧ (MS.t (s.t, 0, 0, s.c)).k = k) = decide (s.t.k = k) := fun k => decide_eq_decide.mpr ⟨fun q => q.2, fun q => ⟨rfl, q⟩⟩
  have K155 : ∀ (h : G2) (r : LR) (kv wv : Int32), ln f n s = enL f n r → r.b = 0 → FMl g h → RMr h f n r.s → (nI (dnN s) ||| kv) = nI (dnN r.s) → B E md_X12_readLine (d + 49) Q X 155 [(0, .ref 84), (1, .int (nI (dnN s))), (2, .int kv), (3, .int wv)] [] h 0 := by
    intro h r kv wv eE hb L hM2 hdn
    refine b_aload_n dX12_readLine_155 rfl rfl ?_
    refine b_bipush (v := 59) dX12_readLine_156 (by decide +kernel) ?_
    refine b_callV (As := [_]) (st := []) dX12_readLine_158 lk_X12_255 lm_X12_mark lv_X12_mark rfl (by decide) rfl rfl rfl (Nat.le_of_ble_eq_true rfl) (Nat.le_refl _) (by decide) ?_
    refine c_X12_mark (k := 59) hM2.1 (by decide) (fun h2 F2 R2 => ?_)
    refine b_iload_n dX12_readLine_161 rfl rfl ?_
    refine b_iload_n dX12_readLine_162 rfl rfl ?_
    refine b_ior dX12_readLine_163 ?_
    refine b_iret rfl (by decide) dX12_readLine_164 ?_
    by_cases q : r.s.t.k = 59
    · have z : ln f n s = (0, 0, tkL r.s (nxt f n r.s.t.af)) := by rw [eE]; unfold enL; rw [if_neg (Decidable.not_not.mpr hb), if_pos q]
      rw [z] at hq1
      rw [mkM_1 q] at R2
      rw [hdn]
      exact hq1 h2 rfl (L.tr (FMl.fp F2)) ⟨R2, hM2.2.fp F2⟩
    · have z : ln f n s = (1, r.s.t.pl, r.s) := by rw [eE]; unfold enL; rw [if_neg (Decidable.not_not.mpr hb), if_neg q]
      rw [z] at hq2
      rw [mkM_2 q] at R2
      exact hq2 h2 _ (Nat.succ_ne_zero 0) (L.tr (FMl.fp F2)) ⟨_, rfl, rfl, R2⟩
  have K155b : ∀ (h : G2) (r : LR) (kv wv : Int32), ln f n s = enL f n r → r.b ≠ 0 → FMl g h → (∃ m : MS, m.bad = r.b ∧ m.bp = r.p ∧ RMs h f n m) → B E md_X12_readLine (d + 49) Q X 155 [(0, .ref 84), (1, .int (nI (dnN s))), (2, .int kv), (3, .int wv)] [] h 0 := by
    intro h r kv wv eE hb L hm
    refine b_aload_n dX12_readLine_155 rfl rfl ?_
    refine b_bipush (v := 59) dX12_readLine_156 (by decide +kernel) ?_
    refine b_callV (As := [_]) (st := []) dX12_readLine_158 lk_X12_255 lm_X12_mark lv_X12_mark rfl (by decide) rfl rfl rfl (Nat.le_of_ble_eq_true rfl) (Nat.le_refl _) (by decide) ?_
    obtain ⟨m, m1, m2, R⟩ := hm
    refine c_X12_mark (k := 59) R (by decide) (fun h2 F2 R2 => ?_)
    rw [mkM_b (by rw [m1]; exact hb)] at R2
    refine b_iload_n dX12_readLine_161 rfl rfl ?_
    refine b_iload_n dX12_readLine_162 rfl rfl ?_
    refine b_ior dX12_readLine_163 ?_
    refine b_iret rfl (by decide) dX12_readLine_164 ?_
    have z : ln f n s = r := by rw [eE]; unfold enL; rw [if_pos hb]
    rw [z] at hq2
    exact hq2 h2 _ hb (L.tr (FMl.fp F2)) ⟨m, m1, m2, R2⟩
  have K42_1 : ∀ (kk : s.t.k = 110), B E md_X12_readLine (d + 49) Q X 42 [(0, .ref 84), (1, .int (nI (dnN s)))] [.int 1] g 0 := by
    intro kk
    refine b_istore_n (lv' := [(0, _), (1, _), (2, _)]) dX12_readLine_42 rfl (by decide) rfl rfl ?_
    refine b_aload_n dX12_readLine_43 rfl rfl ?_
    refine b_aload_n dX12_readLine_44 rfl rfl ?_
    refine b_getR (b := 85) lf_X12_19 rfl rfl dX12_readLine_45 ?_
    refine b_callV (As := [_]) (st := []) dX12_readLine_48 lk_X12_251 lm_X12_which lv_X12_which rfl (by decide) rfl rfl rfl (Nat.le_of_ble_eq_true rfl) (Nat.le_refl _) (by decide) ?_
    refine c_X12_whichK hM.1 (fun i hi hk => ?_) (fun hno => ?_)
    · exfalso
      have hki : s.t.k = ksK i := hk.2
      have := ksK_r hi
      omega
    refine b_istore_n (lv' := [(0, _), (1, _), (2, _), (3, _)]) dX12_readLine_51 rfl (by decide) rfl rfl ?_
    refine b_iload_n dX12_readLine_52 rfl rfl ?_
    refine b_iload_n dX12_readLine_53 rfl rfl ?_
    refine b_iand dX12_readLine_54 ?_
    refine b_if_eq (tgt := 63) dX12_readLine_55 (by decide) (fun h55 => ?_) (fun h55 => ?_)
    · have e55 : s.dk = false := (dn_and1 s.dk s.dt s.ds).1.mp h55
      refine b_iload_n dX12_readLine_63 rfl rfl ?_
      refine b_if_le (tgt := 120) dX12_readLine_64 (by decide) (fun h64 => ?_) (fun h64 => ?_)
      · exact absurd h64 (by decide +kernel)
      · refine b_aload_n dX12_readLine_67 rfl rfl ?_
        refine b_getI lf_X12_214 rfl dX12_readLine_68 ?_
        refine b_topE (hM.1.2.2.2.1) ?_
        refine b_if_ne (tgt := 78) dX12_readLine_71 (by decide) (fun h71 => ?_) (fun h71 => ?_)
        · have e71 : 0 ≠ 0 := fun q => h71 (by rw [q]; rfl)
          exact absurd rfl e71
        · have e71 : 0 = 0 := nI_inj (b := 0) (by omega) (by decide) h71
          refine b_aload_n dX12_readLine_74 rfl rfl ?_
          refine b_callV (As := []) (st := []) dX12_readLine_75 lk_X12_239 lm_X12_stepOn lv_X12_stepOn rfl (by decide) rfl rfl rfl (Nat.le_of_ble_eq_true rfl) (Nat.le_refl _) (by decide) ?_
          refine c_X12_stepOn hM.1.1 hM.1.2.1.1 hO.1.ok.1 (fun h1 F1 T1 => ?_)
          have R1 : RMs h1 f n (nxt f n s.t.af, 0, 0, s.c) := hM.1.adv F1 T1
          have W1 := hM.2.fp F1.fp
          refine b_iload_n dX12_readLine_78 rfl rfl ?_
          refine b_iconst (v := 1) dX12_readLine_79 (by decide +kernel) ?_
          refine b_icmp_ne (tgt := 100) dX12_readLine_80 (by decide) (fun h80 => ?_) (fun h80 => ?_)
          · exact absurd rfl h80
          · refine b_aload_n dX12_readLine_83 rfl rfl ?_
            refine b_getR (b := 87) lf_X12_40 rfl rfl dX12_readLine_84 ?_
            refine b_bipush (v := 8) dX12_readLine_87 (by decide +kernel) ?_
            refine b_aload_n dX12_readLine_89 rfl rfl ?_
            refine b_iconst (v := 0) dX12_readLine_90 (by decide +kernel) ?_
            refine b_bipush (v := 11) dX12_readLine_91 (by decide +kernel) ?_
            refine b_callV (As := [_, _]) (st := [_, _]) dX12_readLine_93 lk_X12_245 lm_X12_readNumber lv_X12_readNumber rfl (by decide) rfl rfl rfl (Nat.le_of_ble_eq_true rfl) (Nat.le_refl _) (by decide) ?_
            refine c_X12_readNumber (lo := 0) (hi := 11) R1 (by decide) (by decide) (fun h2 F2 R2 => ?_)
            refine b_istN (j := 8) dX12_readLine_96 (rfl) (by show _ < 10; omega) ?_
            refine b_goto (tgt := 155) dX12_readLine_97 (by decide) ?_
            have hF : ∀ x, FMl g (up2 h2 87 8 x) := fun x => ((FMl.fp F1.fp).tr (FMl.fp F2)).tr (FMl.up (by decide) (by decide) (by decide))
            by_cases v0 : nuC 0 11 (nxt f n s.t.af) = 0
            · have zl : lnK f n s = (0, 0, nxt f n (nxt f n s.t.af).af, s.np, s.nf, s.no, true, s.dt, s.ds, s.c, uN s.H 9 0 (nxt f n s.t.af).v) := by
                unfold lnK; rw [if_neg (by rw [e55]; exact Bool.false_ne_true)]; simp only; rw [if_neg (Decidable.not_not.mpr v0)]
              rw [rnN_0 v0] at R2
              rw [nmV_0 v0]
              exact K155 _ _ _ _ (by unfold ln; rw [if_neg (by omega), if_pos kk]) (by rw [zl]) (hF _) (by rw [zl]; exact ⟨R2.up (by decide) (by decide) (by decide) (fun _ => by decide), (W1.fp F2).key⟩) (by rw [zl]; exact (dn_and1 s.dk s.dt s.ds).2)
            · have zl : lnK f n s = (nuC 0 11 (nxt f n s.t.af), (nxt f n s.t.af).pl, s) := by
                unfold lnK; rw [if_neg (by rw [e55]; exact Bool.false_ne_true)]; simp only; rw [if_pos v0]
              rw [rnN_n v0] at R2
              exact K155b _ _ _ _ (by unfold ln; rw [if_neg (by omega), if_pos kk]) (by rw [zl]; exact v0) (hF _) (by rw [zl]; exact ⟨_, rfl, rfl, R2.up (by decide) (by decide) (by decide) (fun _ => by decide)⟩)
    · have e55 : s.dk = true := by
        cases q : s.dk with
        | true => rfl
        | false => exact absurd ((dn_and1 s.dk s.dt s.ds).1.mpr q) h55
      refine b_aload_n dX12_readLine_58 rfl rfl ?_
      refine b_iconst (v := 5) dX12_readLine_59 (by decide +kernel) ?_
      refine b_callV (As := [_]) (st := []) dX12_readLine_60 lk_X12_235 lm_X12_wrong lv_X12_wrong rfl (by decide) rfl rfl rfl (Nat.le_of_ble_eq_true rfl) (Nat.le_refl _) (by decide) ?_
      refine c_X12_wrong (k := 5) hM.1 (by decide) (fun h1 F1 R1 => ?_)
      rw [wr_z] at R1
      have hb1 : MS.bad (s.t, 5, s.t.pl, s.c) ≠ 0 := Nat.succ_ne_zero 4
      refine b_iload_n dX12_readLine_63 rfl rfl ?_
      refine b_if_le (tgt := 120) dX12_readLine_64 (by decide) (fun h64 => ?_) (fun h64 => ?_)
      · exact absurd h64 (by decide +kernel)
      · refine b_aload_n dX12_readLine_67 rfl rfl ?_
        refine b_getI lf_X12_214 rfl dX12_readLine_68 ?_
        refine b_topE (R1.2.2.2.1) ?_
        refine b_if_ne (tgt := 78) dX12_readLine_71 (by decide) (fun h71 => ?_) (fun h71 => ?_)
        · have e71 : 5 ≠ 0 := fun q => h71 (by rw [q]; rfl)
          refine b_iload_n dX12_readLine_78 rfl rfl ?_
          refine b_iconst (v := 1) dX12_readLine_79 (by decide +kernel) ?_
          refine b_icmp_ne (tgt := 100) dX12_readLine_80 (by decide) (fun h80 => ?_) (fun h80 => ?_)
          · exact absurd rfl h80
          · refine b_aload_n dX12_readLine_83 rfl rfl ?_
            refine b_getR (b := 87) lf_X12_40 rfl rfl dX12_readLine_84 ?_
            refine b_bipush (v := 8) dX12_readLine_87 (by decide +kernel) ?_
            refine b_aload_n dX12_readLine_89 rfl rfl ?_
            refine b_iconst (v := 0) dX12_readLine_90 (by decide +kernel) ?_
            refine b_bipush (v := 11) dX12_readLine_91 (by decide +kernel) ?_
            refine b_callV (As := [_, _]) (st := [_, _]) dX12_readLine_93 lk_X12_245 lm_X12_readNumber lv_X12_readNumber rfl (by decide) rfl rfl rfl (Nat.le_of_ble_eq_true rfl) (Nat.le_refl _) (by decide) ?_
            refine c_X12_readNumber (lo := 0) (hi := 11) R1 (by decide) (by decide) (fun h2 F2 R2 => ?_)
            rw [rnN_b hb1] at R2
            refine b_istN (j := 8) dX12_readLine_96 (rfl) (by show _ < 10; omega) ?_
            refine b_goto (tgt := 155) dX12_readLine_97 (by decide) ?_
            have zl : lnK f n s = (5, s.t.pl, s) := by unfold lnK; rw [if_pos e55]
            exact K155b _ _ _ _ (by unfold ln; rw [if_neg (by omega), if_pos kk]) (by rw [zl]; exact Nat.succ_ne_zero 4) ((FMl.fp (F1.tr F2)).tr (FMl.up (by decide) (by decide) (by decide))) (by rw [zl]; exact ⟨_, rfl, rfl, R2.up (by decide) (by decide) (by decide) (fun _ => by decide)⟩)
        · have e71 : 5 = 0 := nI_inj (b := 0) (by omega) (by decide) h71
          exact absurd e71 (by decide)
  have K42_2 : ∀ (kk : s.t.k = 105), B E md_X12_readLine (d + 49) Q X 42 [(0, .ref 84), (1, .int (nI (dnN s)))] [.int 2] g 0 := by
    intro kk
    refine b_istore_n (lv' := [(0, _), (1, _), (2, _)]) dX12_readLine_42 rfl (by decide) rfl rfl ?_
    refine b_aload_n dX12_readLine_43 rfl rfl ?_
    refine b_aload_n dX12_readLine_44 rfl rfl ?_
    refine b_getR (b := 85) lf_X12_19 rfl rfl dX12_readLine_45 ?_
    refine b_callV (As := [_]) (st := []) dX12_readLine_48 lk_X12_251 lm_X12_which lv_X12_which rfl (by decide) rfl rfl rfl (Nat.le_of_ble_eq_true rfl) (Nat.le_refl _) (by decide) ?_
    refine c_X12_whichK hM.1 (fun i hi hk => ?_) (fun hno => ?_)
    · exfalso
      have hki : s.t.k = ksK i := hk.2
      have := ksK_r hi
      omega
    refine b_istore_n (lv' := [(0, _), (1, _), (2, _), (3, _)]) dX12_readLine_51 rfl (by decide) rfl rfl ?_
    refine b_iload_n dX12_readLine_52 rfl rfl ?_
    refine b_iload_n dX12_readLine_53 rfl rfl ?_
    refine b_iand dX12_readLine_54 ?_
    refine b_if_eq (tgt := 63) dX12_readLine_55 (by decide) (fun h55 => ?_) (fun h55 => ?_)
    · have e55 : s.dt = false := (dn_and2 s.dk s.dt s.ds).1.mp h55
      refine b_iload_n dX12_readLine_63 rfl rfl ?_
      refine b_if_le (tgt := 120) dX12_readLine_64 (by decide) (fun h64 => ?_) (fun h64 => ?_)
      · exact absurd h64 (by decide +kernel)
      · refine b_aload_n dX12_readLine_67 rfl rfl ?_
        refine b_getI lf_X12_214 rfl dX12_readLine_68 ?_
        refine b_topE (hM.1.2.2.2.1) ?_
        refine b_if_ne (tgt := 78) dX12_readLine_71 (by decide) (fun h71 => ?_) (fun h71 => ?_)
        · have e71 : 0 ≠ 0 := fun q => h71 (by rw [q]; rfl)
          exact absurd rfl e71
        · have e71 : 0 = 0 := nI_inj (b := 0) (by omega) (by decide) h71
          refine b_aload_n dX12_readLine_74 rfl rfl ?_
          refine b_callV (As := []) (st := []) dX12_readLine_75 lk_X12_239 lm_X12_stepOn lv_X12_stepOn rfl (by decide) rfl rfl rfl (Nat.le_of_ble_eq_true rfl) (Nat.le_refl _) (by decide) ?_
          refine c_X12_stepOn hM.1.1 hM.1.2.1.1 hO.1.ok.1 (fun h1 F1 T1 => ?_)
          have R1 : RMs h1 f n (nxt f n s.t.af, 0, 0, s.c) := hM.1.adv F1 T1
          have W1 := hM.2.fp F1.fp
          refine b_iload_n dX12_readLine_78 rfl rfl ?_
          refine b_iconst (v := 1) dX12_readLine_79 (by decide +kernel) ?_
          refine b_icmp_ne (tgt := 100) dX12_readLine_80 (by decide) (fun h80 => ?_) (fun h80 => ?_)
          · refine b_iload_n dX12_readLine_100 rfl rfl ?_
            refine b_iconst (v := 2) dX12_readLine_101 (by decide +kernel) ?_
            refine b_icmp_ne (tgt := 112) dX12_readLine_102 (by decide) (fun h102 => ?_) (fun h102 => ?_)
            · exact absurd rfl h102
            · refine b_aload_n dX12_readLine_105 rfl rfl ?_
              refine b_callV (As := []) (st := []) dX12_readLine_106 lk_X12_292 lm_X12_sayOther lv_X12_sayOther rfl (by decide) rfl rfl rfl (Nat.le_of_ble_eq_true rfl) (Nat.le_refl _) (by decide) ?_
              have n0 : s.no = 0 := hO.2.2.2.2.2.2.2.2.2.2.2.2.2 e55
              have eO : lnO f n s = otL f n 25 (nxt f n s.t.af, s.np, s.nf, s.no, s.dk, true, s.ds, s.c, s.H) := by unfold lnO; rw [if_neg (by rw [e55]; exact Bool.false_ne_true)]
              have od : (lnO f n s).b = 0 → dnN (lnO f n s).s = dn3 s.dk true s.ds := fun q => by rw [eO]; exact otL_dn 25
              refine c_X12_sayOther (s := (nxt f n s.t.af, s.np, s.nf, s.no, s.dk, true, s.ds, s.c, s.H)) ⟨R1, W1⟩ (okLs_o hO) n0 ?_
              rw [← eO]
              refine ⟨fun h2 z2 L2 C2 => ?_, fun h2 z2 L2 C2 => ?_⟩
              · refine b_goto (tgt := 155) dX12_readLine_109 (by decide) ?_
                exact K155 _ _ _ _ (by unfold ln; rw [if_neg (by omega), if_neg (by omega), if_neg (by omega), if_pos kk]) z2 ((FMl.fp F1.fp).tr L2) C2 (by rw [od z2]; exact (dn_and2 s.dk s.dt s.ds).2)
              · refine b_goto (tgt := 155) dX12_readLine_109 (by decide) ?_
                exact K155b _ _ _ _ (by unfold ln; rw [if_neg (by omega), if_neg (by omega), if_neg (by omega), if_pos kk]) z2 ((FMl.fp F1.fp).tr L2) C2
          · exact absurd h80 (by decide +kernel)
    · have e55 : s.dt = true := by
        cases q : s.dt with
        | true => rfl
        | false => exact absurd ((dn_and2 s.dk s.dt s.ds).1.mpr q) h55
      refine b_aload_n dX12_readLine_58 rfl rfl ?_
      refine b_iconst (v := 5) dX12_readLine_59 (by decide +kernel) ?_
      refine b_callV (As := [_]) (st := []) dX12_readLine_60 lk_X12_235 lm_X12_wrong lv_X12_wrong rfl (by decide) rfl rfl rfl (Nat.le_of_ble_eq_true rfl) (Nat.le_refl _) (by decide) ?_
      refine c_X12_wrong (k := 5) hM.1 (by decide) (fun h1 F1 R1 => ?_)
      rw [wr_z] at R1
      have hb1 : MS.bad (s.t, 5, s.t.pl, s.c) ≠ 0 := Nat.succ_ne_zero 4
      refine b_iload_n dX12_readLine_63 rfl rfl ?_
      refine b_if_le (tgt := 120) dX12_readLine_64 (by decide) (fun h64 => ?_) (fun h64 => ?_)
      · exact absurd h64 (by decide +kernel)
      · refine b_aload_n dX12_readLine_67 rfl rfl ?_
        refine b_getI lf_X12_214 rfl dX12_readLine_68 ?_
        refine b_topE (R1.2.2.2.1) ?_
        refine b_if_ne (tgt := 78) dX12_readLine_71 (by decide) (fun h71 => ?_) (fun h71 => ?_)
        · have e71 : 5 ≠ 0 := fun q => h71 (by rw [q]; rfl)
          refine b_iload_n dX12_readLine_78 rfl rfl ?_
          refine b_iconst (v := 1) dX12_readLine_79 (by decide +kernel) ?_
          refine b_icmp_ne (tgt := 100) dX12_readLine_80 (by decide) (fun h80 => ?_) (fun h80 => ?_)
          · refine b_iload_n dX12_readLine_100 rfl rfl ?_
            refine b_iconst (v := 2) dX12_readLine_101 (by decide +kernel) ?_
            refine b_icmp_ne (tgt := 112) dX12_readLine_102 (by decide) (fun h102 => ?_) (fun h102 => ?_)
            · exact absurd rfl h102
            · refine b_aload_n dX12_readLine_105 rfl rfl ?_
              refine b_callV (As := []) (st := []) dX12_readLine_106 lk_X12_292 lm_X12_sayOther lv_X12_sayOther rfl (by decide) rfl rfl rfl (Nat.le_of_ble_eq_true rfl) (Nat.le_refl _) (by decide) ?_
              refine c_X12_sayOther0 R1 hb1 ?_
              · refine b_goto (tgt := 155) dX12_readLine_109 (by decide) ?_
                have zl : lnO f n s = (5, s.t.pl, s) := by unfold lnO; rw [if_pos e55]
                exact K155b _ _ _ _ (by unfold ln; rw [if_neg (by omega), if_neg (by omega), if_neg (by omega), if_pos kk]) (by rw [zl]; exact Nat.succ_ne_zero 4) (FMl.fp F1) (by rw [zl]; exact ⟨_, rfl, rfl, R1⟩)
          · exact absurd h80 (by decide +kernel)
        · have e71 : 5 = 0 := nI_inj (b := 0) (by omega) (by decide) h71
          exact absurd e71 (by decide)
  have K42_4 : ∀ (kk : s.t.k = 106), B E md_X12_readLine (d + 49) Q X 42 [(0, .ref 84), (1, .int (nI (dnN s)))] [.int 4] g 0 := by
    intro kk
    refine b_istore_n (lv' := [(0, _), (1, _), (2, _)]) dX12_readLine_42 rfl (by decide) rfl rfl ?_
    refine b_aload_n dX12_readLine_43 rfl rfl ?_
    refine b_aload_n dX12_readLine_44 rfl rfl ?_
    refine b_getR (b := 85) lf_X12_19 rfl rfl dX12_readLine_45 ?_
    refine b_callV (As := [_]) (st := []) dX12_readLine_48 lk_X12_251 lm_X12_which lv_X12_which rfl (by decide) rfl rfl rfl (Nat.le_of_ble_eq_true rfl) (Nat.le_refl _) (by decide) ?_
    refine c_X12_whichK hM.1 (fun i hi hk => ?_) (fun hno => ?_)
    · exfalso
      have hki : s.t.k = ksK i := hk.2
      have := ksK_r hi
      omega
    refine b_istore_n (lv' := [(0, _), (1, _), (2, _), (3, _)]) dX12_readLine_51 rfl (by decide) rfl rfl ?_
    refine b_iload_n dX12_readLine_52 rfl rfl ?_
    refine b_iload_n dX12_readLine_53 rfl rfl ?_
    refine b_iand dX12_readLine_54 ?_
    refine b_if_eq (tgt := 63) dX12_readLine_55 (by decide) (fun h55 => ?_) (fun h55 => ?_)
    · have e55 : s.ds = false := (dn_and4 s.dk s.dt s.ds).1.mp h55
      refine b_iload_n dX12_readLine_63 rfl rfl ?_
      refine b_if_le (tgt := 120) dX12_readLine_64 (by decide) (fun h64 => ?_) (fun h64 => ?_)
      · exact absurd h64 (by decide +kernel)
      · refine b_aload_n dX12_readLine_67 rfl rfl ?_
        refine b_getI lf_X12_214 rfl dX12_readLine_68 ?_
        refine b_topE (hM.1.2.2.2.1) ?_
        refine b_if_ne (tgt := 78) dX12_readLine_71 (by decide) (fun h71 => ?_) (fun h71 => ?_)
        · have e71 : 0 ≠ 0 := fun q => h71 (by rw [q]; rfl)
          exact absurd rfl e71
        · have e71 : 0 = 0 := nI_inj (b := 0) (by omega) (by decide) h71
          refine b_aload_n dX12_readLine_74 rfl rfl ?_
          refine b_callV (As := []) (st := []) dX12_readLine_75 lk_X12_239 lm_X12_stepOn lv_X12_stepOn rfl (by decide) rfl rfl rfl (Nat.le_of_ble_eq_true rfl) (Nat.le_refl _) (by decide) ?_
          refine c_X12_stepOn hM.1.1 hM.1.2.1.1 hO.1.ok.1 (fun h1 F1 T1 => ?_)
          have R1 : RMs h1 f n (nxt f n s.t.af, 0, 0, s.c) := hM.1.adv F1 T1
          have W1 := hM.2.fp F1.fp
          refine b_iload_n dX12_readLine_78 rfl rfl ?_
          refine b_iconst (v := 1) dX12_readLine_79 (by decide +kernel) ?_
          refine b_icmp_ne (tgt := 100) dX12_readLine_80 (by decide) (fun h80 => ?_) (fun h80 => ?_)
          · refine b_iload_n dX12_readLine_100 rfl rfl ?_
            refine b_iconst (v := 2) dX12_readLine_101 (by decide +kernel) ?_
            refine b_icmp_ne (tgt := 112) dX12_readLine_102 (by decide) (fun h102 => ?_) (fun h102 => ?_)
            · refine b_aload_n dX12_readLine_112 rfl rfl ?_
              refine b_iconst (v := 0) dX12_readLine_113 (by decide +kernel) ?_
              refine b_callV (As := [_]) (st := []) dX12_readLine_114 lk_X12_258 lm_X12_readExpression lv_X12_readExpression rfl (by decide) rfl rfl rfl (Nat.le_of_ble_eq_true rfl) (Nat.le_refl _) (by decide) ?_
              have hc0 : s.c = [] := hO.2.2.2.2.2.2.2.2.2.1 e55
              rw [hc0] at R1
              refine c_X12_rE 6 d (by decide) E _ X _ _ R1 (fun _ => Nat.zero_le _) (fun h2 F2 R2 => ?_)
              refine b_goto (tgt := 155) dX12_readLine_117 (by decide) ?_
              have hF := (FMl.fp F1.fp).tr (FMl.fp F2)
              have W2 := W1.fp F2
              have zS : lnS f n s = if (rE f n 6 (nxt f n s.t.af, 0, 0, [])).bad ≠ 0 then ((rE f n 6 (nxt f n s.t.af, 0, 0, [])).bad, (rE f n 6 (nxt f n s.t.af, 0, 0, [])).bp, s) else (0, 0, (rE f n 6 (nxt f n s.t.af, 0, 0, [])).t, s.np, s.nf, s.no, s.dk, s.dt, true, (rE f n 6 (nxt f n s.t.af, 0, 0, [])).c, s.H) := by
                unfold lnS; rw [if_neg (by rw [e55]; exact Bool.false_ne_true)]
              generalize rE f n 6 (nxt f n s.t.af, 0, 0, []) = r at R2 zS
              by_cases b0 : r.bad = 0
              · rw [if_neg (Decidable.not_not.mpr b0)] at zS
                exact K155 _ _ _ _ (by unfold ln; rw [if_neg (by omega), if_neg (by omega), if_neg (by omega), if_neg (by omega), if_pos kk]) (by rw [zS]) hF (by rw [zS]; exact ⟨RMs.z b0 R2, W2⟩) (by rw [zS]; exact (dn_and4 s.dk s.dt s.ds).2)
              · rw [if_pos b0] at zS
                exact K155b _ _ _ _ (by unfold ln; rw [if_neg (by omega), if_neg (by omega), if_neg (by omega), if_neg (by omega), if_pos kk]) (by rw [zS]; exact b0) hF (by rw [zS]; exact ⟨r, rfl, rfl, R2⟩)
            · exact absurd h102 (by decide +kernel)
          · exact absurd h80 (by decide +kernel)
    · have e55 : s.ds = true := by
        cases q : s.ds with
        | true => rfl
        | false => exact absurd ((dn_and4 s.dk s.dt s.ds).1.mpr q) h55
      refine b_aload_n dX12_readLine_58 rfl rfl ?_
      refine b_iconst (v := 5) dX12_readLine_59 (by decide +kernel) ?_
      refine b_callV (As := [_]) (st := []) dX12_readLine_60 lk_X12_235 lm_X12_wrong lv_X12_wrong rfl (by decide) rfl rfl rfl (Nat.le_of_ble_eq_true rfl) (Nat.le_refl _) (by decide) ?_
      refine c_X12_wrong (k := 5) hM.1 (by decide) (fun h1 F1 R1 => ?_)
      rw [wr_z] at R1
      have hb1 : MS.bad (s.t, 5, s.t.pl, s.c) ≠ 0 := Nat.succ_ne_zero 4
      refine b_iload_n dX12_readLine_63 rfl rfl ?_
      refine b_if_le (tgt := 120) dX12_readLine_64 (by decide) (fun h64 => ?_) (fun h64 => ?_)
      · exact absurd h64 (by decide +kernel)
      · refine b_aload_n dX12_readLine_67 rfl rfl ?_
        refine b_getI lf_X12_214 rfl dX12_readLine_68 ?_
        refine b_topE (R1.2.2.2.1) ?_
        refine b_if_ne (tgt := 78) dX12_readLine_71 (by decide) (fun h71 => ?_) (fun h71 => ?_)
        · have e71 : 5 ≠ 0 := fun q => h71 (by rw [q]; rfl)
          refine b_iload_n dX12_readLine_78 rfl rfl ?_
          refine b_iconst (v := 1) dX12_readLine_79 (by decide +kernel) ?_
          refine b_icmp_ne (tgt := 100) dX12_readLine_80 (by decide) (fun h80 => ?_) (fun h80 => ?_)
          · refine b_iload_n dX12_readLine_100 rfl rfl ?_
            refine b_iconst (v := 2) dX12_readLine_101 (by decide +kernel) ?_
            refine b_icmp_ne (tgt := 112) dX12_readLine_102 (by decide) (fun h102 => ?_) (fun h102 => ?_)
            · refine b_aload_n dX12_readLine_112 rfl rfl ?_
              refine b_iconst (v := 0) dX12_readLine_113 (by decide +kernel) ?_
              refine b_callV (As := [_]) (st := []) dX12_readLine_114 lk_X12_258 lm_X12_readExpression lv_X12_readExpression rfl (by decide) rfl rfl rfl (Nat.le_of_ble_eq_true rfl) (Nat.le_refl _) (by decide) ?_
              refine c_X12_rE 6 d (by decide) E _ X _ _ R1 (fun q => absurd q hb1) (fun h2 F2 R2 => ?_)
              rw [rE_b hb1] at R2
              refine b_goto (tgt := 155) dX12_readLine_117 (by decide) ?_
              have zl : lnS f n s = (5, s.t.pl, s) := by unfold lnS; rw [if_pos e55]
              exact K155b _ _ _ _ (by unfold ln; rw [if_neg (by omega), if_neg (by omega), if_neg (by omega), if_neg (by omega), if_pos kk]) (by rw [zl]; exact Nat.succ_ne_zero 4) (FMl.fp (F1.tr F2)) (by rw [zl]; exact ⟨_, rfl, rfl, R2⟩)
            · exact absurd h102 (by decide +kernel)
          · exact absurd h80 (by decide +kernel)
        · have e71 : 5 = 0 := nI_inj (b := 0) (by omega) (by decide) h71
          exact absurd e71 (by decide)
  have K42_0 : ∀ (k110 : ¬ s.t.k = 110) (k105 : ¬ s.t.k = 105) (k106 : ¬ s.t.k = 106), B E md_X12_readLine (d + 49) Q X 42 [(0, .ref 84), (1, .int (nI (dnN s)))] [.int 0] g 0 := by
    intro k110 k105 k106
    refine b_istore_n (lv' := [(0, _), (1, _), (2, _)]) dX12_readLine_42 rfl (by decide) rfl rfl ?_
    refine b_aload_n dX12_readLine_43 rfl rfl ?_
    refine b_aload_n dX12_readLine_44 rfl rfl ?_
    refine b_getR (b := 85) lf_X12_19 rfl rfl dX12_readLine_45 ?_
    refine b_callV (As := [_]) (st := []) dX12_readLine_48 lk_X12_251 lm_X12_which lv_X12_which rfl (by decide) rfl rfl rfl (Nat.le_of_ble_eq_true rfl) (Nat.le_refl _) (by decide) ?_
    refine c_X12_whichK hM.1 (fun i hi hk => ?_) (fun hno => ?_)
    · have hki : s.t.k = ksK i := hk.2
      refine b_istore_n (lv' := [(0, _), (1, _), (2, _), (3, _)]) dX12_readLine_51 rfl (by decide) rfl rfl ?_
      refine b_iload_n dX12_readLine_52 rfl rfl ?_
      refine b_iload_n dX12_readLine_53 rfl rfl ?_
      refine b_iand dX12_readLine_54 ?_
      refine b_if_eq (tgt := 63) dX12_readLine_55 (by decide) (fun h55 => ?_) (fun h55 => ?_)
      · refine b_iload_n dX12_readLine_63 rfl rfl ?_
        refine b_if_le (tgt := 120) dX12_readLine_64 (by decide) (fun h64 => ?_) (fun h64 => ?_)
        · refine b_iload_n dX12_readLine_120 rfl rfl ?_
          refine b_iconst (v := (-1)) dX12_readLine_121 (by decide +kernel) ?_
          refine b_icmp_eq (tgt := 133) dX12_readLine_122 (by decide) (fun h122 => ?_) (fun h122 => ?_)
          · exact absurd h122 (nI_nm1 (by omega))
          · refine b_aload_n dX12_readLine_125 rfl rfl ?_
            refine b_iload_n dX12_readLine_126 rfl rfl ?_
            refine b_callV (As := [_]) (st := []) dX12_readLine_127 lk_X12_295 lm_X12_sayPerson lv_X12_sayPerson rfl (by decide) rfl rfl rfl (Nat.le_of_ble_eq_true rfl) (Nat.le_refl _) (by decide) ?_
            have hr := ksK_r hi
            have eL : ln f n s = enL f n (lnP f n i s) := by unfold ln; rw [if_pos (by omega), show s.t.k - 100 = i by rw [hki]; exact ksK_s hi]
            have od : (lnP f n i s).b = 0 → dnN (lnP f n i s).s = dnN s := lnP_dn
            refine c_X12_sayPerson hM hO ⟨fun h2 z2 L2 C2 => ?_, fun h2 z2 L2 C2 => ?_⟩
            · refine b_goto (tgt := 155) dX12_readLine_130 (by decide) ?_
              exact K155 _ _ _ _ eL z2 L2 C2 (by rw [od z2]; exact (dn_and0 s.dk s.dt s.ds).2)
            · refine b_goto (tgt := 155) dX12_readLine_130 (by decide) ?_
              exact K155b _ _ _ _ eL z2 L2 C2
        · exact absurd (by decide +kernel) h64
      · exact absurd (dn_and0 s.dk s.dt s.ds).1 h55
    · have hno : ∀ i, i < 4 → s.t.k ≠ ksK i := fun i hi q => hno i hi ⟨rfl, q⟩
      refine b_istore_n (lv' := [(0, _), (1, _), (2, _), (3, _)]) dX12_readLine_51 rfl (by decide) rfl rfl ?_
      refine b_iload_n dX12_readLine_52 rfl rfl ?_
      refine b_iload_n dX12_readLine_53 rfl rfl ?_
      refine b_iand dX12_readLine_54 ?_
      refine b_if_eq (tgt := 63) dX12_readLine_55 (by decide) (fun h55 => ?_) (fun h55 => ?_)
      · refine b_iload_n dX12_readLine_63 rfl rfl ?_
        refine b_if_le (tgt := 120) dX12_readLine_64 (by decide) (fun h64 => ?_) (fun h64 => ?_)
        · refine b_iload_n dX12_readLine_120 rfl rfl ?_
          refine b_iconst (v := (-1)) dX12_readLine_121 (by decide +kernel) ?_
          refine b_icmp_eq (tgt := 133) dX12_readLine_122 (by decide) (fun h122 => ?_) (fun h122 => ?_)
          · refine b_aload_n dX12_readLine_133 rfl rfl ?_
            refine b_ldcSW (tx := "feud") (n := 46) (by decide +kernel) dX12_readLine_134 ?_
            refine b_callV (As := [_]) (st := []) dX12_readLine_137 lk_X12_228 lm_X12_is lv_X12_is rfl (by decide) rfl rfl rfl (Nat.le_of_ble_eq_true rfl) (Nat.le_refl _) (by decide) ?_
            refine c_X12_is hM.1 (q := (46, 4, [102, 101, 117, 100])) (w := [102, 101, 117, 100]) (k := 104) (by decide +kernel) ⟨rfl, rfl, by decide, by decide⟩ (by decide +kernel) ?_
            rw [dz]
            refine b_if_eq (tgt := 150) dX12_readLine_140 (by decide) (fun h140 => ?_) (fun h140 => ?_)
            · have e140 := b2i_0 h140
              have e140 := of_decide_eq_false e140
              refine b_aload_n dX12_readLine_150 rfl rfl ?_
              refine b_iconst (v := 1) dX12_readLine_151 (by decide +kernel) ?_
              refine b_callV (As := [_]) (st := []) dX12_readLine_152 lk_X12_235 lm_X12_wrong lv_X12_wrong rfl (by decide) rfl rfl rfl (Nat.le_of_ble_eq_true rfl) (Nat.le_refl _) (by decide) ?_
              refine c_X12_wrong (k := 1) hM.1 (by decide) (fun h2 F2 R2 => ?_)
              rw [wr_z] at R2
              have hr : ¬ (100 ≤ s.t.k ∧ s.t.k ≤ 103) := ksK_n hno
              have eL : ln f n s = (1, s.t.pl, s) := by unfold ln; rw [if_neg hr, if_neg k110, if_neg e140, if_neg k105, if_neg k106]
              exact K155b _ ((1, s.t.pl, s) : LR) _ _ (by rw [eL]; unfold enL; rw [if_pos (Nat.succ_ne_zero 0)]) (Nat.succ_ne_zero 0) (FMl.fp F2) ⟨_, rfl, rfl, R2⟩
            · have e140 := b2i_1 h140
              have e140 := of_decide_eq_true e140
              refine b_aload_n dX12_readLine_143 rfl rfl ?_
              refine b_callV (As := []) (st := []) dX12_readLine_144 lk_X12_300 lm_X12_sayFeud lv_X12_sayFeud rfl (by decide) rfl rfl rfl (Nat.le_of_ble_eq_true rfl) (Nat.le_refl _) (by decide) ?_
              have eL : ln f n s = enL f n (lnF f n s) := by unfold ln; rw [if_neg (by omega), if_neg (by omega), if_pos e140]
              have od : (lnF f n s).b = 0 → dnN (lnF f n s).s = dnN s := lnF_dn
              refine c_X12_sayFeud hM hO ⟨fun h2 z2 L2 C2 => ?_, fun h2 z2 L2 C2 => ?_⟩
              · refine b_goto (tgt := 155) dX12_readLine_147 (by decide) ?_
                exact K155 _ _ _ _ eL z2 L2 C2 (by rw [od z2]; exact (dn_and0 s.dk s.dt s.ds).2)
              · refine b_goto (tgt := 155) dX12_readLine_147 (by decide) ?_
                exact K155b _ _ _ _ eL z2 L2 C2
          · exact absurd rfl h122
        · exact absurd (by decide +kernel) h64
      · exact absurd (dn_and0 s.dk s.dt s.ds).1 h55
  refine b_aload_n dX12_readLine_0 rfl rfl ?_
  refine b_ldcS (tx := "key") (n := 7) (by decide +kernel) dX12_readLine_1 ?_
  refine b_callV (As := [_]) (st := []) dX12_readLine_3 lk_X12_228 lm_X12_is lv_X12_is rfl (by decide) rfl rfl rfl (Nat.le_of_ble_eq_true rfl) (Nat.le_refl _) (by decide) ?_
  refine c_X12_is hM.1 (q := (7, 3, [107, 101, 121])) (w := [107, 101, 121]) (k := 110) (by decide +kernel) ⟨rfl, rfl, by decide, by decide⟩ (by decide +kernel) ?_
  rw [dz]
  refine b_if_eq (tgt := 13) dX12_readLine_6 (by decide) (fun h6 => ?_) (fun h6 => ?_)
  · have e6 := b2i_0 h6
    have e6 := of_decide_eq_false e6
    refine b_aload_n dX12_readLine_13 rfl rfl ?_
    refine b_ldcSW (tx := "other") (n := 41) (by decide +kernel) dX12_readLine_14 ?_
    refine b_callV (As := [_]) (st := []) dX12_readLine_17 lk_X12_228 lm_X12_is lv_X12_is rfl (by decide) rfl rfl rfl (Nat.le_of_ble_eq_true rfl) (Nat.le_refl _) (by decide) ?_
    refine c_X12_is hM.1 (q := (41, 5, [111, 116, 104, 101, 114])) (w := [111, 116, 104, 101, 114]) (k := 105) (by decide +kernel) ⟨rfl, rfl, by decide, by decide⟩ (by decide +kernel) ?_
    rw [dz]
    refine b_if_eq (tgt := 27) dX12_readLine_20 (by decide) (fun h20 => ?_) (fun h20 => ?_)
    · have e20 := b2i_0 h20
      have e20 := of_decide_eq_false e20
      refine b_aload_n dX12_readLine_27 rfl rfl ?_
      refine b_ldcSW (tx := "sings") (n := 42) (by decide +kernel) dX12_readLine_28 ?_
      refine b_callV (As := [_]) (st := []) dX12_readLine_31 lk_X12_228 lm_X12_is lv_X12_is rfl (by decide) rfl rfl rfl (Nat.le_of_ble_eq_true rfl) (Nat.le_refl _) (by decide) ?_
      refine c_X12_is hM.1 (q := (42, 5, [115, 105, 110, 103, 115])) (w := [115, 105, 110, 103, 115]) (k := 106) (by decide +kernel) ⟨rfl, rfl, by decide, by decide⟩ (by decide +kernel) ?_
      rw [dz]
      refine b_if_eq (tgt := 41) dX12_readLine_34 (by decide) (fun h34 => ?_) (fun h34 => ?_)
      · have e34 := b2i_0 h34
        have e34 := of_decide_eq_false e34
        refine b_iconst (v := 0) dX12_readLine_41 (by decide +kernel) ?_
        exact K42_0 e6 e20 e34
      · have e34 := b2i_1 h34
        have e34 := of_decide_eq_true e34
        refine b_iconst (v := 4) dX12_readLine_37 (by decide +kernel) ?_
        refine b_goto (tgt := 42) dX12_readLine_38 (by decide) ?_
        exact K42_4 e34
    · have e20 := b2i_1 h20
      have e20 := of_decide_eq_true e20
      refine b_iconst (v := 2) dX12_readLine_23 (by decide +kernel) ?_
      refine b_goto (tgt := 42) dX12_readLine_24 (by decide) ?_
      exact K42_2 e20
  · have e6 := b2i_1 h6
    have e6 := of_decide_eq_true e6
    refine b_iconst (v := 1) dX12_readLine_9 (by decide +kernel) ?_
    refine b_goto (tgt := 42) dX12_readLine_10 (by decide) ?_
    exact K42_1 e6
