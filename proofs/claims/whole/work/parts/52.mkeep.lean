/-! the model's side: a packed life; the state -/
def RPk (r : Nat → Int32) (f : Nat) (T : TD) (S : LfS) : Prop := r f = l_g S 3 0 ∧ r (f + 1) = l_g S 3 1 ∧ r (f + 2) = nI (l_n S) ∧ r (f + 3) = l_g S 3 2 ∧ r (f + 4) = l_g S 3 3 ∧ r (f + 5) = l_g S 3 4 ∧ r (f + 6) = nI (l_fn S) ∧
  (∀ p, p < t_n T → r (f + 7 + p) = l_g S 4 p) ∧ (∀ p, p < t_n T → r (f + 7 + 8 + p) = l_g S 5 p) ∧ (∀ k, k < l_fn S → r (f + 7 + 16 + k) = l_g S 6 k) ∧ (∀ k, k < l_fn S → r (f + 7 + 16 + 6 + k) = l_g S 7 k)
theorem RPk.of {g : G2} {r : Nat → Int32} {f : Nat} {T : TD} {S : LfS} (h8 : t_n T ≤ 8) (hR : RMl g T S) (h : PKD g r f) : RPk r f T S := by
  obtain ⟨a1, a2, a3, a4, a5, a6, a7, a8, a9, a10, a11⟩ := h
  have h6 := hR.f6
  refine ⟨by rw [a1]; exact hR.yy, by rw [a2]; exact hR.key, by rw [a3]; exact hR.n, by rw [a4]; exact hR.aw, by rw [a5]; exact hR.de, by rw [a6]; exact hR.ma, by rw [a7]; exact hR.fn, fun p hp => ?_, fun p hp => ?_, fun k hk => ?_, fun k hk => ?_⟩
  · rw [a8 p (by omega)]; exact hR.ho p hp
  · rw [a9 p (by omega)]; exact hR.ba p hp
  · rw [a10 k (by omega)]; exact hR.fa k hk
  · rw [a11 k (by omega)]; exact hR.fb k hk
theorem RPk.cg {r r2 : Nat → Int32} {f f2 : Nat} {T : TD} {S : LfS} (h8 : t_n T ≤ 8) (h6 : l_fn S ≤ 6) (h : RPk r f T S) (e : ∀ j, j < 35 → r2 (f2 + j) = r (f + j)) : RPk r2 f2 T S := by
  obtain ⟨a1, a2, a3, a4, a5, a6, a7, a8, a9, a10, a11⟩ := h
  refine ⟨(e 0 (by decide)).trans a1, (e 1 (by decide)).trans a2, (e 2 (by decide)).trans a3, (e 3 (by decide)).trans a4, (e 4 (by decide)).trans a5, (e 5 (by decide)).trans a6, (e 6 (by decide)).trans a7, fun p hp => ?_, fun p hp => ?_, fun k hk => ?_, fun k hk => ?_⟩
  · rw [show f2 + 7 + p = f2 + (7 + p) by omega, e _ (by omega), show f + (7 + p) = f + 7 + p by omega]; exact a8 p hp
  · rw [show f2 + 7 + 8 + p = f2 + (7 + 8 + p) by omega, e _ (by omega), show f + (7 + 8 + p) = f + 7 + 8 + p by omega]; exact a9 p hp
  · rw [show f2 + 7 + 16 + k = f2 + (7 + 16 + k) by omega, e _ (by omega), show f + (7 + 16 + k) = f + 7 + 16 + k by omega]; exact a10 k hk
  · rw [show f2 + 7 + 16 + 6 + k = f2 + (7 + 16 + 6 + k) by omega, e _ (by omega), show f + (7 + 16 + 6 + k) = f + 7 + 16 + 6 + k by omega]; exact a11 k hk
/-- behind unpack: the life that was packed, if the tune still holds it -/
theorem RMl.unp {h : G2} {r : Nat → Int32} {f : Nat} {T : TD} {S : LfS} (h8 : t_n T ≤ 8) (h4 : l_n S ≤ 400) (h6 : l_fn S ≤ 6) (hp : PKD h r f) (hk : RPk r f T S) (s0 : ∀ i, i < l_n S → h 104 i = l_g S 0 i) (s1 : ∀ i, i < l_n S → h 105 i = l_g S 1 i) (s2 : ∀ i, i < l_n S → h 106 i = l_g S 2 i) : RMl h T S := by
  obtain ⟨a1, a2, a3, a4, a5, a6, a7, a8, a9, a10, a11⟩ := hp
  obtain ⟨b1, b2, b3, b4, b5, b6, b7, b8, b9, b10, b11⟩ := hk
  refine ⟨by rw [← a3]; exact b3, h4, s0, s1, s2, by rw [← a1]; exact b1, by rw [← a2]; exact b2, by rw [← a4]; exact b4, by rw [← a5]; exact b5, by rw [← a6]; exact b6, fun p hp => ?_, fun p hp => ?_, by rw [← a7]; exact b7, h6, fun k hk => ?_, fun k hk => ?_⟩
  · rw [← a8 p (by omega)]; exact b8 p hp
  · rw [← a9 p (by omega)]; exact b9 p hp
  · rw [← a10 k (by omega)]; exact b10 k hk
  · rw [← a11 k (by omega)]; exact b11 k hk
def RMa (g : G2) (z : Nat) (T : TD) (F : FS) : Prop := ∀ i, i < f_na F → RPk (g z) (35 * i) T (f_A F i)
def RMh (g : G2) (z w : Nat) (F : FS) : Prop := (∀ i, i < f_nh F → g z i = f_g F 0 i) ∧ (∀ i, i < f_nh F → g w i = f_g F 1 i)
def RMf (g : G2) (T : TD) (F : FS) : Prop := RMl g T (f_S F) ∧ g 84 37 = nI (f_na F) ∧ RMa g 103 T F ∧ g 84 38 = nI (f_nh F) ∧ RMh g 113 114 F ∧ RCu g 96 F
/-- what an act leaves of the model as it was -/
def FB (g h : G2) : Prop := (∀ y, (y < 84 ∨ (85 ≤ y ∧ y ≤ 95) ∨ y = 97 ∨ y = 98 ∨ y = 113 ∨ y = 114 ∨ 119 ≤ y) → h y = g y) ∧ ∀ j, ((15 ≤ j ∧ j ≤ 29) ∨ j = 38 ∨ j = 44 ∨ (58 ≤ j ∧ j ≤ 60)) → h 84 j = g 84 j
theorem FB.rf (g : G2) : FB g g := ⟨fun _ _ => rfl, fun _ _ => rfl⟩
theorem FB.tr {g h k : G2} (h1 : FB g h) (h2 : FB h k) : FB g k := ⟨fun y q => (h2.1 y q).trans (h1.1 y q), fun j q => (h2.2 j q).trans (h1.2 j q)⟩
theorem FD.fb {g h : G2} (h1 : FD g h) : FB g h := ⟨fun y q => h1.1 y (by omega), fun j q => h1.2 j (by omega)⟩
theorem FM.fb {g h : G2} (h1 : FM g h) : FB g h := ⟨fun y q => h1.1 y (by omega) (by omega) (by omega) (by omega) (by omega) (by omega), fun j q => h1.2 j (by omega) (by omega)⟩
theorem FB.fld {g : G2} (j0 : Nat) (x : Int32) (hj : j0 = 2 ∨ (30 ≤ j0 ∧ j0 ≤ 37)) : FB g (up2 g 84 j0 x) := ⟨fun y q => up2_f _ _ _ _ (by omega), fun j q => up2_k _ _ _ _ (by omega)⟩
theorem FB.st {g : G2} (k : Nat) (x : Int32) : FB g (up2 g 96 k x) := ⟨fun y q => up2_f _ _ _ _ (by omega), fun j q => up2_a _ _ _ _ (by decide) _⟩
theorem RMt.fb {g h : G2} {T : TD} (hT : RMt g T) (F : FB g h) : RMt h T := by
  unfold RMt at *
  rw [F.1 87 (by decide), F.1 88 (by decide), F.1 90 (by decide), F.1 97 (by decide), F.1 94 (by decide), F.1 95 (by decide)]
  exact hT
theorem RMa.cg {g h : G2} {z : Nat} {T : TD} {F : FS} (hA : RMa g z T F) (e : h z = g z) : RMa h z T F := by unfold RMa; rw [e]; exact hA
theorem RMh.cg {g h : G2} {z w : Nat} {F : FS} (hA : RMh g z w F) (e : h z = g z) (e2 : h w = g w) : RMh h z w F := by unfold RMh; rw [e, e2]; exact hA
theorem RMf.code {g : G2} {T : TD} {F : FS} {x : Int32} (h : RMf g T F) : RMf (up2 g 84 2 x) T F :=
  ⟨h.1.code, by rw [up2_k _ _ _ _ (by decide)]; exact h.2.1, h.2.2.1.cg (up2_f _ _ _ _ (by decide)), by rw [up2_k _ _ _ _ (by decide)]; exact h.2.2.2.1, h.2.2.2.2.1.cg (up2_f _ _ _ _ (by decide)) (up2_f _ _ _ _ (by decide)), h.2.2.2.2.2.cg (up2_f _ _ _ _ (by decide))⟩
theorem RMf.ref {g : G2} {T : TD} {F : FS} {k : Nat} (hk : k < 3) (h : RMf g T F) : RMf (up2 g 96 k (g 96 k + 1)) T (refF F k) := by
  refine ⟨h.1.cg (fun j _ _ => up2_a _ _ _ _ (by decide) _) (fun z z1 z2 _ => up2_f _ _ _ _ (by omega)), by rw [up2_a _ _ _ _ (by decide)]; exact h.2.1, RMa.cg h.2.2.1 (up2_f _ _ _ _ (by decide)), by rw [up2_a _ _ _ _ (by decide)]; exact h.2.2.2.1, ⟨fun i hi => ?_, fun i hi => ?_⟩, fun i hi => ?_⟩
  · show _ = up2 (f_g F) 2 k (f_g F 2 k + 1) 0 i
    rw [up2_a _ _ _ _ (by decide), up2_a _ _ _ _ (by decide)]; exact h.2.2.2.2.1.1 i hi
  · show _ = up2 (f_g F) 2 k (f_g F 2 k + 1) 1 i
    rw [up2_a _ _ _ _ (by decide), up2_a _ _ _ _ (by decide)]; exact h.2.2.2.2.1.2 i hi
  · show _ = up2 (f_g F) 2 k (f_g F 2 k + 1) 2 i
    by_cases e : i = k
    · subst e; rw [up2_s, up2_s, h.2.2.2.2.2 i hi]
    · rw [up2_k _ _ _ _ e, up2_k _ _ _ _ e]; exact h.2.2.2.2.2 i hi
theorem RCh.refF {g : G2} {c k : Nat} {F : FS} (h : RCh g c F) : RCh g c (refF F k) := by
  refine ⟨h.1, fun i hi => ?_, fun i hi => ?_⟩
  · show _ = up2 (f_g F) 2 k (f_g F 2 k + 1) 0 i
    rw [up2_a _ _ _ _ (by decide)]; exact h.2.1 i hi
  · show _ = up2 (f_g F) 2 k (f_g F 2 k + 1) 1 i
    rw [up2_a _ _ _ _ (by decide)]; exact h.2.2 i hi
/-- the acts kept, with this life's row behind them: not yet the new life -/
def RMk (g : G2) (T : TD) (F : FS) : Prop := g 84 37 = nI (f_na F + 1 - shF F) ∧ (∀ i, i < f_na F + 1 - shF F → RPk (g 103) (35 * i) T (f_at F (i + shF F))) ∧ g 84 38 = nI (f_nh F) ∧ RMh g 113 114 F ∧ RCu g 96 F
theorem RMf.push {g : G2} {T : TD} {F : FS} {R : LfS} (hR : RMl g T R) (h : RMk g T F) : RMf g T (pushF F R) := ⟨hR, h.1, h.2.1, h.2.2.1, h.2.2.2.1, h.2.2.2.2⟩
theorem RMk.cg {g h : G2} {T : TD} {F : FS} (hk : RMk g T F) (e37 : h 84 37 = g 84 37) (e38 : h 84 38 = g 84 38) (e1 : h 103 = g 103) (e2 : h 113 = g 113) (e3 : h 114 = g 114) (e4 : h 96 = g 96) : RMk h T F := by
  unfold RMk RMh RCu at *
  rw [e37, e38, e1, e2, e3, e4]; exact hk
theorem c_X12_keep {E : En} {d : Nat} {Q : QT} {X : XT} {g : G2} {T : TD} {F : FS} (h8 : t_n T ≤ 8) (hM : RMf g T F) (oF : okF T F) (hq : ∀ h, RMk h T F → RMl h T (f_S F) → FB g h → h 84 2 = g 84 2 → Q none h) : M E md_X12_keep (d + 1) [.ref 84] g Q X := by
  refine M.of _ rfl rfl (Nat.le_of_ble_eq_true rfl) ?_
  have h40 := oF.1
  have hsh := shF_ok h40
  refine b_aload_n dX12_keep_0 rfl rfl ?_
  refine b_getI lf_X12_338 rfl dX12_keep_1 ?_
  refine b_topE (y := nI (f_na F)) (hM.2.1) ?_
  refine b_bipush (v := 40) dX12_keep_4 (by decide +kernel) ?_
  refine b_icmp_ne (tgt := 52) dX12_keep_6 (by decide) (fun h6 => ?_) (fun h6 => ?_)
  · have e6 : (f_na F) ≠ 40 := fun q => h6 (congrArg nI q)
    have hs0 : shF F = 0 := by unfold shF; rw [if_pos (by omega)]
    have hM37 : g 84 37 = nI (f_na F - shF F) := by rw [hs0]; exact hM.2.1
    refine b_aload_n dX12_keep_52 rfl rfl ?_
    refine b_aload_n dX12_keep_53 rfl rfl ?_
    refine b_getR (b := 103) lf_X12_90 rfl rfl dX12_keep_54 ?_
    refine b_bipush (v := 35) dX12_keep_57 (by decide +kernel) ?_
    refine b_aload_n dX12_keep_59 rfl rfl ?_
    refine b_getI lf_X12_338 rfl dX12_keep_60 ?_
    refine b_topE (y := nI ((f_na F - shF F))) (hM37) ?_
    refine b_imul dX12_keep_63 ?_
    refine b_topE (nI_mul 35 ((f_na F - shF F))) ?_
    refine b_callV (As := [_, _]) (st := []) dX12_keep_64 lk_X12_387 lm_X12_pack lv_X12_pack rfl (by decide) rfl rfl rfl (Nat.le_of_ble_eq_true rfl) (Nat.le_refl _) (by decide) ?_
    refine c_X12_pack (z := 103) (n := 1400) (f := 35 * (f_na F - shF F)) rfl (by omega) (by decide) (by decide) (fun h2 pF pz pk => ?_)
    refine b_aload_n dX12_keep_67 rfl rfl ?_
    refine b_dup dX12_keep_68 rfl ?_
    refine b_getI lf_X12_338 rfl dX12_keep_69 ?_
    refine b_topE (y := nI ((f_na F - shF F))) (by rw [pF 84 (by decide)]; exact hM37) ?_
    refine b_iconst (v := 1) dX12_keep_72 (by decide +kernel) ?_
    refine b_iadd dX12_keep_73 ?_
    refine b_topE (nI_add ((f_na F - shF F)) 1) ?_
    refine b_putI lf_X12_338 lp_12_37 rfl dX12_keep_74 ?_
    refine b_vret rfl (by decide) dX12_keep_77 ?_
    have e84 : h2 84 = g 84 := pF 84 (by decide)
    refine hq _ ⟨by rw [up2_s]; exact congrArg nI (by omega), fun i hi => ?_, by rw [up2_k _ _ _ _ (by decide), e84]; exact hM.2.2.2.1, RMh.cg hM.2.2.2.2.1 (by rw [up2_f _ _ _ _ (by decide), pF 113 (by decide)]) (by rw [up2_f _ _ _ _ (by decide), pF 114 (by decide)]), RCu.cg hM.2.2.2.2.2 (by rw [up2_f _ _ _ _ (by decide), pF 96 (by decide)])⟩ (RMl.cg hM.1 (fun j j1 j2 => by rw [up2_k _ _ _ _ (by omega), e84]) (fun z z1 z2 z3 => by rw [up2_f _ _ _ _ (by omega), pF z z3])) ⟨fun y hy => by rw [up2_f _ _ _ _ (by omega), pF y (by omega)], fun j hj => by rw [up2_k _ _ _ _ (by omega), e84]⟩ (by rw [up2_k _ _ _ _ (by decide), e84])
    rw [up2_f _ _ _ _ (by decide)]
    by_cases e : i = f_na F - shF F
    · subst e
      rw [show f_na F - shF F + shF F = f_na F by omega, f_at_S]
      exact RPk.of h8 hM.1 pk
    · rw [f_at_A (by omega)]
      have h6A := (oF.A (i := i + shF F) (by omega)).2.2.2.2
      refine RPk.cg h8 h6A (hM.2.2.1 (i + shF F) (by omega)) (fun j hj => ?_)
      rw [pz _ (Or.inl (by omega))]
      rw [show shF F = 0 from hs0]; exact congrArg _ (by omega)
  · have e6 : (f_na F) = 40 := nI_inj (a := (f_na F)) (b := 40) (by omega) (by omega) h6
    have hs1 : shF F = 1 := by unfold shF; rw [if_neg (by omega)]
    have h40e : g 84 37 = nI 40 := by rw [← e6]; exact hM.2.1
    have LP : ∀ k, k ≤ 1400 → 35 ≤ k → ∀ h, (∀ y, y ≠ 103 → h y = g y) → (∀ j, j < k - 35 → h 103 j = g 103 (j + 35)) → (∀ j, k - 35 ≤ j → h 103 j = g 103 j) → B E md_X12_keep (d + 1) Q X 12 [(0, .ref 84), (1, .int (nI k))] [] h 0 := by
      refine lp_up (fun k hk ih h35 h hF hA hB => ?_)
      refine b_iload_n dX12_keep_12 rfl rfl ?_
      refine b_aload_n dX12_keep_13 rfl rfl ?_
      refine b_getR (b := 103) lf_X12_90 rfl rfl dX12_keep_14 ?_
      refine b_ilen (n := 1400) dX12_keep_17 rfl (by decide) ?_
      refine b_icmp_ge (tgt := 42) dX12_keep_18 (by decide) (fun h18 => ?_) (fun h18 => ?_)
      · have e18 : 1400 ≤ k := nn_le (a := 1400) (b := k) (by omega) (by omega) h18
        have e : k = 1400 := by omega
        subst e
        refine b_aload_n dX12_keep_42 rfl rfl ?_
        refine b_dup dX12_keep_43 rfl ?_
        refine b_getI lf_X12_338 rfl dX12_keep_44 ?_
        refine b_topE (y := nI 40) (by rw [hF 84 (by decide)]; exact h40e) ?_
        refine b_iconst (v := 1) dX12_keep_47 (by decide +kernel) ?_
        skip
        refine b_isub dX12_keep_48 ?_
        refine b_topE (nI_sub 40 1 (by omega)) ?_
        refine b_putI lf_X12_338 lp_12_37 rfl dX12_keep_49 ?_
        refine b_aload_n dX12_keep_52 rfl rfl ?_
        refine b_aload_n dX12_keep_53 rfl rfl ?_
        refine b_getR (b := 103) lf_X12_90 rfl rfl dX12_keep_54 ?_
        refine b_bipush (v := 35) dX12_keep_57 (by decide +kernel) ?_
        refine b_aload_n dX12_keep_59 rfl rfl ?_
        refine b_getI lf_X12_338 rfl dX12_keep_60 ?_
        refine b_topE (y := nI ((f_na F - shF F))) (by rw [up2_s]; exact congrArg nI (by omega)) ?_
        refine b_imul dX12_keep_63 ?_
        refine b_topE (nI_mul 35 ((f_na F - shF F))) ?_
        refine b_callV (As := [_, _]) (st := []) dX12_keep_64 lk_X12_387 lm_X12_pack lv_X12_pack rfl (by decide) rfl rfl rfl (Nat.le_of_ble_eq_true rfl) (Nat.le_refl _) (by decide) ?_
        refine c_X12_pack (z := 103) (n := 1400) (f := 35 * (f_na F - shF F)) rfl (by omega) (by decide) (by decide) (fun h2 pF pz pk => ?_)
        refine b_aload_n dX12_keep_67 rfl rfl ?_
        refine b_dup dX12_keep_68 rfl ?_
        refine b_getI lf_X12_338 rfl dX12_keep_69 ?_
        refine b_topE (y := nI ((f_na F - shF F))) (by rw [pF 84 (by decide)]; exact by rw [up2_s]; exact congrArg nI (by omega)) ?_
        refine b_iconst (v := 1) dX12_keep_72 (by decide +kernel) ?_
        refine b_iadd dX12_keep_73 ?_
        refine b_topE (nI_add ((f_na F - shF F)) 1) ?_
        refine b_putI lf_X12_338 lp_12_37 rfl dX12_keep_74 ?_
        refine b_vret rfl (by decide) dX12_keep_77 ?_
        have e84 : h2 84 = up2 h 84 37 (nI 39) 84 := pF 84 (by decide)
        refine hq _ ⟨by rw [up2_s]; exact congrArg nI (by omega), fun i hi => ?_, by rw [up2_k _ _ _ _ (by decide), e84]; exact (by rw [up2_k _ _ _ _ (by decide), hF 84 (by decide)]; exact hM.2.2.2.1), RMh.cg hM.2.2.2.2.1 (by rw [up2_f _ _ _ _ (by decide), pF 113 (by decide)]; exact (by rw [up2_f _ _ _ _ (by decide)]; exact hF 113 (by decide))) (by rw [up2_f _ _ _ _ (by decide), pF 114 (by decide)]; exact (by rw [up2_f _ _ _ _ (by decide)]; exact hF 114 (by decide))), RCu.cg hM.2.2.2.2.2 (by rw [up2_f _ _ _ _ (by decide), pF 96 (by decide)]; exact (by rw [up2_f _ _ _ _ (by decide)]; exact hF 96 (by decide)))⟩ (RMl.cg hM.1 (fun j j1 j2 => by rw [up2_k _ _ _ _ (by omega), e84]; exact (by rw [up2_k _ _ _ _ (by omega), hF 84 (by decide)])) (fun z z1 z2 z3 => by rw [up2_f _ _ _ _ (by omega), pF z z3]; exact (by rw [up2_f _ _ _ _ (by omega)]; exact hF z (by omega)))) ⟨fun y hy => by rw [up2_f _ _ _ _ (by omega), pF y (by omega)]; exact (by rw [up2_f _ _ _ _ (by omega)]; exact hF y (by omega)), fun j hj => by rw [up2_k _ _ _ _ (by omega), e84]; exact (by rw [up2_k _ _ _ _ (by omega), hF 84 (by decide)])⟩ (by rw [up2_k _ _ _ _ (by decide), e84]; exact (by rw [up2_k _ _ _ _ (by omega), hF 84 (by decide)]))
        rw [up2_f _ _ _ _ (by decide)]
        by_cases e : i = f_na F - shF F
        · subst e
          rw [show f_na F - shF F + shF F = f_na F by omega, f_at_S]
          exact RPk.of h8 (RMl.cg hM.1 (fun j j1 j2 => by rw [up2_k _ _ _ _ (by omega), hF 84 (by decide)]) (fun z z1 z2 z3 => by rw [up2_f _ _ _ _ (by omega)]; exact hF z z3)) pk
        · rw [f_at_A (by omega)]
          have h6A := (oF.A (i := i + shF F) (by omega)).2.2.2.2
          refine RPk.cg h8 h6A (hM.2.2.1 (i + shF F) (by omega)) (fun j hj => ?_)
          rw [pz _ (Or.inl (by omega))]
          rw [up2_f _ _ _ _ (by decide), hA _ (by omega), show shF F = 1 from hs1]; exact congrArg _ (by omega)
      · have e18 : k < 1400 := nn_nle (a := 1400) (b := k) (by omega) (by omega) h18
        refine b_aload_n dX12_keep_21 rfl rfl ?_
        refine b_getR (b := 103) lf_X12_90 rfl rfl dX12_keep_22 ?_
        refine b_iload_n dX12_keep_25 rfl rfl ?_
        refine b_bipush (v := 35) dX12_keep_26 (by decide +kernel) ?_
        refine b_isub dX12_keep_28 ?_
        refine b_topE (nI_sub k 35 (by omega)) ?_
        refine b_aload_n dX12_keep_29 rfl rfl ?_
        refine b_getR (b := 103) lf_X12_90 rfl rfl dX12_keep_30 ?_
        refine b_iload_n dX12_keep_33 rfl rfl ?_
        refine b_ildN (j := k) dX12_keep_34 (rfl) (by show _ < 1400; omega) ?_
        refine b_istN (j := (k - 35)) dX12_keep_35 (rfl) (by show _ < 1400; omega) ?_
        refine b_incN (j := k) (lv' := [(0, _), (1, _)]) dX12_keep_36 rfl rfl (by decide) rfl rfl ?_
        refine b_goto (tgt := 12) dX12_keep_39 (by decide) ?_
        refine ih (k + 1) (by omega) (by omega) (by omega) _ (fun y hy => by rw [up2_f _ _ _ _ hy]; exact hF y hy) (fun j hj => ?_) (fun j hj => ?_)
        · by_cases e : j = k - 35
          · subst e; rw [up2_s, hB k (by omega), show k - 35 + 35 = k by omega]
          · rw [up2_k _ _ _ _ e]; exact hA j (by omega)
        · rw [up2_k _ _ _ _ (by omega)]; exact hB j (by omega)
    refine b_bipush (v := 35) dX12_keep_9 (by decide +kernel) ?_
    refine b_istore_n (lv' := [(0, _), (1, _)]) dX12_keep_11 rfl (by decide) rfl rfl ?_
    exact LP 35 (by decide) (by decide) g (fun _ _ => rfl) (fun j hj => absurd hj (by omega)) (fun _ _ => rfl)
