/-! the other operations -/
def setF (s : WS) (F : FS) : WS := (s.T, F, s.im, s.I, s.m, s.f, s.fl)
theorem k_fault {E : En} {d : Nat} {Q : QT} {X : XT} {g : G2} {s : WS} (hC : CR g s) (hq : Q (some (.int s.fl)) g) : M E md_X11_fault d [.ref 0] g Q X := by
  obtain ⟨t, u, ht, hu, hne, h0, h1, hT, hc, him, hI, hp, hf⟩ := id hC
  refine c_X11_fault ?_
  rw [hf]; exact hq
theorem n_fault {E : En} {d : Nat} {Q : QT} {X : XT} {g : G2} {s : WS} (hM : MR g s) (hq : ∀ h, MR h s → LF g h → Q (some (.int s.fl)) h) : M E md_X12_fault d [.ref 84] g Q X := by
  refine c_X12_fault ?_
  rw [hM.2.2.2.2.2.2]
  exact hq _ hM.code LF.code
def triV (s : WS) : Int32 := nI (cntN (rsP (l_g (f_S s.F) 0) 0 6) (l_n (f_S s.F)))
theorem k_tritones {E : En} {d : Nat} {Q : QT} {X : XT} {g : G2} {s : WS} (hC : CR g s) (hq : Q (some (.int (triV s))) g) : M E md_X11_tritones (d + 2) [.ref 0] g Q X := by
  obtain ⟨t, u, ht, hu, hne, h0, h1, hT, hc, him, hI, hp, hf⟩ := id hC
  refine c_X11_tritones hc.1.1 hc.1.2.1 ?_
  unfold triV at hq
  rw [cntN_cg (rsP_cg (f := g 32) (f2 := l_g (f_S s.F) 0) hc.1.2.2.1)]
  exact hq
theorem n_tritones {E : En} {d : Nat} {Q : QT} {X : XT} {g : G2} {s : WS} (hM : MR g s) (hO : OKs s) (hq : ∀ h, MR h s → LF g h → Q (some (.int (triV s))) h) : M E md_X12_tritones (d + 3) [.ref 84] g Q X := by
  have hl := hM.2.1.1
  have o := hO.2.1.S.1
  refine c_X12_tritones hl.1 hl.2.1 ?_
  unfold triV at hq
  rw [cntN_cg (tr_rs (f := g 104) (s := 0) (fun i hi => by rw [hl.2.2.1 i hi]; exact o.2.1 i hi)), cntN_cg (rsP_cg (f := g 104) (f2 := l_g (f_S s.F) 0) hl.2.2.1)]
  exact hq _ hM.code LF.code
def pldV (s : WS) : Int32 := palM (l_g (f_S s.F) 0) (l_n (f_S s.F)) (l_n (f_S s.F))
theorem k_palindrome {E : En} {d : Nat} {Q : QT} {X : XT} {g : G2} {s : WS} (hC : CR g s) (hq : Q (some (.int (pldV s))) g) : M E md_X11_palindrome (d + 1) [.ref 0] g Q X := by
  obtain ⟨t, u, ht, hu, hne, h0, h1, hT, hc, him, hI, hp, hf⟩ := id hC
  refine c_X11_palindrome hc.1.1 hc.1.2.1 ?_
  unfold pldV at hq
  rw [palM_cg (f := g 32) (f2 := l_g (f_S s.F) 0) hc.1.2.2.1 _ (Nat.le_refl _)]
  exact hq
theorem n_palindrome {E : En} {d : Nat} {Q : QT} {X : XT} {g : G2} {s : WS} (hM : MR g s) (hq : ∀ h, MR h s → LF g h → Q (some (.int (pldV s))) h) : M E md_X12_palindrome (d + 1) [.ref 84] g Q X := by
  have hl := hM.2.1.1
  refine c_X12_palindrome hl.1 hl.2.1 ?_
  unfold pldV at hq
  rw [palM_cg (f := g 104) (f2 := l_g (f_S s.F) 0) hl.2.2.1 _ (Nat.le_refl _)]
  exact hq _ hM.code LF.code
def tonV (s : WS) : Int32 := (tnM (fun v => cntN (tmP (l_g (f_S s.F) 0) (nI v) 0) (l_n (f_S s.F))) 12).1
theorem k_tonic {E : En} {d : Nat} {Q : QT} {X : XT} {g : G2} {s : WS} (hC : CR g s) (hq : Q (some (.int (tonV s))) g) : M E md_X11_tonic (d + 1) [.ref 0] g Q X := by
  obtain ⟨t, u, ht, hu, hne, h0, h1, hT, hc, him, hI, hp, hf⟩ := id hC
  refine c_X11_tonic hc.1.1 hc.1.2.1 ?_
  unfold tonV at hq
  rw [show (fun v => cntN (tmP (g 32) (nI v) 0) (l_n (f_S s.F))) = (fun v => cntN (tmP (l_g (f_S s.F) 0) (nI v) 0) (l_n (f_S s.F))) from funext fun v => tmP_cg hc.1.2.2.1]
  exact hq
theorem n_tonic {E : En} {d : Nat} {Q : QT} {X : XT} {g : G2} {s : WS} (hM : MR g s) (hq : ∀ h, MR h s → LF g h → Q (some (.int (tonV s))) h) : M E md_X12_tonic (d + 1) [.ref 84] g Q X := by
  have hl := hM.2.1.1
  refine c_X12_tonic hl.1 hl.2.1 ?_
  unfold tonV at hq
  rw [show (fun v => cntN (tmP (g 104) (nI v) 0) (l_n (f_S s.F))) = (fun v => cntN (tmP (l_g (f_S s.F) 0) (nI v) 0) (l_n (f_S s.F))) from funext fun v => tmP_cg hl.2.2.1]
  exact hq _ hM.code LF.code
theorem k_match {E : En} {d : Nat} {Q : QT} {X : XT} {g : G2} {s : WS} (hC : CR g s) (hO : OKs s) (hq : ∀ h, CR h s → HF g h → Q (some (.int (mtO s.T (f_S s.F) (t_n s.T)).1)) h) : M E md_X11_match (d + 6) [.ref 0] g Q X := by
  obtain ⟨t, u, ht, hu, hne, h0, h1, hT, hc, him, hI, hp, hf⟩ := id hC
  exact c_X11_match ht h0 hc.1 hT hO.1 hO.2.1.S.2.2.1 (fun h F => hq h (hC.fc F) (FC.fl F).hf)
theorem n_match {E : En} {d : Nat} {Q : QT} {X : XT} {g : G2} {s : WS} (hM : MR g s) (hO : OKs s) (hq : ∀ h, MR h s → LF g h → Q (some (.int (mtO s.T (f_S s.F) (t_n s.T)).1)) h) : M E md_X12_match (d + 7) [.ref 84] g Q X :=
  c_X12_match hM.2.1.1 hM.1 hM.2.2.1 hO.1 hO.2.1.S (fun h F R _ => hq h (hM.fd F R) F.fn.lf)
theorem k_vote {E : En} {d : Nat} {Q : QT} {X : XT} {g : G2} {s : WS} (hC : CR g s) (hO : OKs s) (hq : Q (some (.int (voM s.T (f_S s.F) (t_n s.T)))) g) : M E md_X11_vote (d + 1) [.ref 0] g Q X := by
  obtain ⟨t, u, ht, hu, hne, h0, h1, hT, hc, him, hI, hp, hf⟩ := id hC
  exact c_X11_vote ht h0 hc.1 hT hO.2.1.S hq
theorem n_vote {E : En} {d : Nat} {Q : QT} {X : XT} {g : G2} {s : WS} (hM : MR g s) (hO : OKs s) (hq : ∀ h, MR h s → LF g h → Q (some (.int (voM s.T (f_S s.F) (t_n s.T)))) h) : M E md_X12_vote (d + 2) [.ref 84] g Q X :=
  c_X12_vote hM.2.1.1 hM.1 hO.2.1.S (fun h F R _ => hq h (hM.fd F R) F.fn.lf)
/-! forget -/
def forF (F : FS) : FS := (f_S F, f_na F, f_A F, 0, f_g F)
theorem okF.forg {T : TD} {F : FS} (h : okF T F) : okF T (forF F) := ⟨h.1, by show 0 ≤ 8; decide, h.2.2.1, h.2.2.2.1, fun i hi => absurd hi (Nat.not_lt_zero _)⟩
theorem k_forget {E : En} {d : Nat} {Q : QT} {X : XT} {g : G2} {s : WS} (hC : CR g s) (hq : ∀ h, CR h (setF s (forF s.F)) → HF g h → Q none h) : M E md_X11_forget d [.ref 0] g Q X := by
  obtain ⟨t, u, ht, hu, hne, h0, h1, hT, hc, him, hI, hp, hf⟩ := id hC
  have e : ∀ y, y ≠ 65 → up2 g 65 2 0 y = g y := fun y q => up2_f _ _ _ _ q
  have hF : FL g (up2 g 65 2 0) := fun y _ b => e y (fun q => b (by unfold lvC; omega))
  exact c_X11_forget (hq _ (hC.upd hF ⟨hc.1.cga (fun y a b => e y (by omega)), hc.2.1.cg (e 61 (by decide)) (e 62 (by decide)), ⟨up2_s _ _ _ _, fun i hi => absurd hi (Nat.not_lt_zero _), fun i hi => absurd hi (Nat.not_lt_zero _)⟩, hc.2.2.2.cg (e 71 (by decide))⟩) hF.hf)
theorem n_forget {E : En} {d : Nat} {Q : QT} {X : XT} {g : G2} {s : WS} (hM : MR g s) (hq : ∀ h, MR h (setF s (forF s.F)) → LF g h → Q none h) : M E md_X12_forget d [.ref 84] g Q X := by
  obtain ⟨hT, ⟨a0, a1, a2, a3, a4, a5⟩, h44, h58, hI, hq0, hf⟩ := id hM
  have e : ∀ y, y ≠ 84 → up2 (up2 g 84 2 0) 84 38 0 y = g y := fun y q => by rw [up2_f _ _ _ _ q, up2_f _ _ _ _ q]
  have e4 : ∀ j, j ≠ 2 → j ≠ 38 → up2 (up2 g 84 2 0) 84 38 0 84 j = g 84 j := fun j a b => by rw [up2_k _ _ _ _ b, up2_k _ _ _ _ a]
  have hF : FN g (up2 (up2 g 84 2 0) 84 38 0) := ⟨fun y q => e y (by omega), fun j q => e4 j (by omega) (by omega)⟩
  refine c_X12_forget (hq _ (hM.upd hF ⟨?_, ?_, ?_, up2_s _ _ _ _, ⟨fun i hi => absurd hi (Nat.not_lt_zero _), fun i hi => absurd hi (Nat.not_lt_zero _)⟩, ?_⟩) hF.lf)
  · obtain ⟨b1, b2, b3, b4, b5, b6, b7, b8, b9, b10, b11, b12, b13, b14, b15, b16⟩ := a0
    refine ⟨?_, b2, ?_, ?_, ?_, ?_, ?_, ?_, ?_, ?_, ?_, ?_, ?_, b14, ?_, ?_⟩
    · rw [e4 32 (by decide) (by decide)]; exact b1
    · rw [e 104 (by decide)]; exact b3
    · rw [e 105 (by decide)]; exact b4
    · rw [e 106 (by decide)]; exact b5
    · rw [e4 30 (by decide) (by decide)]; exact b6
    · rw [e4 31 (by decide) (by decide)]; exact b7
    · rw [e4 33 (by decide) (by decide)]; exact b8
    · rw [e4 34 (by decide) (by decide)]; exact b9
    · rw [e4 35 (by decide) (by decide)]; exact b10
    · rw [e 99 (by decide)]; exact b11
    · rw [e 100 (by decide)]; exact b12
    · rw [e4 36 (by decide) (by decide)]; exact b13
    · rw [e 101 (by decide)]; exact b15
    · rw [e 102 (by decide)]; exact b16
  · rw [e4 37 (by decide) (by decide)]; exact a1
  · unfold RMa; rw [e 103 (by decide)]; exact a2
  · unfold RCu; rw [e 96 (by decide)]; exact a5
/-! image, restore -/
def imgS (s : WS) : WS := (s.T, s.F, true, s.F, s.m, s.f, s.fl)
theorem k_image {E : En} {d : Nat} {Q : QT} {X : XT} {g : G2} {s : WS} (hC : CR g s) (hO : OKs s) (hq : ∀ h, CR h (imgS s) → HF g h → Q none h) : M E md_X11_image (d + 3) [.ref 0] g Q X := by
  obtain ⟨t, u, ht, hu, hne, h0, h1, hT, hc, him, hI, hp, hf⟩ := id hC
  have ht5 : t = 5 ∨ t = 18 := ht
  refine c_X11_image hO.1.1 hO.2.1 hc (fun h R h72 e => hq h ⟨t, u, ht, hu, hne, ?_, ?_, hT.cgs (fun y a b => e y (by unfold imC; omega)), hc.cgl (fun y hy => e y (by unfold lvC at hy; unfold imC; omega)), h72, fun _ => R, hp.cg (e 3 (by unfold imC; omega)) (e 4 (by unfold imC; omega)), ?_⟩ (fun y hy => e y (by unfold imC; omega)))
  · rw [e 0 (by unfold imC; omega)]; exact h0
  · rw [e 1 (by unfold imC; omega)]; exact h1
  · rw [e 1 (by unfold imC; omega)]; exact hf
theorem n_image {E : En} {d : Nat} {Q : QT} {X : XT} {g : G2} {s : WS} (hM : MR g s) (hO : OKs s) (hq : ∀ h, MR h (imgS s) → LF g h → Q none h) : M E md_X12_image (d + 2) [.ref 84] g Q X := by
  obtain ⟨hT, ⟨a0, a1, a2, a3, a4, a5⟩, h44, h58, hI, hq0, hf⟩ := id hM
  refine c_X12_image hO.1.1 hO.2.1 hM.2.1 (fun h R h1 h2 e e4 => hq h ⟨hT.cga (fun y a b c => e y (by omega) (by omega)), ⟨?_, ?_, ?_, ?_, ?_, ?_⟩, ?_, h1, fun _ => R, hq0.cg (e4 15 (by omega)) (e 98 (by omega) (by omega)), ?_⟩ (fun y hy => e y (by omega) (by omega)))
  · obtain ⟨b1, b2, b3, b4, b5, b6, b7, b8, b9, b10, b11, b12, b13, b14, b15, b16⟩ := a0
    refine ⟨?_, b2, ?_, ?_, ?_, ?_, ?_, ?_, ?_, ?_, ?_, ?_, ?_, b14, ?_, ?_⟩
    · rw [e4 32 (by omega)]; exact b1
    · rw [e 104 (by decide) (by decide)]; exact b3
    · rw [e 105 (by decide) (by decide)]; exact b4
    · rw [e 106 (by decide) (by decide)]; exact b5
    · rw [e4 30 (by omega)]; exact b6
    · rw [e4 31 (by omega)]; exact b7
    · rw [e4 33 (by omega)]; exact b8
    · rw [e4 34 (by omega)]; exact b9
    · rw [e4 35 (by omega)]; exact b10
    · rw [e 99 (by decide) (by decide)]; exact b11
    · rw [e 100 (by decide) (by decide)]; exact b12
    · rw [e4 36 (by omega)]; exact b13
    · rw [e 101 (by decide) (by decide)]; exact b15
    · rw [e 102 (by decide) (by decide)]; exact b16
  · rw [e4 37 (by omega)]; exact a1
  · unfold RMa; rw [e 103 (by decide) (by decide)]; exact a2
  · rw [e4 38 (by omega)]; exact a3
  · unfold RMh; rw [e 113 (by decide) (by decide), e 114 (by decide) (by decide)]; exact a4
  · unfold RCu; rw [e 96 (by decide) (by decide)]; exact a5
  · rw [e4 44 (by omega)]; exact h44
  · rw [e4 24 (by omega)]; exact hf
def resO (s : WS) : OR := if s.im = true then (0, 1, setF s s.I) else (0, 0, s)
theorem k_restore {E : En} {d : Nat} {Q : QT} {X : XT} {g : G2} {s : WS} (hC : CR g s) (hO : OKs s) (hq : KQ Q X g (resO s) nsN) : M E md_X11_restore (d + 3) [.ref 0] g Q X := by
  obtain ⟨t, u, ht, hu, hne, h0, h1, hT, hc, him, hI, hp, hf⟩ := id hC
  unfold resO at hq
  by_cases q : s.im = true
  · rw [if_pos q] at hq
    exact c_X11_restore1 hO.1.1 (hO.2.2.1 q) (by rw [him, q]; rfl) (hI q) (fun h R F => hq.1 h (hC.upd F R) F.hf rfl)
  · rw [if_neg q] at hq
    exact c_X11_restore0 (by rw [him, show s.im = false by simpa using q]; rfl) (hq.1 g hC (fun _ _ => rfl) rfl)
theorem n_restore {E : En} {d : Nat} {Q : QT} {X : XT} {g : G2} {s : WS} (hM : MR g s) (hO : OKs s) (hq : NQ Q g (resO s)) : M E md_X12_restore (d + 2) [.ref 84] g Q X := by
  obtain ⟨hT, hF, h44, h58, hI, hq0, hf⟩ := id hM
  unfold resO at hq
  by_cases q : s.im = true
  · rw [if_pos q] at hq
    exact c_X12_restore1 hO.1.1 (hO.2.2.1 q) (by rw [h58, q]; rfl) (hI q) (fun h R F z => hq h _ (hM.upd F R) F.lf z (fun _ => rfl))
  · rw [if_neg q] at hq
    exact c_X12_restore0 (by rw [h58, show s.im = false by simpa using q]; rfl) (hq _ _ hM.code LF.code (up2_s _ _ _ _) (fun _ => rfl))
/-! feed -/
theorem RMl.cgz {g h : G2} {T : TD} {S : LfS} (hR : RMl g T S) (e : ∀ y, 99 ≤ y → y ≤ 106 → h y = g y) (e4 : ∀ j, 30 ≤ j → j ≤ 36 → h 84 j = g 84 j) : RMl h T S := by
  unfold RMl
  rw [e4 32 (by decide) (by decide), e4 30 (by decide) (by decide), e4 31 (by decide) (by decide), e4 33 (by decide) (by decide), e4 34 (by decide) (by decide), e4 35 (by decide) (by decide), e4 36 (by decide) (by decide), e 99 (by decide) (by decide), e 100 (by decide) (by decide), e 101 (by decide) (by decide), e 102 (by decide) (by decide), e 104 (by decide) (by decide), e 105 (by decide) (by decide), e 106 (by decide) (by decide)]
  exact hR
theorem MR.tape {g h : G2} {s : WS} {m : Nat} {f : Nat → Nat} (hM : MR g s) (e : ∀ y, y ≠ 84 → y ≠ 98 → h y = g y) (e4 : ∀ j, j ≠ 15 → j ≠ 2 → h 84 j = g 84 j) (hT : RTq h m f) : MR h (s.T, s.F, s.im, s.I, m, f, s.fl) := by
  obtain ⟨b0, ⟨a0, a1, a2, a3, a4, a5⟩, h44, h58, hI, hq0, hf⟩ := hM
  refine ⟨b0.cga (fun y a b c => e y (by omega) (by omega)), ⟨a0.cgz (fun y a b => e y (by omega) (by omega)) (fun j a b => e4 j (by omega) (by omega)), by rw [e4 37 (by decide) (by decide)]; exact a1, ?_, by rw [e4 38 (by decide) (by decide)]; exact a3, ?_, ?_⟩, by rw [e4 44 (by decide) (by decide)]; exact h44, by rw [e4 58 (by decide) (by decide)]; exact h58, fun q => (hI q).cga (fun y a => e y (by omega) (by omega)) (e4 59 (by decide) (by decide)) (e4 60 (by decide) (by decide)), hT, by rw [e4 24 (by decide) (by decide)]; exact hf⟩
  · unfold RMa; rw [e 103 (by decide) (by decide)]; exact a2
  · unfold RMh; rw [e 113 (by decide) (by decide), e 114 (by decide) (by decide)]; exact a4
  · unfold RCu; rw [e 96 (by decide) (by decide)]; exact a5
def fedO (s : WS) (a b c e x : Int32) : OR := if s.m + 20 ≤ 600 then (0, nI (s.m + 20), (s.T, s.F, s.im, s.I, s.m + 20, fd5 s.f s.m a b c e x, s.fl)) else (0, -1, s)
theorem k_feed {E : En} {d : Nat} {Q : QT} {X : XT} {g : G2} {s : WS} {a b c e x : Int32} (hC : CR g s) (hO : OKs s) (hq : KQ Q X g (fedO s a b c e x) nsN) : M E md_X11_feed (d + 1) [.ref 0, .int a, .int b, .int c, .int e, .int x] g Q X := by
  obtain ⟨t, u, ht, hu, hne, h0, h1, hT, hc, him, hI, hp, hf⟩ := id hC
  have ht5 : t = 5 ∨ t = 18 := ht
  unfold fedO at hq
  refine c_X11_feed hp hO.2.2.2 (fun q => ?_) (fun q h e1 e2 T5 => ?_)
  · rw [if_neg (by omega)] at hq
    exact hq.1 g hC (fun _ _ => rfl) rfl
  · rw [if_pos q] at hq
    exact hq.1 h ⟨t, u, ht, hu, hne, by rw [e1 0 (by decide) (by decide)]; exact h0, by rw [e1 1 (by decide) (by decide)]; exact h1, hT.cgs (fun y a b => e1 y (by omega) (by omega)), hc.cgl (fun y hy => e1 y (by unfold lvC at hy; omega) (by unfold lvC at hy; omega)), by rw [e1 72 (by decide) (by decide)]; exact him, fun q => (hI q).cgi (fun y hy => e1 y (by unfold imC at hy; omega) (by unfold imC at hy; omega)), T5, by rw [e1 1 (by decide) (by decide)]; exact hf⟩ (fun y hy => e1 y (by omega) (by omega)) rfl
theorem n_feed {E : En} {d : Nat} {Q : QT} {X : XT} {g : G2} {s : WS} {a b c e x : Int32} (hM : MR g s) (hO : OKs s) (hq : NQ Q g (fedO s a b c e x)) : M E md_X12_feed d [.ref 84, .int a, .int b, .int c, .int e, .int x] g Q X := by
  obtain ⟨hT, hF, h44, h58, hI, hq0, hf⟩ := id hM
  unfold fedO at hq
  refine c_X12_feed hq0 hO.2.2.2 (fun q => ?_) (fun q h e1 e2 z T5 => ?_)
  · rw [if_neg (by omega)] at hq
    exact hq _ _ hM.code LF.code (up2_s _ _ _ _) (fun _ => rfl)
  · rw [if_pos q] at hq
    exact hq h _ (hM.tape e1 e2 T5) (fun y hy => e1 y (by omega) (by omega)) z (fun _ => rfl)
/-! town -/
theorem okN_iff {x : Int32} {m : Nat} (hm : m ≤ 600) : okN x m ↔ (¬ x < 0 ∧ x ≤ nI m) := ⟨fun h => ⟨fun q => okN_no hm (Or.inl q) h, Decidable.byContradiction (fun q => okN_no hm (Or.inr q) h)⟩, fun h => okN_of hm h.1 h.2⟩
def twO (s : WS) (x : Int32) : OR :=
  if ¬ x < 0 ∧ x ≤ nI s.m then
    (if (twL s.f x.toNatClampNeg).b = 0 then (0, 0, (twT (twL s.f x.toNatClampNeg).s, begF (twT (twL s.f x.toNatClampNeg).s) s.F, false, s.I, 0, s.f, -1))
     else (0, nI (twL s.f x.toNatClampNeg).b, (s.T, refF s.F 0, s.im, s.I, 0, s.f, nI (twL s.f x.toNatClampNeg).p)))
  else (1, 0, s)
theorem twO_n {s : WS} {x : Int32} (hm : s.m ≤ 600) (h : ¬ okN x s.m) : twO s x = (1, 0, s) := if_neg (fun q => h ((okN_iff hm).mpr q))
theorem twO_y {s : WS} {n : Nat} (hm : s.m ≤ 600) (h : n ≤ s.m) : twO s (nI n) = (if (twL s.f n).b = 0 then (0, 0, (twT (twL s.f n).s, begF (twT (twL s.f n).s) s.F, false, s.I, 0, s.f, -1)) else (0, nI (twL s.f n).b, (s.T, refF s.F 0, s.im, s.I, 0, s.f, nI (twL s.f n).p))) := by
  unfold twO
  rw [if_pos ((okN_iff hm).mp ⟨n, h, rfl⟩), nI_cl (by omega)]
theorem RCu.rf0 {g h : G2} {z : Nat} {F : FS} (hU : RCu g z F) (e : h z = upd (g z) 0 (g z 0 + 1)) : RCu h z (refF F 0) := by
  intro i hi
  rw [e]
  show _ = up2 (f_g F) 2 0 (f_g F 2 0 + 1) 2 i
  by_cases q : i = 0
  · subst q; rw [upd_s, up2_s, hU 0 hi]
  · rw [upd_k _ _ q, up2_k _ _ _ _ q]; exact hU i hi
theorem rf0_o {F : FS} {r i : Nat} (h : r ≠ 2) : f_g (refF F 0) r i = f_g F r i := up2_a (f_g F) 2 0 _ h i
theorem k_town {E : En} {d : Nat} {Q : QT} {X : XT} {g : G2} {s : WS} {x : Int32} (hC : CR g s) (hO : OKs s) (hq : KQ Q X g (twO s x) iaN) : M E md_X11_town (d + 10) [.ref 0, .int x] g Q X := by
  obtain ⟨t, u, ht, hu, hne, h0, h1, hT, hc, him, hI, hp, hf⟩ := id hC
  have ht5 : t = 5 ∨ t = 18 := ht
  have hu5 : u = 5 ∨ u = 18 := hu
  refine c_X11_town (F0 := s.F) ht hu hne h0 h1 hp hO.2.2.2 hc.2.2.2 (fun q => ?_) (fun n ex hn hb hOL h e1 e2 e3 e4 e5 e6 e7 e8 => ?_) (fun n ex hn hb h e1 e2 e3 e4 e5 => ?_)
  · rw [twO_n hO.2.2.2 q] at hq
    exact hq.2.1 g hC (fun _ _ => rfl) rfl
  · subst ex
    rw [twO_y hO.2.2.2 hn, if_pos hb] at hq
    exact hq.1 h ⟨u, t, hu, ht, fun q => hne q.symm, e2, e3, e6, e7, e8, fun q => (by cases q), ⟨e4, fun i hi => absurd hi (Nat.not_lt_zero _)⟩, e5⟩ e1 rfl
  · subst ex
    rw [twO_y hO.2.2.2 hn, if_neg hb] at hq
    refine hq.1 h ⟨t, u, ht, hu, hne, ?_, e2, hT.cgs (fun y a b => e1 y (by omega) (by omega) (by omega) (by omega) (by omega)), ⟨hc.1.cga (fun y a b => e1 y (by omega) (by omega) (by omega) (by omega) (by omega)), ?_, ?_, hc.2.2.2.rf0 e5⟩, ?_, fun q => (hI q).cgi (fun y hy => e1 y (by unfold imC at hy; omega) (by unfold imC at hy; omega) (by unfold imC at hy; omega) (by unfold imC at hy; omega) (by unfold imC at hy; omega)), ⟨e3, fun i hi => absurd hi (Nat.not_lt_zero _)⟩, e4⟩ (fun y hy => e1 y (by omega) (by omega) (by omega) (by omega) (by omega)) rfl
    · rw [e1 0 (by decide) (by decide) (by decide) (by decide) (by omega)]; exact h0
    · exact hc.2.1.cg (e1 61 (by decide) (by decide) (by decide) (by decide) (by omega)) (e1 62 (by decide) (by decide) (by decide) (by decide) (by omega))
    · have hh := hc.2.2.1.cg (e1 65 (by decide) (by decide) (by decide) (by decide) (by omega)) (e1 66 (by decide) (by decide) (by decide) (by decide) (by omega)) (e1 67 (by decide) (by decide) (by decide) (by decide) (by omega))
      exact ⟨hh.1, fun i hi => (hh.2.1 i hi).trans (rf0_o (by decide)).symm, fun i hi => (hh.2.2 i hi).trans (rf0_o (by decide)).symm⟩
    · rw [e1 72 (by decide) (by decide) (by decide) (by decide) (by omega)]; exact him
theorem n_town {E : En} {d : Nat} {Q : QT} {X : XT} {g : G2} {s : WS} {x : Int32} (hM : MR g s) (hO : OKs s) (hq : NQ Q g (twO s x)) : M E md_X12_town (d + 50) [.ref 84, .int x] g Q X := by
  obtain ⟨hT, ⟨a0, a1, a2, a3, a4, a5⟩, h44, h58, hI, hq0, hf⟩ := id hM
  refine c_X12_town (F0 := s.F) hq0 hO.2.2.2 a5 (fun q => ?_) (fun n ex hn hb hOL h e1 e2 e3 e4 e5 e6 e7 e8 => ?_) (fun n ex hn hb h e1 e2 e3 e4 e5 e6 e7 => ?_)
  · rw [twO_n hO.2.2.2 q] at hq
    exact hq _ _ hM.code LF.code (up2_s _ _ _ _) (fun q => by cases q)
  · subst ex
    rw [twO_y hO.2.2.2 hn, if_pos hb] at hq
    exact hq h _ ⟨e6, e7, e5.trans h44, e8, fun q => (by cases q), ⟨e3, fun i hi => absurd hi (Nat.not_lt_zero _)⟩, e4⟩ e1 e2 (fun _ => rfl)
  · subst ex
    rw [twO_y hO.2.2.2 hn, if_neg hb] at hq
    have e : ∀ y, 97 ≤ y → h y = g y := fun y hy => e1 y (by omega) (by omega) (by omega)
    have k2 := e2
    refine hq h _ ⟨?_, ⟨a0.cgz (fun y a b => e y (by omega)) (fun j a b => e3 j (by omega)), by rw [e3 37 (by omega)]; exact a1, ?_, by rw [e3 38 (by omega)]; exact a3, ?_, a5.rf0 e7⟩, by rw [e3 44 (by omega)]; exact h44, by rw [e3 58 (by omega)]; exact h58, fun q => (hI q).cga (fun y a => e y (by omega)) (e3 59 (by omega)) (e3 60 (by omega)), ⟨e5, fun i hi => absurd hi (Nat.not_lt_zero _)⟩, e6⟩ (fun y hy => e1 y (by omega) (by omega) (by omega)) e4 (fun _ => rfl)
    · obtain ⟨b1, b2, b3, b4, b5, b6, b7, b8, b9, b10, b11⟩ := hT
      refine ⟨?_, b2, ?_, b4, ?_, b6, fun p hp => ?_, fun p hp => ?_, ?_, fun i hi => ?_, fun i hi => ?_⟩
      · rw [e2 87 (by decide) (by decide) 0 (by decide)]; exact b1
      · rw [e2 87 (by decide) (by decide) 2 (by decide)]; exact b3
      · rw [e2 87 (by decide) (by decide) 4 (by decide)]; exact b5
      · have hp : p < t_n s.T := hp
        rw [e2 88 (by decide) (by decide) p (by show p < 8; omega)]; exact b7 p hp
      · have hp : p < t_n s.T := hp
        rw [e2 90 (by decide) (by decide) p (by show p < 8; omega)]; exact b8 p hp
      · rw [e 97 (by decide)]; exact b9
      · have hi : i < t_on s.T := hi
        rw [e2 94 (by decide) (by decide) i (by show i < 24; omega)]; exact b10 i hi
      · have hi : i < t_rn s.T := hi
        rw [e2 95 (by decide) (by decide) i (by show i < 600; omega)]; exact b11 i hi
    · unfold RMa; rw [e 103 (by decide)]; exact a2
    · unfold RMh at a4 ⊢; rw [e 113 (by decide), e 114 (by decide)]
      exact ⟨fun i hi => (a4.1 i hi).trans (rf0_o (by decide)).symm, fun i hi => (a4.2 i hi).trans (rf0_o (by decide)).symm⟩
theorem ok_town {s : WS} {x : Int32} (hO : OKs s) : OKs (twO s x).2.2 := by
  by_cases q : okN x s.m
  · obtain ⟨n, hn, rfl⟩ := q
    have hm := hO.2.2.2
    rw [twO_y hO.2.2.2 hn]
    split
    · rename_i hb
      have hL := lns_ok (f := s.f) (n := n) (by omega) 600 (s0L_ok s.f n) (by omega) hb
      exact ⟨okT_tw hL, okF_beg hL, fun q => (by cases q), by show 0 ≤ 600; decide⟩
    · exact ⟨hO.1, hO.2.1.ref, hO.2.2.1, by show 0 ≤ 600; decide⟩
  · rw [twO_n hO.2.2.2 q]; exact hO
theorem ok_feed {s : WS} {a b c e x : Int32} (hO : OKs s) : OKs (fedO s a b c e x).2.2 := by
  unfold fedO
  split
  · rename_i q; exact ⟨hO.1, hO.2.1, hO.2.2.1, q⟩
  · exact hO
theorem ok_restore {s : WS} (hO : OKs s) : OKs (resO s).2.2 := by
  unfold resO
  split
  · rename_i q; exact ⟨hO.1, hO.2.2.1 q, hO.2.2.1, hO.2.2.2⟩
  · exact hO
theorem ok_image {s : WS} (hO : OKs s) : OKs (imgS s) := ⟨hO.1, hO.2.1, fun _ => hO.2.1, hO.2.2.2⟩
theorem ok_act {s : WS} {F : FS} (hO : OKs s) (h : okF s.T F) : OKs (setF s F) := ⟨hO.1, h, hO.2.2.1, hO.2.2.2⟩
