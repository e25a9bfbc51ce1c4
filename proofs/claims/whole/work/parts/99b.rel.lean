/-! THE WHOLE STATE: the town told, the state of it, the image, the tape, the fault's place -/
abbrev WS : Type := TD × FS × Bool × FS × Nat × (Nat → Nat) × Int32
abbrev WS.T (s : WS) : TD := s.1
abbrev WS.F (s : WS) : FS := s.2.1
abbrev WS.im (s : WS) : Bool := s.2.2.1
abbrev WS.I (s : WS) : FS := s.2.2.2.1
abbrev WS.m (s : WS) : Nat := s.2.2.2.2.1
abbrev WS.f (s : WS) : Nat → Nat := s.2.2.2.2.2.1
abbrev WS.fl (s : WS) : Int32 := s.2.2.2.2.2.2
def CR (g : G2) (s : WS) : Prop := ∃ t u, is_town t ∧ is_town u ∧ t ≠ u ∧ g 0 2 = nI t ∧ g 1 0 = nI u ∧ RTn g t s.T ∧ RCf g 31 61 65 71 s.T s.F ∧ g 72 0 = b2i s.im ∧ (s.im = true → RCf g 51 63 68 73 s.T s.I) ∧ RTp g s.m s.f ∧ g 1 3 = s.fl
def MR (g : G2) (s : WS) : Prop := RMt g s.T ∧ RMf g s.T s.F ∧ g 84 44 = -1 ∧ g 84 58 = b2i s.im ∧ (s.im = true → RMi g s.T s.I) ∧ RTq g s.m s.f ∧ g 84 24 = s.fl
def OKs (s : WS) : Prop := okT s.T ∧ okF s.T s.F ∧ (s.im = true → okF s.T s.I) ∧ s.m ≤ 600
def HF (g h : G2) : Prop := ∀ y, 84 ≤ y → h y = g y
def LF (g h : G2) : Prop := ∀ y, y < 84 → h y = g y
theorem RLf.cga {g h : G2} {a : Nat} {T : TD} {sp : Int32} {S : LfS} (hR : RLf g a T sp S) (hy : ∀ y, a ≤ y → y ≤ a + 9 → h y = g y) : RLf h a T sp S := by
  unfold RLf
  rw [hy a (by omega) (by omega), hy (a + 1) (by omega) (by omega), hy (a + 2) (by omega) (by omega), hy (a + 3) (by omega) (by omega), hy (a + 4) (by omega) (by omega), hy (a + 5) (by omega) (by omega), hy (a + 6) (by omega) (by omega), hy (a + 7) (by omega) (by omega), hy (a + 8) (by omega) (by omega), hy (a + 9) (by omega) (by omega)]
  exact hR
theorem RCf.cgl {g h : G2} {T : TD} {F : FS} (hC : RCf g 31 61 65 71 T F) (hy : ∀ y, lvC y → h y = g y) : RCf h 31 61 65 71 T F :=
  ⟨hC.1.cga (fun y a b => hy y (by unfold lvC; omega)), hC.2.1.cg (hy 61 (by unfold lvC; omega)) (hy 62 (by unfold lvC; omega)), hC.2.2.1.cg (hy 65 (by unfold lvC; omega)) (hy 66 (by unfold lvC; omega)) (hy 67 (by unfold lvC; omega)), hC.2.2.2.cg (hy 71 (by unfold lvC; omega))⟩
theorem RCf.cgi {g h : G2} {T : TD} {F : FS} (hC : RCf g 51 63 68 73 T F) (hy : ∀ y, imC y → h y = g y) : RCf h 51 63 68 73 T F :=
  ⟨hC.1.cga (fun y a b => hy y (by unfold imC; omega)), hC.2.1.cg (hy 63 (by unfold imC; omega)) (hy 64 (by unfold imC; omega)), hC.2.2.1.cg (hy 68 (by unfold imC; omega)) (hy 69 (by unfold imC; omega)) (hy 70 (by unfold imC; omega)), hC.2.2.2.cg (hy 73 (by unfold imC; omega))⟩
theorem RTn.cgs {g h : G2} {u : Nat} {T : TD} (hT : RTn g u T) (hy : ∀ y, u ≤ y → y ≤ u + 11 → h y = g y) : RTn h u T := by
  unfold RTn
  rw [hy u (by omega) (by omega), hy (u + 1) (by omega) (by omega), hy (u + 3) (by omega) (by omega), hy (u + 4) (by omega) (by omega), hy (u + 5) (by omega) (by omega), hy (u + 9) (by omega) (by omega), hy (u + 10) (by omega) (by omega), hy (u + 11) (by omega) (by omega)]
  exact hT
theorem RTp.cg {g h : G2} {m : Nat} {f : Nat → Nat} (hT : RTp g m f) (h3 : h 3 = g 3) (h4 : h 4 = g 4) : RTp h m f := by unfold RTp; rw [h3, h4]; exact hT
/-- the class's side, when only the live state has changed -/
theorem CR.upd {g h : G2} {s : WS} {F : FS} (hC : CR g s) (hF : FL g h) (hR : RCf h 31 61 65 71 s.T F) : CR h (s.T, F, s.im, s.I, s.m, s.f, s.fl) := by
  obtain ⟨t, u, ht, hu, hne, h0, h1, hT, hc, him, hI, hp, hf⟩ := hC
  have e : ∀ y, ¬ scC y → ¬ lvC y → h y = g y := hF
  have ht5 : t = 5 ∨ t = 18 := ht
  refine ⟨t, u, ht, hu, hne, ?_, ?_, hT.cgs (fun y a b => e y (by unfold scC; omega) (by unfold lvC; omega)), hR, ?_, fun q => (hI q).cgi (fun y hy => e y (by unfold imC at hy; unfold scC; omega) (by unfold imC at hy; unfold lvC; omega)), hp.cg (e 3 (by unfold scC; omega) (by unfold lvC; omega)) (e 4 (by unfold scC; omega) (by unfold lvC; omega)), ?_⟩
  · rw [e 0 (by unfold scC; omega) (by unfold lvC; omega)]; exact h0
  · rw [e 1 (by unfold scC; omega) (by unfold lvC; omega)]; exact h1
  · rw [e 72 (by unfold scC; omega) (by unfold lvC; omega)]; exact him
  · rw [e 1 (by unfold scC; omega) (by unfold lvC; omega)]; exact hf
theorem CR.fc {g h : G2} {s : WS} (hC : CR g s) (F : FC g h) : CR h s := by
  obtain ⟨t, u, ht, hu, hne, h0, h1, hT, hc, r⟩ := id hC
  exact hC.upd F.fl (hc.cgl (fun y hy => F y (by unfold lvC at hy; unfold scC; omega)))
theorem FL.hf {g h : G2} (F : FL g h) : HF g h := fun y hy => F y (by unfold scC; omega) (by unfold lvC; omega)
theorem CR.lf {g h : G2} {s : WS} (hC : CR g s) (e : LF g h) : CR h s := by
  obtain ⟨t, u, ht, hu, hne, h0, h1, hT, hc, him, hI, hp, hf⟩ := hC
  have ht5 : t = 5 ∨ t = 18 := ht
  refine ⟨t, u, ht, hu, hne, by rw [e 0 (by decide)]; exact h0, by rw [e 1 (by decide)]; exact h1, hT.cgs (fun y a b => e y (by omega)), hc.cgl (fun y hy => e y (by unfold lvC at hy; omega)), by rw [e 72 (by decide)]; exact him, fun q => (hI q).cgi (fun y hy => e y (by unfold imC at hy; omega)), hp.cg (e 3 (by decide)) (e 4 (by decide)), by rw [e 1 (by decide)]; exact hf⟩
/-! the model's side -/
theorem RMt.cga {g h : G2} {T : TD} (hT : RMt g T) (e : ∀ y, 87 ≤ y → y ≤ 97 → y ≠ 96 → h y = g y) : RMt h T := by
  unfold RMt
  rw [e 87 (by decide) (by decide) (by decide), e 88 (by decide) (by decide) (by decide), e 90 (by decide) (by decide) (by decide), e 97 (by decide) (by decide) (by decide), e 94 (by decide) (by decide) (by decide), e 95 (by decide) (by decide) (by decide)]
  exact hT
theorem RMi.cga {g h : G2} {T : TD} {F : FS} (hI : RMi g T F) (e : ∀ y, 119 ≤ y → h y = g y) (e1 : h 84 59 = g 84 59) (e2 : h 84 60 = g 84 60) : RMi h T F := by
  unfold RMi RMa RMh RCu
  rw [e1, e2, e 119 (by decide), e 120 (by decide), e 121 (by decide), e 122 (by decide), e 123 (by decide), e 124 (by decide), e 125 (by decide), e 126 (by decide)]
  exact hI
theorem RTq.cg {g h : G2} {m : Nat} {f : Nat → Nat} (hT : RTq g m f) (h3 : h 84 15 = g 84 15) (h4 : h 98 = g 98) : RTq h m f := by unfold RTq; rw [h3, h4]; exact hT
theorem MR.upd {g h : G2} {s : WS} {F : FS} (hM : MR g s) (hF : FN g h) (hR : RMf h s.T F) : MR h (s.T, F, s.im, s.I, s.m, s.f, s.fl) := by
  obtain ⟨hT, -, h44, h58, hI, hq, hf⟩ := hM
  exact ⟨hT.cga (fun y a b c => hF.1 y (by omega)), hR, by rw [hF.2 44 (by omega)]; exact h44, by rw [hF.2 58 (by omega)]; exact h58, fun q => (hI q).cga (fun y a => hF.1 y (by omega)) (hF.2 59 (by omega)) (hF.2 60 (by omega)), hq.cg (hF.2 15 (by omega)) (hF.1 98 (by omega)), by rw [hF.2 24 (by omega)]; exact hf⟩
theorem FD.fn {g h : G2} (F : FD g h) : FN g h := ⟨fun y q => F.1 y (by omega), fun j q => F.2 j (by omega)⟩
theorem FN.lf {g h : G2} (F : FN g h) : LF g h := fun y hy => F.1 y (Or.inl hy)
theorem MR.fd {g h : G2} {s : WS} (hM : MR g s) (F : FD g h) (hR : RMl h s.T (f_S s.F)) : MR h s := by
  obtain ⟨hT, ⟨-, a1, a2, a3, a4, a5⟩, r⟩ := id hM
  refine hM.upd F.fn ⟨hR, by rw [F.2 37 (by omega)]; exact a1, ?_, by rw [F.2 38 (by omega)]; exact a3, ?_, ?_⟩
  · unfold RMa; rw [F.1 103 (by omega)]; exact a2
  · unfold RMh; rw [F.1 113 (by omega), F.1 114 (by omega)]; exact a4
  · unfold RCu; rw [F.1 96 (by omega)]; exact a5
theorem MR.hf {g h : G2} {s : WS} (hM : MR g s) (e : HF g h) : MR h s := by
  obtain ⟨hT, ⟨a0, a1, a2, a3, a4, a5⟩, h44, h58, hI, hq, hf⟩ := hM
  have z : ∀ y, 84 ≤ y → h y = g y := e
  refine ⟨hT.cga (fun y a b c => z y (by omega)), ⟨?_, by rw [z 84 (by decide)]; exact a1, ?_, by rw [z 84 (by decide)]; exact a3, ?_, ?_⟩, by rw [z 84 (by decide)]; exact h44, by rw [z 84 (by decide)]; exact h58, fun q => (hI q).cga (fun y a => z y (by omega)) (by rw [z 84 (by decide)]) (by rw [z 84 (by decide)]), hq.cg (by rw [z 84 (by decide)]) (z 98 (by decide)), by rw [z 84 (by decide)]; exact hf⟩
  · unfold RMl
    rw [z 84 (by decide), z 99 (by decide), z 100 (by decide), z 101 (by decide), z 102 (by decide), z 104 (by decide), z 105 (by decide), z 106 (by decide)]; exact a0
  · unfold RMa; rw [z 103 (by decide)]; exact a2
  · unfold RMh; rw [z 113 (by decide), z 114 (by decide)]; exact a4
  · unfold RCu; rw [z 96 (by decide)]; exact a5
theorem MR.code {g : G2} {s : WS} {x : Int32} (hM : MR g s) : MR (up2 g 84 2 x) s := hM.fd (FD.code x) (hM.2.1.1.code)
theorem LF.code {g : G2} {x : Int32} : LF g (up2 g 84 2 x) := fun y hy => up2_f _ _ _ _ (by omega)
abbrev OR : Type := Nat × Int32 × WS
def q1 (s : WS) (r : Nat × Int32) : OR := (r.1, r.2, s)
def a1F (s : WS) (r : Nat × Int32 × FS) : OR := (r.1, r.2.1, (s.T, r.2.2, s.im, s.I, s.m, s.f, s.fl))
/-- what an operation of the class comes to -/
def KQ (Q : QT) (X : XT) (g : G2) (r : OR) (n1 : String) : Prop := (∀ h, CR h r.2.2 → HF g h → r.1 = 0 → Q (some (.int r.2.1)) h) ∧ (∀ h, CR h r.2.2 → HF g h → r.1 = 1 → X n1 h) ∧ (∀ h, CR h r.2.2 → HF g h → r.1 = 2 → X iaN h)
/-- what an operation of the model comes to -/
def NQ (Q : QT) (g : G2) (r : OR) : Prop := ∀ h b, MR h r.2.2 → LF g h → h 84 2 = nI r.1 → (r.1 = 0 → b = r.2.1) → Q (some (.int b)) h
