theorem thr_years {T : TD} {F : FS} {n : Int32} : (yeaM T F n).1 = 0 := by unfold yeaM; split <;> rfl
theorem thr_peace {F : FS} {n : Int32} : (peaM F n).1 = 0 := by unfold peaM; split <;> rfl
theorem thr_undo {F : FS} : (undM F).1 = 0 := by unfold undM; split <;> rfl
theorem thr_hear {F : FS} {p x : Int32} : (heaM F p x).1 = 0 := by unfold heaM; split <;> rfl
theorem thr_away {T : TD} {F : FS} {p : Int32} {b : Bool} (h : (awaM T F p b).1 = 1) : (awaM T F p b).2.2 = F := by
  unfold awaM at h ⊢
  split at h
  · split at h <;> cases h
  · rw [if_neg ‹_›]
theorem thr_dies {T : TD} {F : FS} {p : Int32} (h : (dieM T F p).1 = 1) : (dieM T F p).2.2 = F := by
  unfold dieM at h ⊢
  split at h
  · split at h <;> cases h
  · rw [if_neg ‹_›]
theorem thr_marry {T : TD} {F : FS} {p o : Int32} (h : (marM T F p o).1 = 1) : (marM T F p o).2.2 = F := by
  unfold marM at h ⊢
  split at h
  · split at h <;> cases h
  · rw [if_neg ‹_›]
theorem thr_quarrel {T : TD} {F : FS} {p o : Int32} (h : (quaM T F p o).1 = 1) : (quaM T F p o).2.2 = F := by
  unfold quaM at h ⊢
  split at h
  · split at h <;> cases h
  · rw [if_neg ‹_›]
theorem k_found {E : En} {d : Nat} {Q : QT} {X : XT} {g : G2} {s : WS} {v : Int32} {m : Int32} {w : Int32} (hC : CR g s) (hO : OKs s) (hq : KQ Q X g (q1 s (fouM (f_S s.F) v m w)) nsN) : M E md_X11_found (d + 7) [.ref 0, .int v, .int m, .int w] g Q X := by
  obtain ⟨t, u, ht, hu, hne, h0, h1, hT, hc, him, hI, hp, hf⟩ := id hC
  obtain ⟨oT, oF, oI, om⟩ := id hO
  exact c_X11_found hc.1 (fun h F z => hq.1 h (hC.fc F) (FC.fl F).hf z) (fun h F z => hq.2.1 h (hC.fc F) (FC.fl F).hf z) (fun h F z => hq.2.2 h (hC.fc F) (FC.fl F).hf z)
theorem n_found {E : En} {d : Nat} {Q : QT} {X : XT} {g : G2} {s : WS} {v : Int32} {m : Int32} {w : Int32} (hM : MR g s) (hO : OKs s) (hq : NQ Q g (q1 s (fouM (f_S s.F) v m w))) : M E md_X12_found (d + 2) [.ref 84, .int v, .int m, .int w] g Q X := by
  obtain ⟨hT, hF, h44, h58, hI, hq0, hf⟩ := id hM
  obtain ⟨oT, oF, oI, om⟩ := id hO
  exact c_X12_found hF.1 (fun h F R z => hq h _ (hM.fd F R) F.fn.lf z (fun _ => rfl))
theorem k_again {E : En} {d : Nat} {Q : QT} {X : XT} {g : G2} {s : WS} {w : Int32} (hC : CR g s) (hO : OKs s) (hq : KQ Q X g (q1 s (agaM (f_S s.F) w)) nsN) : M E md_X11_again (d + 7) [.ref 0, .int w] g Q X := by
  obtain ⟨t, u, ht, hu, hne, h0, h1, hT, hc, him, hI, hp, hf⟩ := id hC
  obtain ⟨oT, oF, oI, om⟩ := id hO
  exact c_X11_again hc.1 (fun h F z => hq.1 h (hC.fc F) (FC.fl F).hf z) (fun h F z => hq.2.1 h (hC.fc F) (FC.fl F).hf z)
theorem n_again {E : En} {d : Nat} {Q : QT} {X : XT} {g : G2} {s : WS} {w : Int32} (hM : MR g s) (hO : OKs s) (hq : NQ Q g (q1 s (agaM (f_S s.F) w))) : M E md_X12_again (d + 2) [.ref 84, .int w] g Q X := by
  obtain ⟨hT, hF, h44, h58, hI, hq0, hf⟩ := id hM
  obtain ⟨oT, oF, oI, om⟩ := id hO
  exact c_X12_again hF.1 (fun h F R z => hq h _ (hM.fd F R) F.fn.lf z (fun _ => rfl))
theorem k_interval {E : En} {d : Nat} {Q : QT} {X : XT} {g : G2} {s : WS} {x : Int32} (hC : CR g s) (hO : OKs s) (hq : KQ Q X g (q1 s (itvM (f_S s.F) x)) iaN) : M E md_X11_interval (d + 6) [.ref 0, .int x] g Q X := by
  obtain ⟨t, u, ht, hu, hne, h0, h1, hT, hc, him, hI, hp, hf⟩ := id hC
  obtain ⟨oT, oF, oI, om⟩ := id hO
  exact c_X11_interval hc.1 (fun h F z => hq.1 h (hC.fc F) (FC.fl F).hf z) (fun h F z => hq.2.1 h (hC.fc F) (FC.fl F).hf z)
theorem n_interval {E : En} {d : Nat} {Q : QT} {X : XT} {g : G2} {s : WS} {x : Int32} (hM : MR g s) (hO : OKs s) (hq : NQ Q g (q1 s (itvM (f_S s.F) x))) : M E md_X12_interval (d + 1) [.ref 84, .int x] g Q X := by
  obtain ⟨hT, hF, h44, h58, hI, hq0, hf⟩ := id hM
  obtain ⟨oT, oF, oI, om⟩ := id hO
  exact c_X12_interval hF.1 oF.S.1 (fun h F R z => hq h _ (hM.fd F R) F.fn.lf z (fun _ => rfl))
theorem k_own {E : En} {d : Nat} {Q : QT} {X : XT} {g : G2} {s : WS} {p : Int32} {i : Int32} (hC : CR g s) (hO : OKs s) (hq : KQ Q X g (q1 s (ownM s.T (f_S s.F) p i)) nsN) : M E md_X11_own (d + 7) [.ref 0, .int p, .int i] g Q X := by
  obtain ⟨t, u, ht, hu, hne, h0, h1, hT, hc, him, hI, hp, hf⟩ := id hC
  obtain ⟨oT, oF, oI, om⟩ := id hO
  exact c_X11_own ht h0 hc.1 hT (fun h F z => hq.1 h (hC.fc F) (FC.fl F).hf z) (fun h F z => hq.2.1 h (hC.fc F) (FC.fl F).hf z)
theorem n_own {E : En} {d : Nat} {Q : QT} {X : XT} {g : G2} {s : WS} {p : Int32} {i : Int32} (hM : MR g s) (hO : OKs s) (hq : NQ Q g (q1 s (ownM s.T (f_S s.F) p i))) : M E md_X12_own (d + 2) [.ref 84, .int p, .int i] g Q X := by
  obtain ⟨hT, hF, h44, h58, hI, hq0, hf⟩ := id hM
  obtain ⟨oT, oF, oI, om⟩ := id hO
  exact c_X12_own hF.1 hT (fun h F R z => hq h _ (hM.fd F R) F.fn.lf z (fun _ => rfl))
theorem k_breath {E : En} {d : Nat} {Q : QT} {X : XT} {g : G2} {s : WS} {w : Int32} (hC : CR g s) (hO : OKs s) (hq : KQ Q X g (q1 s (breM (f_S s.F) w)) nsN) : M E md_X11_breath (d + 7) [.ref 0, .int w] g Q X := by
  obtain ⟨t, u, ht, hu, hne, h0, h1, hT, hc, him, hI, hp, hf⟩ := id hC
  obtain ⟨oT, oF, oI, om⟩ := id hO
  exact c_X11_breath hc.1 (fun h F z => hq.1 h (hC.fc F) (FC.fl F).hf z) (fun h F z => hq.2.1 h (hC.fc F) (FC.fl F).hf z)
theorem n_breath {E : En} {d : Nat} {Q : QT} {X : XT} {g : G2} {s : WS} {w : Int32} (hM : MR g s) (hO : OKs s) (hq : NQ Q g (q1 s (breM (f_S s.F) w))) : M E md_X12_breath (d + 1) [.ref 84, .int w] g Q X := by
  obtain ⟨hT, hF, h44, h58, hI, hq0, hf⟩ := id hM
  obtain ⟨oT, oF, oI, om⟩ := id hO
  exact c_X12_breath hF.1 (fun h F R z => hq h _ (hM.fd F R) F.fn.lf z (fun _ => rfl))
theorem k_like {E : En} {d : Nat} {Q : QT} {X : XT} {g : G2} {s : WS} {w : Int32} (hC : CR g s) (hO : OKs s) (hq : KQ Q X g (q1 s (likM s.T (f_S s.F) w)) nsN) : M E md_X11_like (d + 7) [.ref 0, .int w] g Q X := by
  obtain ⟨t, u, ht, hu, hne, h0, h1, hT, hc, him, hI, hp, hf⟩ := id hC
  obtain ⟨oT, oF, oI, om⟩ := id hO
  exact c_X11_like ht h0 hc.1 hT (fun h F z => hq.1 h (hC.fc F) (FC.fl F).hf z) (fun h F z => hq.2.1 h (hC.fc F) (FC.fl F).hf z)
theorem n_like {E : En} {d : Nat} {Q : QT} {X : XT} {g : G2} {s : WS} {w : Int32} (hM : MR g s) (hO : OKs s) (hq : NQ Q g (q1 s (likM s.T (f_S s.F) w))) : M E md_X12_like (d + 2) [.ref 84, .int w] g Q X := by
  obtain ⟨hT, hF, h44, h58, hI, hq0, hf⟩ := id hM
  obtain ⟨oT, oF, oI, om⟩ := id hO
  exact c_X12_like hF.1 hT (fun h F R z => hq h _ (hM.fd F R) F.fn.lf z (fun _ => rfl))
theorem k_then {E : En} {d : Nat} {Q : QT} {X : XT} {g : G2} {s : WS} {i : Int32} (hC : CR g s) (hO : OKs s) (hq : KQ Q X g (q1 s (theM s.T (f_S s.F) i)) iaN) : M E md_X11_then (d + 6) [.ref 0, .int i] g Q X := by
  obtain ⟨t, u, ht, hu, hne, h0, h1, hT, hc, him, hI, hp, hf⟩ := id hC
  obtain ⟨oT, oF, oI, om⟩ := id hO
  exact c_X11_then ht h0 hc.1 hT oT (fun h F z => hq.1 h (hC.fc F) (FC.fl F).hf z) (fun h F z => hq.2.1 h (hC.fc F) (FC.fl F).hf z)
theorem n_then {E : En} {d : Nat} {Q : QT} {X : XT} {g : G2} {s : WS} {i : Int32} (hM : MR g s) (hO : OKs s) (hq : NQ Q g (q1 s (theM s.T (f_S s.F) i))) : M E md_X12_then (d + 5) [.ref 84, .int i] g Q X := by
  obtain ⟨hT, hF, h44, h58, hI, hq0, hf⟩ := id hM
  obtain ⟨oT, oF, oI, om⟩ := id hO
  exact c_X12_then hF.1 hT h44 oT oF.S (fun h F R z => hq h _ (hM.fd F R) F.fn.lf z (fun _ => rfl))
theorem k_when {E : En} {d : Nat} {Q : QT} {X : XT} {g : G2} {s : WS} {v : Int32} {m : Int32} (hC : CR g s) (hO : OKs s) (hq : KQ Q X g (q1 s (wheM s.T (f_S s.F) v m)) iaN) : M E md_X11_when (d + 7) [.ref 0, .int v, .int m] g Q X := by
  obtain ⟨t, u, ht, hu, hne, h0, h1, hT, hc, him, hI, hp, hf⟩ := id hC
  obtain ⟨oT, oF, oI, om⟩ := id hO
  exact c_X11_when ht h0 hc.1 hT oT (fun h F z => hq.1 h (hC.fc F) (FC.fl F).hf z) (fun h F z => hq.2.1 h (hC.fc F) (FC.fl F).hf z)
theorem n_when {E : En} {d : Nat} {Q : QT} {X : XT} {g : G2} {s : WS} {v : Int32} {m : Int32} (hM : MR g s) (hO : OKs s) (hq : NQ Q g (q1 s (wheM s.T (f_S s.F) v m))) : M E md_X12_when (d + 5) [.ref 84, .int v, .int m] g Q X := by
  obtain ⟨hT, hF, h44, h58, hI, hq0, hf⟩ := id hM
  obtain ⟨oT, oF, oI, om⟩ := id hO
  exact c_X12_when hF.1 hT h44 oT oF.S (fun h F R z => hq h _ (hM.fd F R) F.fn.lf z (fun _ => rfl))
theorem k_quiet {E : En} {d : Nat} {Q : QT} {X : XT} {g : G2} {s : WS} {n : Int32} (hC : CR g s) (hO : OKs s) (hq : KQ Q X g (q1 s (quiM s.T (f_S s.F) n)) iaN) : M E md_X11_quiet (d + 6) [.ref 0, .int n] g Q X := by
  obtain ⟨t, u, ht, hu, hne, h0, h1, hT, hc, him, hI, hp, hf⟩ := id hC
  obtain ⟨oT, oF, oI, om⟩ := id hO
  exact c_X11_quiet ht h0 hc.1 hT oT (fun h F z => hq.1 h (hC.fc F) (FC.fl F).hf z) (fun h F z => hq.2.1 h (hC.fc F) (FC.fl F).hf z)
theorem n_quiet {E : En} {d : Nat} {Q : QT} {X : XT} {g : G2} {s : WS} {n : Int32} (hM : MR g s) (hO : OKs s) (hq : NQ Q g (q1 s (quiM s.T (f_S s.F) n))) : M E md_X12_quiet (d + 6) [.ref 84, .int n] g Q X := by
  obtain ⟨hT, hF, h44, h58, hI, hq0, hf⟩ := id hM
  obtain ⟨oT, oF, oI, om⟩ := id hO
  exact c_X12_quiet hF.1 hT h44 oT oF.S (fun h F R z => hq h _ (hM.fd F R) F.fn.lf z (fun _ => rfl))
theorem k_spy {E : En} {d : Nat} {Q : QT} {X : XT} {g : G2} {s : WS} {w : Int32} (hC : CR g s) (hO : OKs s) (hq : KQ Q X g (q1 s (spyM s.T s.F w)) nsN) : M E md_X11_spy (d + 7) [.ref 0, .int w] g Q X := by
  obtain ⟨t, u, ht, hu, hne, h0, h1, hT, hc, him, hI, hp, hf⟩ := id hC
  obtain ⟨oT, oF, oI, om⟩ := id hO
  exact c_X11_spy ht h0 hc.1 hc.2.2.1 hT oT oF (fun h F z => hq.1 h (hC.fc F) (FC.fl F).hf z) (fun h F z => hq.2.1 h (hC.fc F) (FC.fl F).hf z)
theorem n_spy {E : En} {d : Nat} {Q : QT} {X : XT} {g : G2} {s : WS} {w : Int32} (hM : MR g s) (hO : OKs s) (hq : NQ Q g (q1 s (spyM s.T s.F w))) : M E md_X12_spy (d + 8) [.ref 84, .int w] g Q X := by
  obtain ⟨hT, hF, h44, h58, hI, hq0, hf⟩ := id hM
  obtain ⟨oT, oF, oI, om⟩ := id hO
  exact c_X12_spy hF hT oT oF h44 (fun h F R z => hq h _ (hM.fd F R) F.fn.lf z (fun _ => rfl))
theorem k_listen {E : En} {d : Nat} {Q : QT} {X : XT} {g : G2} {s : WS} {w : Int32} (hC : CR g s) (hO : OKs s) (hq : KQ Q X g (q1 s (lisM s.T s.F w)) nsN) : M E md_X11_listen (d + 7) [.ref 0, .int w] g Q X := by
  obtain ⟨t, u, ht, hu, hne, h0, h1, hT, hc, him, hI, hp, hf⟩ := id hC
  obtain ⟨oT, oF, oI, om⟩ := id hO
  exact c_X11_listen ht h0 hc.1 hc.2.2.1 hT oT oF (fun h F z => hq.1 h (hC.fc F) (FC.fl F).hf z) (fun h F z => hq.2.1 h (hC.fc F) (FC.fl F).hf z)
theorem n_listen {E : En} {d : Nat} {Q : QT} {X : XT} {g : G2} {s : WS} {w : Int32} (hM : MR g s) (hO : OKs s) (hq : NQ Q g (q1 s (lisM s.T s.F w))) : M E md_X12_listen (d + 8) [.ref 84, .int w] g Q X := by
  obtain ⟨hT, hF, h44, h58, hI, hq0, hf⟩ := id hM
  obtain ⟨oT, oF, oI, om⟩ := id hO
  exact c_X12_listen hF hT oT oF h44 (fun h F R z => hq h _ (hM.fd F R) F.fn.lf z (fun _ => rfl))
theorem k_game {E : En} {d : Nat} {Q : QT} {X : XT} {g : G2} {s : WS} {a : Int32} {b : Int32} {w : Int32} (hC : CR g s) (hO : OKs s) (hq : KQ Q X g (q1 s (gamM s.T (f_S s.F) a b w)) nsN) : M E md_X11_game (d + 7) [.ref 0, .int a, .int b, .int w] g Q X := by
  obtain ⟨t, u, ht, hu, hne, h0, h1, hT, hc, him, hI, hp, hf⟩ := id hC
  obtain ⟨oT, oF, oI, om⟩ := id hO
  exact c_X11_game ht h0 hc.1 hT oT oF.S (fun h F z => hq.1 h (hC.fc F) (FC.fl F).hf z) (fun h F z => hq.2.1 h (hC.fc F) (FC.fl F).hf z) (fun h F z => hq.2.2 h (hC.fc F) (FC.fl F).hf z)
theorem n_game {E : En} {d : Nat} {Q : QT} {X : XT} {g : G2} {s : WS} {a : Int32} {b : Int32} {w : Int32} (hM : MR g s) (hO : OKs s) (hq : NQ Q g (q1 s (gamM s.T (f_S s.F) a b w))) : M E md_X12_game (d + 6) [.ref 84, .int a, .int b, .int w] g Q X := by
  obtain ⟨hT, hF, h44, h58, hI, hq0, hf⟩ := id hM
  obtain ⟨oT, oF, oI, om⟩ := id hO
  exact c_X12_game hF.1 hT h44 oT oF.S (fun h F R z => hq h _ (hM.fd F R) F.fn.lf z (fun _ => rfl))
theorem k_century {E : En} {d : Nat} {Q : QT} {X : XT} {g : G2} {s : WS} {a : Int32} {b : Int32} {w : Int32} (hC : CR g s) (hO : OKs s) (hq : KQ Q X g (q1 s (cenM s.T (f_S s.F) a b w)) nsN) : M E md_X11_century (d + 8) [.ref 0, .int a, .int b, .int w] g Q X := by
  obtain ⟨t, u, ht, hu, hne, h0, h1, hT, hc, him, hI, hp, hf⟩ := id hC
  obtain ⟨oT, oF, oI, om⟩ := id hO
  exact c_X11_century ht h0 hc.1 hT oT oF.S.1 (fun h F z => hq.1 h (hC.fc F) (FC.fl F).hf z) (fun h F z => hq.2.1 h (hC.fc F) (FC.fl F).hf z) (fun h F z => hq.2.2 h (hC.fc F) (FC.fl F).hf z)
theorem n_century {E : En} {d : Nat} {Q : QT} {X : XT} {g : G2} {s : WS} {a : Int32} {b : Int32} {w : Int32} (hM : MR g s) (hO : OKs s) (hq : NQ Q g (q1 s (cenM s.T (f_S s.F) a b w))) : M E md_X12_century (d + 6) [.ref 84, .int a, .int b, .int w] g Q X := by
  obtain ⟨hT, hF, h44, h58, hI, hq0, hf⟩ := id hM
  obtain ⟨oT, oF, oI, om⟩ := id hO
  exact c_X12_century hF.1 hT h44 oT oF.S (fun h F R z => hq h _ (hM.fd F R) F.fn.lf z (fun _ => rfl))
theorem k_count {E : En} {d : Nat} {Q : QT} {X : XT} {g : G2} {s : WS} {w : Int32} (hC : CR g s) (hO : OKs s) (hq : KQ Q X g (q1 s (couM s.T (f_S s.F) (nI (f_na s.F)) (nI (f_nh s.F)) (nI s.m) (f_g s.F 2) w)) nsN) : M E md_X11_count (d + 6) [.ref 0, .int w] g Q X := by
  obtain ⟨t, u, ht, hu, hne, h0, h1, hT, hc, him, hI, hp, hf⟩ := id hC
  obtain ⟨oT, oF, oI, om⟩ := id hO
  refine c_X11_count ht h0 hc.1 hT hc.2.1.1 hc.2.2.1.1 hp.1 hc.2.2.2 (fun v z => ?_) (fun v z => ?_)
  · have := hq.1 g hC (fun _ _ => rfl) (by rw [z]; rfl)
    rw [z] at this; exact this
  · exact hq.2.1 g hC (fun _ _ => rfl) (by rw [z]; rfl)
theorem n_count {E : En} {d : Nat} {Q : QT} {X : XT} {g : G2} {s : WS} {w : Int32} (hM : MR g s) (hO : OKs s) (hq : NQ Q g (q1 s (couM s.T (f_S s.F) (nI (f_na s.F)) (nI (f_nh s.F)) (nI s.m) (f_g s.F 2) w))) : M E md_X12_count (d + 1) [.ref 84, .int w] g Q X := by
  obtain ⟨hT, hF, h44, h58, hI, hq0, hf⟩ := id hM
  obtain ⟨oT, oF, oI, om⟩ := id hO
  refine c_X12_count (sp := 0) hF.1 hT hF.2.1 hF.2.2.2.1 hq0.1 hF.2.2.2.2.2 (fun v z => ?_) (fun v z => ?_)
  · exact hq _ _ hM.code LF.code (by rw [z]; exact up2_s _ _ _ _) (fun _ => by rw [z]; rfl)
  · exact hq _ _ hM.code.code (fun y hy => (LF.code y hy).trans (LF.code y hy)) (by rw [z]; exact up2_s _ _ _ _) (fun q => by rw [z] at q; cases q)
theorem k_person {E : En} {d : Nat} {Q : QT} {X : XT} {g : G2} {s : WS} {x : Int32} {w : Int32} (hC : CR g s) (hO : OKs s) (hq : KQ Q X g (q1 s (perM s.T (f_S s.F) x w)) nsN) : M E md_X11_person (d + 7) [.ref 0, .int x, .int w] g Q X := by
  obtain ⟨t, u, ht, hu, hne, h0, h1, hT, hc, him, hI, hp, hf⟩ := id hC
  obtain ⟨oT, oF, oI, om⟩ := id hO
  refine c_X11_person ht h0 hc.1 hT (fun v z => ?_) (fun v z => ?_)
  · have := hq.1 g hC (fun _ _ => rfl) (by rw [z]; rfl)
    rw [z] at this; exact this
  · exact hq.2.1 g hC (fun _ _ => rfl) (by rw [z]; rfl)
theorem n_person {E : En} {d : Nat} {Q : QT} {X : XT} {g : G2} {s : WS} {x : Int32} {w : Int32} (hM : MR g s) (hO : OKs s) (hq : NQ Q g (q1 s (perM s.T (f_S s.F) x w))) : M E md_X12_person (d + 2) [.ref 84, .int x, .int w] g Q X := by
  obtain ⟨hT, hF, h44, h58, hI, hq0, hf⟩ := id hM
  obtain ⟨oT, oF, oI, om⟩ := id hO
  refine c_X12_person hF.1 hT oF.S.2.1 (fun v z => ?_) (fun v z => ?_)
  · exact hq _ _ hM.code LF.code (by rw [z]; exact up2_s _ _ _ _) (fun _ => by rw [z]; rfl)
  · exact hq _ _ hM.code.code (fun y hy => (LF.code y hy).trans (LF.code y hy)) (by rw [z]; exact up2_s _ _ _ _) (fun q => by rw [z] at q; cases q)
theorem k_feud {E : En} {d : Nat} {Q : QT} {X : XT} {g : G2} {s : WS} {x : Int32} {w : Int32} (hC : CR g s) (hO : OKs s) (hq : KQ Q X g (q1 s (feuM (f_S s.F) x w)) nsN) : M E md_X11_feud (d + 7) [.ref 0, .int x, .int w] g Q X := by
  obtain ⟨t, u, ht, hu, hne, h0, h1, hT, hc, him, hI, hp, hf⟩ := id hC
  obtain ⟨oT, oF, oI, om⟩ := id hO
  refine c_X11_feud hc.1 (fun v z => ?_) (fun v z => ?_)
  · have := hq.1 g hC (fun _ _ => rfl) (by rw [z]; rfl)
    rw [z] at this; exact this
  · exact hq.2.1 g hC (fun _ _ => rfl) (by rw [z]; rfl)
theorem n_feud {E : En} {d : Nat} {Q : QT} {X : XT} {g : G2} {s : WS} {x : Int32} {w : Int32} (hM : MR g s) (hO : OKs s) (hq : NQ Q g (q1 s (feuM (f_S s.F) x w))) : M E md_X12_feud (d + 1) [.ref 84, .int x, .int w] g Q X := by
  obtain ⟨hT, hF, h44, h58, hI, hq0, hf⟩ := id hM
  obtain ⟨oT, oF, oI, om⟩ := id hO
  refine c_X12_feud hF.1 (fun v z => ?_) (fun v z => ?_)
  · exact hq _ _ hM.code LF.code (by rw [z]; exact up2_s _ _ _ _) (fun _ => by rw [z]; rfl)
  · exact hq _ _ hM.code.code (fun y hy => (LF.code y hy).trans (LF.code y hy)) (by rw [z]; exact up2_s _ _ _ _) (fun q => by rw [z] at q; cases q)
theorem k_sign {E : En} {d : Nat} {Q : QT} {X : XT} {g : G2} {s : WS} {x : Int32} {w : Int32} (hC : CR g s) (hO : OKs s) (hq : KQ Q X g (q1 s (sigM (f_S s.F) x w)) nsN) : M E md_X11_sign (d + 7) [.ref 0, .int x, .int w] g Q X := by
  obtain ⟨t, u, ht, hu, hne, h0, h1, hT, hc, him, hI, hp, hf⟩ := id hC
  obtain ⟨oT, oF, oI, om⟩ := id hO
  refine c_X11_sign hc.1 (fun v z => ?_) (fun v z => ?_)
  · have := hq.1 g hC (fun _ _ => rfl) (by rw [z]; rfl)
    rw [z] at this; exact this
  · exact hq.2.1 g hC (fun _ _ => rfl) (by rw [z]; rfl)
theorem n_sign {E : En} {d : Nat} {Q : QT} {X : XT} {g : G2} {s : WS} {x : Int32} {w : Int32} (hM : MR g s) (hO : OKs s) (hq : NQ Q g (q1 s (sigM (f_S s.F) x w))) : M E md_X12_sign (d + 1) [.ref 84, .int x, .int w] g Q X := by
  obtain ⟨hT, hF, h44, h58, hI, hq0, hf⟩ := id hM
  obtain ⟨oT, oF, oI, om⟩ := id hO
  refine c_X12_sign hF.1 (fun v z => ?_) (fun v z => ?_)
  · exact hq _ _ hM.code LF.code (by rw [z]; exact up2_s _ _ _ _) (fun _ => by rw [z]; rfl)
  · exact hq _ _ hM.code.code (fun y hy => (LF.code y hy).trans (LF.code y hy)) (by rw [z]; exact up2_s _ _ _ _) (fun q => by rw [z] at q; cases q)
theorem k_other {E : En} {d : Nat} {Q : QT} {X : XT} {g : G2} {s : WS} {x : Int32} (hC : CR g s) (hO : OKs s) (hq : KQ Q X g (q1 s (othM s.T x)) nsN) : M E md_X11_other (d + 7) [.ref 0, .int x] g Q X := by
  obtain ⟨t, u, ht, hu, hne, h0, h1, hT, hc, him, hI, hp, hf⟩ := id hC
  obtain ⟨oT, oF, oI, om⟩ := id hO
  refine c_X11_other ht h0 hT (fun v z => ?_) (fun v z => ?_)
  · have := hq.1 g hC (fun _ _ => rfl) (by rw [z]; rfl)
    rw [z] at this; exact this
  · exact hq.2.1 g hC (fun _ _ => rfl) (by rw [z]; rfl)
theorem n_other {E : En} {d : Nat} {Q : QT} {X : XT} {g : G2} {s : WS} {x : Int32} (hM : MR g s) (hO : OKs s) (hq : NQ Q g (q1 s (othM s.T x))) : M E md_X12_other (d + 1) [.ref 84, .int x] g Q X := by
  obtain ⟨hT, hF, h44, h58, hI, hq0, hf⟩ := id hM
  obtain ⟨oT, oF, oI, om⟩ := id hO
  refine c_X12_other hT (fun v z => ?_) (fun v z => ?_)
  · exact hq _ _ hM.code LF.code (by rw [z]; exact up2_s _ _ _ _) (fun _ => by rw [z]; rfl)
  · exact hq _ _ hM.code.code (fun y hy => (LF.code y hy).trans (LF.code y hy)) (by rw [z]; exact up2_s _ _ _ _) (fun q => by rw [z] at q; cases q)
theorem k_years {E : En} {d : Nat} {Q : QT} {X : XT} {g : G2} {s : WS} {n : Int32} (hC : CR g s) (hO : OKs s) (hq : KQ Q X g (a1F s (yeaM s.T s.F n)) nsN) : M E md_X11_years (d + 4) [.ref 0, .int n] g Q X := by
  obtain ⟨t, u, ht, hu, hne, h0, h1, hT, hc, him, hI, hp, hf⟩ := id hC
  obtain ⟨oT, oF, oI, om⟩ := id hO
  exact c_X11_years ht h0 hT hc oF oT (fun h R F => hq.1 h (hC.upd F.fl R) (F.fl).hf thr_years)
theorem n_years {E : En} {d : Nat} {Q : QT} {X : XT} {g : G2} {s : WS} {n : Int32} (hM : MR g s) (hO : OKs s) (hq : NQ Q g (a1F s (yeaM s.T s.F n))) : M E md_X12_years (d + 6) [.ref 84, .int n] g Q X := by
  obtain ⟨hT, hF, h44, h58, hI, hq0, hf⟩ := id hM
  obtain ⟨oT, oF, oI, om⟩ := id hO
  exact c_X12_years hT hF oF oT h44 (fun h R F z => hq h _ (hM.upd F.fn R) (F.fn).lf z (fun _ => rfl))
theorem k_away {E : En} {d : Nat} {Q : QT} {X : XT} {g : G2} {s : WS} {p : Int32} {b : Bool} (hC : CR g s) (hO : OKs s) (hq : KQ Q X g (a1F s (awaM s.T s.F p b)) nsN) : M E md_X11_away (d + 7) [.ref 0, .int p, .int (b2i b)] g Q X := by
  obtain ⟨t, u, ht, hu, hne, h0, h1, hT, hc, him, hI, hp, hf⟩ := id hC
  obtain ⟨oT, oF, oI, om⟩ := id hO
  exact c_X11_away ht h0 hT hc oF (fun h z R F => hq.1 h (hC.upd F.fl R) (F.fl).hf z) (fun z => hq.2.1 g (by show CR g (s.T, (awaM s.T s.F p b).2.2, s.im, s.I, s.m, s.f, s.fl); rw [thr_away z]; exact hC) (fun _ _ => rfl) z)
theorem n_away {E : En} {d : Nat} {Q : QT} {X : XT} {g : G2} {s : WS} {p : Int32} {b : Bool} (hM : MR g s) (hO : OKs s) (hq : NQ Q g (a1F s (awaM s.T s.F p b))) : M E md_X12_away (d + 2) [.ref 84, .int p, .int (b2i b)] g Q X := by
  obtain ⟨hT, hF, h44, h58, hI, hq0, hf⟩ := id hM
  obtain ⟨oT, oF, oI, om⟩ := id hO
  exact c_X12_away hT hF oF (fun h R F z => hq h _ (hM.upd F.fn R) (F.fn).lf z (fun _ => rfl))
theorem k_dies {E : En} {d : Nat} {Q : QT} {X : XT} {g : G2} {s : WS} {p : Int32} (hC : CR g s) (hO : OKs s) (hq : KQ Q X g (a1F s (dieM s.T s.F p)) nsN) : M E md_X11_dies (d + 7) [.ref 0, .int p] g Q X := by
  obtain ⟨t, u, ht, hu, hne, h0, h1, hT, hc, him, hI, hp, hf⟩ := id hC
  obtain ⟨oT, oF, oI, om⟩ := id hO
  exact c_X11_dies ht h0 hT hc oF (fun h z R F => hq.1 h (hC.upd F.fl R) (F.fl).hf z) (fun z => hq.2.1 g (by show CR g (s.T, (dieM s.T s.F p).2.2, s.im, s.I, s.m, s.f, s.fl); rw [thr_dies z]; exact hC) (fun _ _ => rfl) z)
theorem n_dies {E : En} {d : Nat} {Q : QT} {X : XT} {g : G2} {s : WS} {p : Int32} (hM : MR g s) (hO : OKs s) (hq : NQ Q g (a1F s (dieM s.T s.F p))) : M E md_X12_dies (d + 2) [.ref 84, .int p] g Q X := by
  obtain ⟨hT, hF, h44, h58, hI, hq0, hf⟩ := id hM
  obtain ⟨oT, oF, oI, om⟩ := id hO
  exact c_X12_dies hT hF oF (fun h R F z => hq h _ (hM.upd F.fn R) (F.fn).lf z (fun _ => rfl))
theorem k_marry {E : En} {d : Nat} {Q : QT} {X : XT} {g : G2} {s : WS} {p : Int32} {o : Int32} (hC : CR g s) (hO : OKs s) (hq : KQ Q X g (a1F s (marM s.T s.F p o)) nsN) : M E md_X11_marry (d + 7) [.ref 0, .int p, .int o] g Q X := by
  obtain ⟨t, u, ht, hu, hne, h0, h1, hT, hc, him, hI, hp, hf⟩ := id hC
  obtain ⟨oT, oF, oI, om⟩ := id hO
  exact c_X11_marry ht h0 hT hc oF (fun h z R F => hq.1 h (hC.upd F.fl R) (F.fl).hf z) (fun z => hq.2.1 g (by show CR g (s.T, (marM s.T s.F p o).2.2, s.im, s.I, s.m, s.f, s.fl); rw [thr_marry z]; exact hC) (fun _ _ => rfl) z)
theorem n_marry {E : En} {d : Nat} {Q : QT} {X : XT} {g : G2} {s : WS} {p : Int32} {o : Int32} (hM : MR g s) (hO : OKs s) (hq : NQ Q g (a1F s (marM s.T s.F p o))) : M E md_X12_marry (d + 2) [.ref 84, .int p, .int o] g Q X := by
  obtain ⟨hT, hF, h44, h58, hI, hq0, hf⟩ := id hM
  obtain ⟨oT, oF, oI, om⟩ := id hO
  exact c_X12_marry hT hF oF (fun h R F z => hq h _ (hM.upd F.fn R) (F.fn).lf z (fun _ => rfl))
theorem k_quarrel {E : En} {d : Nat} {Q : QT} {X : XT} {g : G2} {s : WS} {p : Int32} {o : Int32} (hC : CR g s) (hO : OKs s) (hq : KQ Q X g (a1F s (quaM s.T s.F p o)) nsN) : M E md_X11_quarrel (d + 7) [.ref 0, .int p, .int o] g Q X := by
  obtain ⟨t, u, ht, hu, hne, h0, h1, hT, hc, him, hI, hp, hf⟩ := id hC
  obtain ⟨oT, oF, oI, om⟩ := id hO
  exact c_X11_quarrel ht h0 hT hc oF (fun h z R F => hq.1 h (hC.upd F.fl R) (F.fl).hf z) (fun z => hq.2.1 g (by show CR g (s.T, (quaM s.T s.F p o).2.2, s.im, s.I, s.m, s.f, s.fl); rw [thr_quarrel z]; exact hC) (fun _ _ => rfl) z)
theorem n_quarrel {E : En} {d : Nat} {Q : QT} {X : XT} {g : G2} {s : WS} {p : Int32} {o : Int32} (hM : MR g s) (hO : OKs s) (hq : NQ Q g (a1F s (quaM s.T s.F p o))) : M E md_X12_quarrel (d + 2) [.ref 84, .int p, .int o] g Q X := by
  obtain ⟨hT, hF, h44, h58, hI, hq0, hf⟩ := id hM
  obtain ⟨oT, oF, oI, om⟩ := id hO
  exact c_X12_quarrel hT hF oF (fun h R F z => hq h _ (hM.upd F.fn R) (F.fn).lf z (fun _ => rfl))
theorem k_peace {E : En} {d : Nat} {Q : QT} {X : XT} {g : G2} {s : WS} {k : Int32} (hC : CR g s) (hO : OKs s) (hq : KQ Q X g (a1F s (peaM s.F k)) nsN) : M E md_X11_peace (d + 4) [.ref 0, .int k] g Q X := by
  obtain ⟨t, u, ht, hu, hne, h0, h1, hT, hc, him, hI, hp, hf⟩ := id hC
  obtain ⟨oT, oF, oI, om⟩ := id hO
  exact c_X11_peace hc oF (fun h R F => hq.1 h (hC.upd F.fl R) (F.fl).hf thr_peace)
theorem n_peace {E : En} {d : Nat} {Q : QT} {X : XT} {g : G2} {s : WS} {k : Int32} (hM : MR g s) (hO : OKs s) (hq : NQ Q g (a1F s (peaM s.F k))) : M E md_X12_peace (d + 2) [.ref 84, .int k] g Q X := by
  obtain ⟨hT, hF, h44, h58, hI, hq0, hf⟩ := id hM
  obtain ⟨oT, oF, oI, om⟩ := id hO
  exact c_X12_peace hT hF oF (fun h R F z => hq h _ (hM.upd F.fn R) (F.fn).lf z (fun _ => rfl))
theorem k_undo {E : En} {d : Nat} {Q : QT} {X : XT} {g : G2} {s : WS}  (hC : CR g s) (hO : OKs s) (hq : KQ Q X g (a1F s (undM s.F)) nsN) : M E md_X11_undo (d + 4) [.ref 0] g Q X := by
  obtain ⟨t, u, ht, hu, hne, h0, h1, hT, hc, him, hI, hp, hf⟩ := id hC
  obtain ⟨oT, oF, oI, om⟩ := id hO
  exact c_X11_undo hc oF oT.1 (fun h R F => hq.1 h (hC.upd F.fl R) (F.fl).hf thr_undo)
theorem n_undo {E : En} {d : Nat} {Q : QT} {X : XT} {g : G2} {s : WS}  (hM : MR g s) (hO : OKs s) (hq : NQ Q g (a1F s (undM s.F))) : M E md_X12_undo (d + 2) [.ref 84] g Q X := by
  obtain ⟨hT, hF, h44, h58, hI, hq0, hf⟩ := id hM
  obtain ⟨oT, oF, oI, om⟩ := id hO
  exact c_X12_undo hT hF oF (fun h R F z => hq h _ (hM.upd F.fn R) (F.fn).lf z (fun _ => rfl))
theorem k_hear {E : En} {d : Nat} {Q : QT} {X : XT} {g : G2} {s : WS} {p : Int32} {x : Int32} (hC : CR g s) (hO : OKs s) (hq : KQ Q X g (a1F s (heaM s.F p x)) nsN) : M E md_X11_hear (d + 1) [.ref 0, .int p, .int x] g Q X := by
  obtain ⟨t, u, ht, hu, hne, h0, h1, hT, hc, him, hI, hp, hf⟩ := id hC
  obtain ⟨oT, oF, oI, om⟩ := id hO
  exact c_X11_hear hc oF (fun h R F => hq.1 h (hC.upd F R) (F).hf thr_hear)
theorem n_hear {E : En} {d : Nat} {Q : QT} {X : XT} {g : G2} {s : WS} {p : Int32} {x : Int32} (hM : MR g s) (hO : OKs s) (hq : NQ Q g (a1F s (heaM s.F p x))) : M E md_X12_hear (d + 1) [.ref 84, .int p, .int x] g Q X := by
  obtain ⟨hT, hF, h44, h58, hI, hq0, hf⟩ := id hM
  obtain ⟨oT, oF, oI, om⟩ := id hO
  exact c_X12_hear hT hF oF (fun h R F z => hq h _ (hM.upd F R) (F).lf z (fun _ => rfl))
