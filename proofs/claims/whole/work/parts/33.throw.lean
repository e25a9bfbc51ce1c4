/-! 'throw new E("text")' in TownTune -/
def thN : List String := ["java/lang/RuntimeException", "java/lang/Exception"]
def thB : List Cond := castL.map (fun q => .castable q.1 q.2) ++ declL.map (fun q => .declares q)
def thOK (ik ic : Nat) (cls : String) : Prop := Bundle.fit cls = true ∧ Cond.classLink RX11 ik cls ∈ lw_g ∧ Cond.initialized cls ∈ lw_g ∧ (∀ w ∈ (vx_atS RX11 ic cls thN).filter goodWord, w ∈ lw_g) ∧ (∀ w ∈ (vx_atS RX11 ic cls thN).filter (fun w => !goodWord w), w ∈ thB) ∧ (∀ w ∈ Cond.classLink RX11 ik cls :: Cond.initialized cls :: vx_atS RX11 ic cls thN, vx_ot w = true)
theorem thN_ok : ∀ n ∈ thN, Bundle.fit n = true := by decide +kernel
theorem th_all {L B : List Cond} (h : L.all (fun w => decide (w ∈ B)) = true) : ∀ w ∈ L, w ∈ B := fun w hw => of_decide_eq_true (List.all_eq_true.mp h w hw)
theorem th_g {L : List Cond} (h : (L.filter goodWord).all (fun w => decide (w ∈ lw_tbl)) = true) : ∀ w ∈ L.filter goodWord, w ∈ lw_g := fun w hw => List.mem_filter.mpr ⟨of_decide_eq_true (List.all_eq_true.mp h w hw), (List.mem_filter.mp hw).2⟩
theorem th_ot {L : List Cond} (h : L.all vx_ot = true) : ∀ w ∈ L, vx_ot w = true := fun w hw => List.all_eq_true.mp h w hw
theorem th_iae : thOK 95 99 "java/lang/IllegalArgumentException" := ⟨by decide +kernel, lw_mem 785 (by decide +kernel) (by decide +kernel), lw_mem 120 (by decide +kernel) (by decide +kernel), th_g (by decide +kernel), th_all (by decide +kernel), th_ot (by decide +kernel)⟩
theorem b_throw {E : En} {md : MD} {d : Nat} {Q : QT} {X : XT} {pc : Nat} {lv : List (Nat × Value)} {st : List Value} {g : G2} {k ik is ic n : Nat} {cls text : String} (ho : md_own md = RX11) (T : thOK ik ic cls) (hs : (RX11, is, text, n) ∈ strL) (hd : 6 ≤ d) (hk : k + 1 ≤ md_mc md) (hw : (st.map fun v => v.category).sum ≤ 8)
    (d0 : decode (md_cc md) pc = .ok (.new ik, 3)) (d1 : decode (md_cc md) (pc + 3) = .ok (.dup, 1)) (d2 : decode (md_cc md) (pc + 4) = .ok (.ldc is, 2)) (d3 : decode (md_cc md) (pc + 6) = .ok (.invokespecial ic, 3)) (d4 : decode (md_cc md) (pc + 9) = .ok (.athrow, 1)) (hx : X cls g) : B E md d Q X pc lv st g k := by
  intro p l e R s m args below meth c H locs ls C hl hP hS
  have hts := C.2.2.2.2.2.2.1
  have hRm := C.2.2.2.2.2.2.2.2.2.2.2.2
  have hSt := C.2.2.2.2.2.2.2.2.2.2.2.1
  have hown : s.vm.findClass RX11 = some m.cls := by rw [← ho]; exact C.2.2.2.2.2.1
  have hcat : ((st.map (cv E)).map fun v => v.category).sum ≤ 8 := by rw [List.map_map, show ((fun v : Value => v.category) ∘ cv E) = (fun v => v.category) from funext (cv_cat E)]; exact hw
  obtain ⟨t1, t2, t3, t4, t5, t6⟩ := T
  have hB : ∀ w ∈ thB, w.before args s = true := by
    intro w hw
    rcases List.mem_append.mp hw with h | h
    · obtain ⟨q, h1, rfl⟩ := List.mem_map.mp h
      exact va_Nw.use rfl (hSt.2.2.2.2.2.1 q h1)
    · obtain ⟨q, h1, rfl⟩ := List.mem_map.mp h
      exact va_Nw.use rfl (hSt.2.2.2.2.2.2 q h1)
  refine vx_throwS (names := thN) (A := AD E s.heap.size) (sa := E.1 (1000 + n)) (text := text) C.1 C.2.1 C.2.2.2.2.2.2.2.2.2.1 hown t1 thN_ok (hts _ t2) (hts _ t3) (hSt.2.2.2.1 _ hs) (vx_hat (fun w hw => hts _ (t4 w hw)) t5 hB) t6 hSt.1 hSt.2.1 hS (by rw [C.2.2.1]; exact hl.1) d0 d1 d2 d3 d4 (fun x hx => (C.2.2.2.2.2.2.2.2.1 x hx).elim) (by rw [hRm]; show 2 + 3 < d; omega) (by rw [hRm]; simp only [rmD, thN, List.length_cons, List.length_nil]; omega) (by rw [hRm]; exact hk) (by rw [hRm]; simp only [rmD]; omega) C.2.2.2.2.1 (fun t hvm hz hk2 => ?_) hS.2.2 hk (by omega)
  refine ⟨⟨g, hx, hP.kept (fun i q hq => hk2 q.1 (hP i q hq).lt)⟩, ⟨Nat.le_trans hS.1 hz, fun q h1 h2 => ?_⟩⟩
  rw [hk2 q (Nat.lt_of_lt_of_le h1 hS.1)]
  exact hS.2.1 q h1 h2
theorem b_throwW {E : En} {md : MD} {d : Nat} {Q : QT} {X : XT} {pc : Nat} {lv : List (Nat × Value)} {st : List Value} {g : G2} {k ik is ic n : Nat} {cls text : String} (ho : md_own md = RX11) (T : thOK ik ic cls) (hs : (RX11, is, text, n) ∈ strL) (hd : 6 ≤ d) (hk : k + 1 ≤ md_mc md) (hw : (st.map fun v => v.category).sum ≤ 8)
    (d0 : decode (md_cc md) pc = .ok (.new ik, 3)) (d1 : decode (md_cc md) (pc + 3) = .ok (.dup, 1)) (d2 : decode (md_cc md) (pc + 4) = .ok (.ldc_w is, 3)) (d3 : decode (md_cc md) (pc + 7) = .ok (.invokespecial ic, 3)) (d4 : decode (md_cc md) (pc + 10) = .ok (.athrow, 1)) (hx : X cls g) : B E md d Q X pc lv st g k := by
  intro p l e R s m args below meth c H locs ls C hl hP hS
  have hts := C.2.2.2.2.2.2.1
  have hRm := C.2.2.2.2.2.2.2.2.2.2.2.2
  have hSt := C.2.2.2.2.2.2.2.2.2.2.2.1
  have hown : s.vm.findClass RX11 = some m.cls := by rw [← ho]; exact C.2.2.2.2.2.1
  have hcat : ((st.map (cv E)).map fun v => v.category).sum ≤ 8 := by rw [List.map_map, show ((fun v : Value => v.category) ∘ cv E) = (fun v => v.category) from funext (cv_cat E)]; exact hw
  obtain ⟨t1, t2, t3, t4, t5, t6⟩ := T
  have hB : ∀ w ∈ thB, w.before args s = true := by
    intro w hw
    rcases List.mem_append.mp hw with h | h
    · obtain ⟨q, h1, rfl⟩ := List.mem_map.mp h
      exact va_Nw.use rfl (hSt.2.2.2.2.2.1 q h1)
    · obtain ⟨q, h1, rfl⟩ := List.mem_map.mp h
      exact va_Nw.use rfl (hSt.2.2.2.2.2.2 q h1)
  refine vx_throwSW (names := thN) (A := AD E s.heap.size) (sa := E.1 (1000 + n)) (text := text) C.1 C.2.1 C.2.2.2.2.2.2.2.2.2.1 hown t1 thN_ok (hts _ t2) (hts _ t3) (hSt.2.2.2.1 _ hs) (vx_hat (fun w hw => hts _ (t4 w hw)) t5 hB) t6 hSt.1 hSt.2.1 hS (by rw [C.2.2.1]; exact hl.1) d0 d1 d2 d3 d4 (fun x hx => (C.2.2.2.2.2.2.2.2.1 x hx).elim) (by rw [hRm]; show 2 + 3 < d; omega) (by rw [hRm]; simp only [rmD, thN, List.length_cons, List.length_nil]; omega) (by rw [hRm]; exact hk) (by rw [hRm]; simp only [rmD]; omega) C.2.2.2.2.1 (fun t hvm hz hk2 => ?_) hS.2.2 hk (by omega)
  refine ⟨⟨g, hx, hP.kept (fun i q hq => hk2 q.1 (hP i q hq).lt)⟩, ⟨Nat.le_trans hS.1 hz, fun q h1 h2 => ?_⟩⟩
  rw [hk2 q (Nat.lt_of_lt_of_le h1 hS.1)]
  exact hS.2.1 q h1 h2
