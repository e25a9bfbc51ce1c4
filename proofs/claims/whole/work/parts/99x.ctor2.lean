theorem dfl_ok : ∀ ci, ci < 13 → ∀ k, k < nfl ci → (parseFieldDescriptor (Tc ci k).2.2.1).map defaultValue = some (vp_V (dfl ci) k) := by decide +kernel
theorem dfl_ty {ci : Nat} (hc : ci < 13) {ty0 : Nat → FieldType} (o3 : ∀ k, k < nfl ci → parseFieldDescriptor (Tc ci k).2.2.1 = some (ty0 k)) : ∀ j, j < nfl ci → defaultValue (ty0 j) = vp_V (dfl ci) j := by
  intro j hj
  have h := dfl_ok ci hc j hj
  rw [o3 j hj] at h
  exact Option.some.inj h
/-- a class that can be made: its words -/
def Lnew (ci : Nat) : Prop := Cond.instantiable (Rc ci) (nfl ci) ∈ lw_g ∧ Cond.initialized (Rc ci) ∈ lw_g
/-- behind a constructor's call -/
theorem ct_join {D : va_G} {cl : List vw_C} {A : Nat → Prop} {ws w' : va_W} {q : Nat} {x : va_E} {H1 H2 : Heap} (hP : va_P D cl (ws ++ [(q, x)]) H1) (hD : va_D A (ws ++ [(q, x)])) (hA : ∀ a, CA q H1.size a → A a) (hk : ∀ a : Nat, a < H1.size → ¬ CA q H1.size a → H2[a]? = H1[a]?) (hP2 : va_P D cl w' H2) (hD2 : va_D (CA q H1.size) w') : va_P D cl (ws ++ w') H2 ∧ va_D A (ws ++ w') := by
  have hq : (ws ++ [(q, x)])[ws.length]? = some (q, x) := by rw [List.getElem?_append_right (Nat.le_refl _), Nat.sub_self]; rfl
  have hat : ∀ (k : Nat) (y : Nat × va_E), ws[k]? = some y → (ws ++ [(q, x)])[k]? = some y := fun k y hy => by rw [List.getElem?_append_left (List.getElem?_eq_some_iff.mp hy).1]; exact hy
  have apart : ∀ (k : Nat) (y : Nat × va_E), ws[k]? = some y → y.1 < H1.size ∧ ¬ CA q H1.size y.1 := by
    intro k y hy
    have hl := (hP k y (hat k y hy)).lt
    refine ⟨hl, fun h => ?_⟩
    rcases h with h | h
    · have := hD.1 k ws.length y (q, x) (hat k y hy) hq h
      have := (List.getElem?_eq_some_iff.mp hy).1
      omega
    · omega
  refine ⟨va_P.app (fun k y hy => (hP k y (hat k y hy)).kept (hk y.1 (apart k y hy).1 (apart k y hy).2)) hP2, va_D.app ⟨fun i j a b h1 h2 e => hD.1 i j a b (hat i a h1) (hat j b h2) e, fun k y hy => hD.2 k y (hat k y hy)⟩ (hD2.weaken (fun k y _ h => hA y.1 h)) (fun i j a b h1 h2 e => ?_)⟩
  exact (apart i a h1).2 (by rw [e]; exact hD2.2 j b h2)
section Ctor2
variable {E : En} {ci : Nat} {own : String} {cc : ByteArray} {d nc ns : Nat} {P : PT} {h pc : Nat} {st fs : List Value} {w : va_W} {kc ks : Nat}
/-- an object of a nested class: new, dup, its constructor -/
theorem k_new {ci' idx idx2 d' nc' ns' : Nat} {y' : MethodName} {cc' : ByteArray} {P' : PT} (hci : ci' < 13) (hn : Lnew ci') (hd : decode cc pc = .ok (.new idx, 3)) (hd2 : decode cc (pc + 3) = .ok (.dup, 1)) (hd3 : decode cc (pc + 3 + 1) = .ok (.invokespecial idx2, 3)) (hcl : Cond.classLink own idx (Rc ci') ∈ lw_g) (hnest : (own, idx2, y') ∈ nestC) (hin : Cond.instanceMethod y' ∈ lw_g) (hcode : Cond.code y' cc' 1 none ∈ lw_g) (hini : Cond.initialized y'.cls ∈ lw_g) (hy : y'.name = "<init>")
    (hdd : y'.cls ≠ "java/lang/invoke/MethodHandle" ∧ y'.cls ≠ "java/lang/invoke/VarHandle" ∧ (parseMethodDescriptor y'.desc).map (fun d => d.parameters.length) = some 0) (hw : (st.map fun v => v.category).sum + 1 ≤ 8) (hfr : d' + 1 ≤ d) (hc : kc + 1 + nc' ≤ nc) (hs : ks + nfl ci' + ns' ≤ ns)
    (hC : Con E ci' y' cc' d' nc' ns' P')
    (kk : ∀ q w', P' q w' → KB E ci own cc d nc ns P h (pc + 3 + 1 + 3) (.ref q :: st) fs (w ++ w') (kc + 1 + nc') (ks + nfl ci' + ns')) : KB E ci own cc d nc ns P h pc st fs w kc ks := by
  intro p l e R s m args below meth c H locs ls C hl hP hD hS
  have hR := C.2.2.2.2.2.2.2.2.2.2
  have hts := C.2.2.2.2.2.2.1
  have hSt := C.2.2.2.2.2.2.2.2.2.1
  obtain ⟨o1, o2, ⟨ty0, o3⟩, o4⟩ := cls_all ci' hci
  refine va_new (ci := ci') (fs := dfl ci') (C := Rc ci') (T := Tc ci') (N := nfl ci') C.1 C.2.1 hts o2 ty0 o3 C.2.2.2.2.2.1 (hts _ hcl) (hts _ hn.1) (hts _ hn.2) C.2.2.2.2.2.2.2.1 hP hD hS (fun q hq => Or.inr hq) o1 (dfl_ty hci o3) (by rw [hR]; show kc + 1 ≤ nc; omega) (by rw [hR]; show ks + nfl ci' ≤ ns; omega) hd (fun q H1 hP1 hD1 hS1 => ?_)
  refine lv_dup C.1 C.2.1 hd2 rfl ?_
  have hq : ((h, .inr (ci, fs)) :: w ++ [(q, (.inr (ci', dfl ci') : va_E))])[((h, .inr (ci, fs)) :: w : va_W).length]? = some (q, .inr (ci', dfl ci')) := by rw [List.getElem?_append_right (Nat.le_refl _), Nat.sub_self]; rfl
  have hPc : va_P E.2.1 clsL [(q, .inr (ci', dfl ci'))] H1 := by
    intro k y hy
    cases k with
    | zero => cases hy; exact hP1 _ _ hq
    | succ n => simp at hy
  have hqA : CA h s.heap.size q := hD1.2 _ _ hq
  have hA1 : ∀ a, CA q H1.size a → CA h s.heap.size a := fun a ha => ha.elim (fun e => e ▸ hqA) (fun h9 => Or.inr (Nat.le_trans hS1.1 h9))
  have hw2 : ((Value.ref q :: st).map fun v => v.category).sum ≤ 8 := by
    rw [List.map_cons, List.sum_cons, show (Value.ref q).category = 1 from rfl]
    omega
  refine va_callv (va_runIN (As := []) (rest := .ref q :: st) (host := "TownTune") (b := q) ⟨C.1, C.2.1, C.2.2.1, C.2.2.2.2.2.1, hts⟩ (hC l q H1.size) ⟨va_cnB (R := R) 0 hts (lw_gin (fun w9 hw9 => (List.mem_cons.mp hw9).elim (fun e => e ▸ hcode) id)) rfl rfl rfl (hSt.2.1 _ hnest) (hts _ hini) hdd (by rw [hR]; exact ⟨hfr, by show 8 + (1 + 11) + 128 * d' ≤ 128 * d; omega⟩), hy, hts _ hin⟩
    ⟨CD_blind, fun U hU hW => ⟨rfl, by rw [hU], by rw [hU]; exact hPc, va_K.moved hW.alike C.2.2.2.2.2.2.2.1, by rw [hU]; exact ((hSt.kept hS1.2.1).warm hW).narrow hA1⟩⟩ rfl rfl hl.1 rfl (lv_room hw2) hd3 (by rw [hR]; exact ⟨hc, hs⟩)) hS1 (fun a _ h9 => hA1 a h9) hA1 (fun u t H2 locs2 ht hvm hw9 hB hz2 hk2 hS2 => ?_)
  obtain ⟨w', hP', hP2, hD2⟩ := hB
  rw [ht] at hP2
  obtain ⟨hP3, hD3⟩ := ct_join (ws := (h, .inr (ci, fs)) :: w) hP1 hD1 hA1 hk2 hP2 hD2
  exact kk q w' hP' p l e R s m args below meth c H2 locs2 ls C hl hP3 hD3 hS2
/-- a field of a cell of the world -/
theorem k_get {idx ci' k kd a : Nat} {fs' : List Value} {v : Value} (q0 : Nat) (hq : ((h, .inr (ci, fs)) :: w : va_W)[q0]? = some (a, .inr (ci', fs'))) (hf : Lf own idx ci' k kd) (hv : fs'[k]? = some v) (hd : decode cc pc = .ok (.getfield idx, 3)) (kk : KB E ci own cc d nc ns P h (pc + 3) (v :: st) fs w kc ks) : KB E ci own cc d nc ns P h pc (.ref a :: st) fs w kc ks := by
  intro p l e R s m args below meth c H locs ls C hl hP hD hS
  obtain ⟨h1, h2, h3, h4⟩ := hf
  obtain ⟨o1, o2, -, -⟩ := cls_all ci' h4
  exact va_get (C := Rc ci') (T := Tc ci') (N := nfl ci') (ref := (Tc ci' k).1) C.1 C.2.1 C.2.2.2.2.2.2.1 o2 C.2.2.2.2.2.1 C.2.2.2.2.2.2.2.1 hP q0 hq o1 k h2 (C.2.2.2.2.2.2.1 _ h1) (fun _ h => h) hv hd (kk p l e R s m args below meth c H locs ls C hl hP hD hS)
end Ctor2
