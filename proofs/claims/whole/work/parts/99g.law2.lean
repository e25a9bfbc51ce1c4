/-! the law's 23 wrappers: contracts -/
def AOw (E : En) (o sz : Nat) : Nat → Prop := fun q => AD E sz q ∨ q = o
def WDo (E : En) (o : Nat) (cL : ClassId) (g : G2) (v : Nat → Int64) (sz : Nat) (U : State) : Prop :=
  U.heap.size = sz ∧ LPw E o cL g v U.heap ∧ va_K E.2.1 clsL (tysE E ++ [(cL, .long)]) U ∧ inj E ∧ (∀ i, i < NID → o ≠ E.1 i) ∧ STs E (AOw E o sz) U U.heap ∧ va_Nc iaN nsN U
def QcW (E : En) (o : Nat) (cL : ClassId) (Qw : Int32 → G2 → (Nat → Int64) → Prop) (sz : Nat) : Array Value → State → Outcome → State → Prop := fun _ st oo t =>
  (∃ (k : Int32) (g' : G2) (v' : Nat → Int64), oo = .returned (some (.int k)) ∧ Qw k g' v' ∧ LPw E o cL g' v' t.heap) ∧ va_F (AOw E o sz) st t
def XcW : String → State → State → Prop := fun _ _ _ => False
/-- a wrapper: name, code, locals, handlers, cells -/
abbrev WMD : Type := MethodName × ByteArray × Nat × List (Nat × Nat × Nat × Nat) × Nat
abbrev wm_y (w : WMD) : MethodName := w.1
abbrev wm_cc (w : WMD) : ByteArray := w.2.1
abbrev wm_nL (w : WMD) : Nat := w.2.2.1
abbrev wm_hh (w : WMD) : List (Nat × Nat × Nat × Nat) := w.2.2.2.1
abbrev wm_mc (w : WMD) : Nat := w.2.2.2.2
abbrev wm_ws (w : WMD) : List Cond := Cond.codeWith (wm_y w) (wm_cc w) (wm_nL w) (some .int) (wm_hh w) :: lw_g
def WMc (E : En) (o : Nat) (cL : ClassId) (w : WMD) (d : Nat) (As : List Value) (g : G2) (v : Nat → Int64) (Qw : Int32 → G2 → (Nat → Int64) → Prop) : Prop :=
  ∀ l : Launch, l.stackTraces = false → ∀ sz : Nat,
    vx_Met l (wm_y w) (wm_ws w) (rmD d (wm_mc w)) (va_Pc (As.map (cv E) ++ [Value.ref o]) (WDo E o cL g v sz)) (QcW E o cL Qw sz) XcW (wm_mc w) (6 * wm_mc w) (AOw E o sz)
theorem WDo_blind {E : En} {o : Nat} {cL : ClassId} {g : G2} {v : Nat → Int64} {sz : Nat} {av : List Value} : FrameBlind (va_Pc av (WDo E o cL g v sz)) := by
  intro a U gg mk h
  obtain ⟨h0, h1, h2, h3, h4, h5, h6, h7⟩ := h
  exact ⟨h0, h1, h2, va_K.moved (u := U) (U := U.calling gg mk a) (Vm.Alike.refl U.vm) h3, h4, h5, h6.same rfl, va_Nc.moved (u := U) (U := U.calling gg mk a) (Vm.Alike.refl U.vm) h7⟩
theorem WMc.of {E : En} {o : Nat} {cL : ClassId} {w : WMD} {d : Nat} {As : List Value} {g : G2} {v : Nat → Int64} {Qw : Int32 → G2 → (Nat → Int64) → Prop} (hy : plainName (wm_y w).cls = true) (ho : (wm_y w).cls = RL) (hlen : (lg_sl (As.map (cv E) ++ [Value.ref o])).length ≤ wm_nL w)
    (body : ∀ (p : Program) (l : Launch) (e : Env) (s : State) (m : MethodId) (args : Array Value) (below : List Frame) (meth : Method) (c : Code) (ls : Array Slot), LXw E o cL (AOw E o s.heap.size) p l s m args c (wm_cc w) (wm_nL w) → meth.sig.returnType = some .int → meth.locks = false → c.exceptionTable.toList = tableOf (wm_hh w) → lv_has ls (wm_nL w) (lv_args 0 (As.map (cv E) ++ [Value.ref o])) → LPw E o cL g v s.heap →
      W p l e (rmD d (wm_mc w)) s m args below meth c s.heap [] 0 0 (vx_MQ below (QcW E o cL Qw s.heap.size) XcW args s (wm_mc w) (6 * wm_mc w) (AOw E o s.heap.size)) (F0 m 0 ls [])) : WMc E o cL w d As g v Qw := by
  intro l hl0 sz
  refine vx_ofWH (cc := wm_cc w) (maxL := wm_nL w) (ret := some .int) (hh := wm_hh w) hy rfl ?_
  intro p e s m args below meth c s₁ Bd hml hv
  obtain ⟨rfl, hsz, hP, hK, hi, hno, hS, hN⟩ := hv
  subst hsz
  have hts : ∀ w' ∈ lw_g, w'.before ((As.map (cv E) ++ [Value.ref o]).toArray) s = true := fun w' hw => atoms_spec (ws := wm_ws w) Bd.pre w' (List.mem_cons_of_mem _ hw)
  have hcw := atoms_spec (ws := wm_ws w) Bd.pre _ List.mem_cons_self
  have hown : s.vm.findClass RL = some m.cls := by rw [← ho]; exact findClass_of_methodNamed Bd.named
  have hlv := lv_entry (As.map (cv E) ++ [Value.ref o]) (n := wm_nL w) hlen
  rw [lg_entry_eq]
  exact body p l e s m _ below meth c _ ⟨Bd.exec, Bd.bytes, hml, hown, hts, hK, hl0, hi, hno, hS, hN, fun i hi9 => Or.inl (AD_in hi9), Or.inr rfl, fun q hq => Or.inl (Or.inr hq)⟩ Bd.returns Bd.notSynchronized (vx_table (x := wm_y w) Bd hcw) hlv hP
section LawLevel2
variable {E : En} {o : Nat} {cL : ClassId} {A : Nat → Prop} {p : Program} {l : Launch} {e : Env} {R : Room} {s : State} {m : MethodId} {args : Array Value} {below : List Frame} {meth : Method} {c : Code} {H : Heap} {locs : List Loc} {cells slots : Nat} {Q : State → Prop} {cc : ByteArray} {nL pc : Nat} {ls : Array Slot} {g : G2} {v : Nat → Int64} {rest : List Value}
/-- caught by the first row -/
theorem l_catch1 (C : LXw E o cL A p l s m args c cc nL) {x : ExceptionTableEntry} {suf : List ExceptionTableEntry} (htab : c.exceptionTable.toList = x :: suf) (hcov : covers x pc = true) (h0 : x.catchType ≠ 0) {Ex : String} (hlink : Cond.classLink RL x.catchType Ex ∈ lw_g) (hcast : (Ex, Ex) ∈ castL)
    {ce : Cell} {q : Addr} (hcell : H[q]? = some ce) (hv : ce.vm = .none) (hcl : s.vm.findClass Ex = some ce.cls)
    (kk : W p l e R s m args below meth c H locs cells slots Q (F0 m x.handlerPc ls [.ref q])) : vx_W p l e R s m args below meth c H locs cells slots Q (F0 m pc ls rest) q := by
  intro T hT X
  have hpl : e.platform.magicAccessors = ({} : Platform).magicAccessors := by rw [X.admits.platform]
  obtain ⟨c3, c4, hc3, hc4, hasg⟩ := Cond.castable_spec (C.2.2.2.2.2.2.2.2.2.1.2.2.2.2.2.1 _ hcast)
  cases Option.some.inj (hc3.symm.trans hcl)
  obtain ⟨c5, hc5, hcl5⟩ := Cond.classLink_spec C.2.2.2.1 (C.2.2.2.2.1 _ hlink) e.platform hpl
  cases Option.some.inj (hc4.symm.trans hc5)
  obtain ⟨k9, h9, -⟩ := Vm.findClass_spec hcl
  obtain ⟨vm', hW', hf⟩ := ct_one (e := e) (s := s) (S := (T.setTop (F0 m pc ls rest)).pushFrame (.throwing q)) (f := F0 m pc ls rest) (a := q) X.warmed (by show T.heap[q]? = _; rw [hT]; exact hcell) (VmData.ne_statics_of (by rw [hv]; rfl)) ⟨k9, h9⟩ x suf hcov h0 hcl5 hasg
  obtain ⟨t, a1, b1⟩ := kk (T.setVm vm') hT (X.noted hW')
  refine ⟨t, ct_go X rfl hW' (by rw [htab]; exact hf) a1, b1⟩
/-- caught by the second row, which the first one does not take -/
theorem l_catch2 (C : LXw E o cL A p l s m args c cc nL) {z x : ExceptionTableEntry} {suf : List ExceptionTableEntry} (htab : c.exceptionTable.toList = z :: x :: suf) (hz : covers z pc = true) (hz0 : z.catchType ≠ 0) (hlz : Cond.classLink RL z.catchType nsN ∈ lw_g) (hcov : covers x pc = true) (h0 : x.catchType ≠ 0) (hlink : Cond.classLink RL x.catchType iaN ∈ lw_g)
    {ce : Cell} {q : Addr} (hcell : H[q]? = some ce) (hv : ce.vm = .none) (hcl : s.vm.findClass iaN = some ce.cls)
    (kk : W p l e R s m args below meth c H locs cells slots Q (F0 m x.handlerPc ls [.ref q])) : vx_W p l e R s m args below meth c H locs cells slots Q (F0 m pc ls rest) q := by
  intro T hT X
  have hpl : e.platform.magicAccessors = ({} : Platform).magicAccessors := by rw [X.admits.platform]
  have hcast : (iaN, iaN) ∈ castL := by decide +kernel
  obtain ⟨c3, c4, hc3, hc4, hasg⟩ := Cond.castable_spec (C.2.2.2.2.2.2.2.2.2.1.2.2.2.2.2.1 _ hcast)
  cases Option.some.inj (hc3.symm.trans hcl)
  obtain ⟨c5, hc5, hcl5⟩ := Cond.classLink_spec C.2.2.2.1 (C.2.2.2.2.1 _ hlink) e.platform hpl
  cases Option.some.inj (hc4.symm.trans hc5)
  obtain ⟨c6, hc6, hcl6⟩ := Cond.classLink_spec C.2.2.2.1 (C.2.2.2.2.1 _ hlz) e.platform hpl
  obtain ⟨a8, b8, n1, n2, n3⟩ := C.2.2.2.2.2.2.2.2.2.2.1
  cases Option.some.inj (n1.symm.trans hcl)
  cases Option.some.inj (n2.symm.trans hc6)
  obtain ⟨k9, h9, -⟩ := Vm.findClass_spec hcl
  obtain ⟨vm', hW', hf⟩ := ct_two (e := e) (s := s) (S := (T.setTop (F0 m pc ls rest)).pushFrame (.throwing q)) (f := F0 m pc ls rest) (a := q) X.warmed (by show T.heap[q]? = _; rw [hT]; exact hcell) (VmData.ne_statics_of (by rw [hv]; rfl)) ⟨k9, h9⟩ z x suf hz hz0 hcl6 n3 hcov h0 hcl5 hasg
  obtain ⟨t, a1, b1⟩ := kk (T.setVm vm') hT (X.noted hW')
  refine ⟨t, ct_go X rfl hW' (by rw [htab]; exact hf) a1, b1⟩
end LawLevel2
