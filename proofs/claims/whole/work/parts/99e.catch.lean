/-! what a method throws, caught by the caller's own table (one row, or a second one behind a row that does not take it) -/
section Cat
/-- a row that covers the place, its class linked: it takes the object, or the search goes on; the tables know the class then -/
theorem ct_row {Q : Handler → Pre} {Ec : CtlPost} {e : Env} {d : Bool} {acts : List Action} {s : State} {f : JFrame} {a : Addr} {x : ExceptionTableEntry} {r : List ExceptionTableEntry} {c : ClassId} {cell : Cell} {b : Bool}
    (hcov : covers x f.pc = true) (hx0 : x.catchType ≠ 0) (hlink : s.vm.ClassLinks e.platform f.method.cls x.catchType c) (hcell : s.heap[a]? = some cell) (hno : ∀ k, cell.vm ≠ .statics k)
    (hk1 : ∃ k, s.vm.classes[cell.cls]? = some k) (hk2 : ∃ k, s.vm.classes[c]? = some k) (hb : s.vm.assignable cell.cls c = b) :
    wp (findHandler.go f a (x :: r)) Q Ec e d acts s ↔ (if b = true then Q (.found x.handlerPc) d acts (s.setVm (s.vm.noted f.method.cls x.catchType (.cls c))) else wp (findHandler.go f a r) Q Ec e d acts (s.setVm (s.vm.noted f.method.cls x.catchType (.cls c)))) := by
  have hal : s.vm.Alike (s.vm.noted f.method.cls x.catchType (.cls c)) := (Vm.Alike.refl s.vm).noted _ _ _
  obtain ⟨ha, ht⟩ := (resolveClass_links e.toSetting hlink).op (op := VmOp.resolveClass f.method.cls x.catchType) rfl
  obtain ⟨u1, hu1⟩ := hk1
  obtain ⟨u2, hu2⟩ := hk2
  obtain ⟨v1, hv1, -⟩ := hal.2.2 _ _ hu1
  obtain ⟨v2, hv2, -⟩ := hal.2.2 _ _ hu2
  have hb2 : (s.vm.noted f.method.cls x.catchType (.cls c)).assignable cell.cls c = b := by rw [hal.assignable]; exact hb
  simp only [covers] at hcov
  cases b <;> simp [findHandler.go, hcov, hx0, ha, ht, hcell, hno, hv1, hv2, hb2, VmOp.dirties, VmOp.acts]
/-- the search ends at pc, in these tables -/
def ctF (e : Env) (S : State) (f : JFrame) (a : Addr) (rows : List ExceptionTableEntry) (pc : Nat) (vm' : Vm) : Prop :=
  ∀ (Q : Handler → Pre) (Ec : CtlPost) (d : Bool) (acts : List Action), wp (findHandler.go f a rows) Q Ec e d acts S ↔ Q (.found pc) d acts (S.setVm vm')
theorem ct_one {e : Env} {s S : State} {f : JFrame} {a : Addr} {cell : Cell} {c : ClassId} (hW : s.WarmedH S.vm) (hcell : S.heap[a]? = some cell) (hno : ∀ k, cell.vm ≠ .statics k) (hk : ∃ k, s.vm.classes[cell.cls]? = some k)
    (x : ExceptionTableEntry) (r : List ExceptionTableEntry) (hcov : covers x f.pc = true) (hx0 : x.catchType ≠ 0) (hlink : s.vm.ClassLinks e.platform f.method.cls x.catchType c) (hb : s.vm.assignable cell.cls c = true) :
    ∃ vm', s.WarmedH vm' ∧ ctF e S f a (x :: r) x.handlerPc vm' := by
  obtain ⟨dk, _, _, kt, hd, _, _, _, _, hkt, _, hopen⟩ := hlink.here
  obtain ⟨k0, hk0⟩ := hk
  obtain ⟨u0, hu0, -⟩ := hW.alike.2.2 _ _ hk0
  obtain ⟨u1, hu1, -⟩ := hW.alike.2.2 _ _ hkt
  exact ⟨_, hW.noted hd hopen (State.rightAt_cls hlink), fun Q Ec d acts => by
    rw [ct_row (b := true) hcov hx0 (hW.classLinks hlink) hcell hno ⟨u0, hu0⟩ ⟨u1, hu1⟩ (by rw [hW.alike.assignable]; exact hb), if_pos rfl]⟩
theorem ct_two {e : Env} {s S : State} {f : JFrame} {a : Addr} {cell : Cell} {c c2 : ClassId} (hW : s.WarmedH S.vm) (hcell : S.heap[a]? = some cell) (hno : ∀ k, cell.vm ≠ .statics k) (hk : ∃ k, s.vm.classes[cell.cls]? = some k)
    (z x : ExceptionTableEntry) (r : List ExceptionTableEntry) (hz : covers z f.pc = true) (hz0 : z.catchType ≠ 0) (hlz : s.vm.ClassLinks e.platform f.method.cls z.catchType c2) (hbz : s.vm.assignable cell.cls c2 = false)
    (hcov : covers x f.pc = true) (hx0 : x.catchType ≠ 0) (hlink : s.vm.ClassLinks e.platform f.method.cls x.catchType c) (hb : s.vm.assignable cell.cls c = true) :
    ∃ vm', s.WarmedH vm' ∧ ctF e S f a (z :: x :: r) x.handlerPc vm' := by
  obtain ⟨dk, _, _, kt, hd, _, _, _, _, hkt, _, hopen⟩ := hlz.here
  obtain ⟨k0, hk0⟩ := id hk
  obtain ⟨u0, hu0, -⟩ := hW.alike.2.2 _ _ hk0
  obtain ⟨u1, hu1, -⟩ := hW.alike.2.2 _ _ hkt
  have hW2 : s.WarmedH (S.setVm (S.vm.noted f.method.cls z.catchType (.cls c2))).vm := hW.noted hd hopen (State.rightAt_cls hlz)
  obtain ⟨vm', hw', hq⟩ := ct_one (S := S.setVm (S.vm.noted f.method.cls z.catchType (.cls c2))) hW2 hcell hno hk x r hcov hx0 hlink hb
  refine ⟨vm', hw', fun Q Ec d acts => ?_⟩
  rw [ct_row (b := false) hz hz0 (hW.classLinks hlz) hcell hno ⟨u0, hu0⟩ ⟨u1, hu1⟩ (by rw [hW.alike.assignable]; exact hbz), if_neg Bool.false_ne_true]
  exact hq Q Ec d acts
variable {p : Program} {l : Launch} {e : Env} {R : Room} {s : State} {m : MethodId} {args : Array Value} {below : List Frame} {meth : Method} {c : Code} {H : Heap} {locs : List Loc} {cells slots : Nat} {Q : State → Prop}
/-- from the thrown object to the handler -/
theorem ct_go {T : State} (X : Stand p l e R s m args below meth c T locs cells slots) {g : JFrame} (hg : g.method = m) {q : Addr} {pc : Nat} {vm' : Vm} (hW : s.WarmedH vm') (hf : ctF e ((T.setTop g).pushFrame (.throwing q)) g q c.exceptionTable.toList pc vm') {t : State} (hrest : Steps p.tables e below ((T.setVm vm').setTop { g with pc := pc, stack := [.ref q] }) t) : Steps p.tables e below ((T.setTop g).pushFrame (.throwing q)) t := by
  subst hg
  have h := X.here
  have hm : ((T.setTop g).pushFrame (.throwing q)).vm.method? g.method = some meth := X.method'
  have hI : (stepThrowing e ((T.setTop g).pushFrame (.throwing q)) q (.java g :: T.frames.tail)).Is ((((T.setTop g).pushFrame (.throwing q)).setVm vm').setFrames (.java { g with pc := pc, stack := [.ref q] } :: T.frames.tail)) [] := by
    simp only [stepThrowing, searchFrame, vmDo]
    generalize hr : Sem.go _ e false [] _ = res
    obtain ⟨as, rfl, ha⟩ := Sem.eq_ok_of hr (a := Handler.found pc) (s' := ((T.setTop g).pushFrame (.throwing q)).setVm vm') (acts' := []) (by simp [W.findHandler_eq hm X.code, hf _ _ _ _])
    exact ⟨rfl, ha⟩
  obtain ⟨hgo, hw⟩ := h.throwing q
  refine Steps.head hgo hw ?_
  rw [stepThread_throwing (frames_entered h.top _), hI.1]
  obtain ⟨g0, hg0⟩ := Option.isSome_iff_exists.mp h.top
  obtain ⟨r, hr⟩ := State.topJava?_eq_some.mp hg0
  have hr2 : (T.setVm vm').frames = .java g0 :: r := hr
  rw [State.setTop_of_frames _ hr2] at hrest
  have e1 : ∀ (F G : List Frame), ((T.setFrames F).setVm vm').setFrames G = (T.setVm vm').setFrames G := fun F G => by
    rw [show (T.setFrames F).setVm vm' = (T.setVm vm').setFrames F from rfl, State.setFrames_setFrames]
  rw [hr, List.tail_cons, State.pushFrame, State.setTop_of_frames _ hr, State.setFrames_setFrames, e1]
  exact hrest
end Cat
