/-! the constructors: a thin machine of their own -/
def nestC : List (String × Nat × MethodName) := [(RX10, 36, yX1_init), (RX10, 49, yX8_init), (RX7, 11, yX10_init), (RX7, 20, yX9_init), (RX5, 57, yX1_init), (RX4, 17, yX5_init), (RX4, 24, yX0_init), (RX4, 31, yX3_init), (RX11, 9, yX7_init), (RX11, 25, yX10_init), (RX11, 32, yX5_init), (RX11, 39, yX0_init), (RX11, 46, yX3_init), (RX11, 57, yX4_init), (RX11, 67, yX6_init), (RX11, 74, yX2_init)]
def CSt (E : En) (A : Nat → Prop) (U : State) (H : Heap) : Prop := STs E A U H ∧ (∀ q ∈ nestC, va_Nw (.methodLinkNest q.1 q.2.1 q.2.2 "TownTune") U) ∧ va_AO "java/lang/String" U
theorem CSt.warm {E : En} {A : Nat → Prop} {s U : State} {H : Heap} (hW : s.WarmedH U.vm) (h : CSt E A s H) : CSt E A U H := ⟨h.1.warm hW, fun q hq => va_Nw.warmM hW (h.2.1 q hq), h.2.2.moved hW.alike⟩
theorem CSt.same {E : En} {A : Nat → Prop} {u U : State} {H : Heap} (hv : U.vm = u.vm) (h : CSt E A u H) : CSt E A U H := ⟨h.1.same hv, fun q hq => va_Nw.same rfl hv.symm (h.2.1 q hq), h.2.2.moved (by rw [hv]; exact Vm.Alike.refl u.vm)⟩
theorem CSt.kept {E : En} {A : Nat → Prop} {U : State} {H H1 : Heap} (h : CSt E A U H) (hq : ∀ a : Nat, a < H.size → ¬ A a → H1[a]? = H[a]?) : CSt E A U H1 := ⟨h.1.kept hq, h.2⟩
theorem CSt.narrow {E : En} {A B : Nat → Prop} {U : State} {H : Heap} (h : CSt E A U H) (hAB : ∀ q, B q → A q) : CSt E B U H := ⟨h.1.narrow hAB, h.2⟩
/-- what a constructor may write: its object, and what it makes -/
def CA (h sz : Nat) : Nat → Prop := fun q => q = h ∨ sz ≤ q
def dfl (ci : Nat) : List Value := (List.range (nfl ci)).map (fun k => if fk ci k ≤ 1 then .int 0 else .null)
def rmC (d nc ns : Nat) : Room := { frames := d, cells := nc, slots := ns, locals := 128 * d }
abbrev PT : Type := Nat → va_W → Prop
def QcC (E : En) (P : PT) (h sz : Nat) : Array Value → State → Outcome → State → Prop := va_Qv (fun _ : Unit => True) (fun _ t => ∃ w, P h w ∧ va_P E.2.1 clsL w t.heap ∧ va_D (CA h sz) w) (CA h sz)
def CD (E : En) (ci h sz : Nat) (U : State) : Prop := U.heap.size = sz ∧ va_P E.2.1 clsL [(h, .inr (ci, dfl ci))] U.heap ∧ va_K E.2.1 clsL (tysE E) U ∧ CSt E (CA h sz) U U.heap
/-- THE CONTRACT of a constructor: from a bare object it comes to a world w with P -/
def Con (E : En) (ci : Nat) (y : MethodName) (cc : ByteArray) (d nc ns : Nat) (P : PT) : Prop :=
  ∀ (l : Launch) (h sz : Nat), Met l y (Cond.code y cc 1 none :: lw_g) (rmC d nc ns) (va_Pc [.ref h] (CD E ci h sz)) (QcC E P h sz) nc ns (CA h sz)
def KX (E : En) (own : String) (cc : ByteArray) (d nc ns h : Nat) (p : Program) (R : Room) (s : State) (m : MethodId) (args : Array Value) (meth : Method) (c : Code) : Prop :=
  p.tables.exec = Jvm.exec ∧ c.code = cc ∧ c.maxLocals = 1 ∧ meth.sig.returnType = none ∧ meth.locks = false ∧ s.vm.findClass own = some m.cls ∧ (∀ w ∈ lw_g, w.before args s = true) ∧ va_K E.2.1 clsL (tysE E) s ∧ meth.name = "<init>" ∧ CSt E (CA h s.heap.size) s s.heap ∧ R = rmC d nc ns
/-- A PLACE in a constructor's body: its object has the fields fs, beside it lies w -/
def KB (E : En) (ci : Nat) (own : String) (cc : ByteArray) (d nc ns : Nat) (P : PT) (h pc : Nat) (st fs : List Value) (w : va_W) (kc ks : Nat) : Prop :=
  ∀ (p : Program) (l : Launch) (e : Env) (R : Room) (s : State) (m : MethodId) (args : Array Value) (below : List Frame) (meth : Method) (c : Code) (H : Heap) (locs : List Loc) (ls : Array Slot),
    KX E own cc d nc ns h p R s m args meth c → lv_has ls 1 [(0, .ref h)] → va_P E.2.1 clsL ((h, .inr (ci, fs)) :: w) H → va_D (CA h s.heap.size) ((h, .inr (ci, fs)) :: w) → va_S (CA h s.heap.size) s.heap H locs →
    W p l e R s m args below meth c H locs kc ks (MQ below (QcC E P h s.heap.size) args s nc ns (CA h s.heap.size)) (F0 m pc ls st)
theorem d_one {h sz : Nat} {x : va_E} : va_D (CA h sz) [(h, x)] := by
  have key : ∀ (k : Nat) (q : Nat × va_E), ([(h, x)] : va_W)[k]? = some q → k = 0 ∧ q = (h, x) := by
    intro k q hk
    cases k with
    | zero => exact ⟨rfl, (Option.some.inj hk).symm⟩
    | succ n => simp at hk
  refine ⟨fun i j a b h1 h2 _ => ?_, fun k q hk => ?_⟩
  · rw [(key i a h1).1, (key j b h2).1]
  · rw [(key k q hk).2]; exact Or.inl rfl
theorem Con.of {E : En} {ci : Nat} {own : String} {y : MethodName} {cc : ByteArray} {d nc ns : Nat} {P : PT} (hy : plainName y.cls = true) (ho : y.cls = own) (hnm : y.name = "<init>") (hb : ∀ h, KB E ci own cc d nc ns P h 0 [] (dfl ci) [] 0 0) : Con E ci y cc d nc ns P := by
  intro l h sz
  refine Met.ofW (cc := cc) (maxL := 1) (ret := none) hy rfl ?_
  intro p e s m args below meth c s₁ B hml hv
  obtain ⟨rfl, hsz, hP, hK, hS⟩ := hv
  subst hsz
  have hts : ∀ w ∈ lw_g, w.before ([Value.ref h].toArray) s = true := fun w hw => atoms_spec (ws := Cond.code y cc 1 none :: lw_g) B.pre w (List.mem_cons_of_mem _ hw)
  have hown : s.vm.findClass own = some m.cls := by rw [← ho]; exact findClass_of_methodNamed B.named
  have hin : meth.name = "<init>" := ((name_of_methodNamed B.named B.method).1).trans hnm
  have hlv := lv_entry ([.ref h]) (n := 1) (Nat.le_of_ble_eq_true rfl)
  rw [lg_entry_eq]
  exact hb h p l e _ s m _ below meth c s.heap [] _ ⟨B.exec, B.bytes, hml, B.returns, B.notSynchronized, hown, hts, hK, hin, hS, rfl⟩ hlv hP d_one va_S.rf
theorem CD_blind {E : En} {ci h sz : Nat} {av : List Value} : FrameBlind (va_Pc av (CD E ci h sz)) := by
  intro a U gg mk hh
  obtain ⟨h0, h1, h2, h3, h4⟩ := hh
  exact ⟨h0, h1, h2, va_K.moved (u := U) (U := U.calling gg mk a) (Vm.Alike.refl U.vm) h3, h4.same rfl⟩
section Ctor
variable {E : En} {ci : Nat} {own : String} {cc : ByteArray} {d nc ns : Nat} {P : PT} {h pc : Nat} {st fs : List Value} {w : va_W} {kc ks : Nat}
theorem k_ld (hd : decode cc pc = .ok (.aload_n 0, 1)) (kk : KB E ci own cc d nc ns P h (pc + 1) (.ref h :: st) fs w kc ks) : KB E ci own cc d nc ns P h pc st fs w kc ks := by
  intro p l e R s m args below meth c H locs ls C hl hP hD hS
  exact lv_aload_n C.1 C.2.1 hd rfl (lv_at hl 0 rfl) (kk p l e R s m args below meth c H locs ls C hl hP hD hS)
theorem k_ic {n : Int} (v : Int32) (hd : decode cc pc = .ok (.iconst n, 1)) (hv : Int32.ofInt n = v) (kk : KB E ci own cc d nc ns P h (pc + 1) (.int v :: st) fs w kc ks) : KB E ci own cc d nc ns P h pc st fs w kc ks := by
  intro p l e R s m args below meth c H locs ls C hl hP hD hS
  exact lv_iconst C.1 C.2.1 hd hv (kk p l e R s m args below meth c H locs ls C hl hP hD hS)
theorem k_bi {n : Int} (v : Int32) (hd : decode cc pc = .ok (.bipush n, 2)) (hv : (Int8.ofInt n).toInt32 = v) (kk : KB E ci own cc d nc ns P h (pc + 2) (.int v :: st) fs w kc ks) : KB E ci own cc d nc ns P h pc st fs w kc ks := by
  intro p l e R s m args below meth c H locs ls C hl hP hD hS
  exact lv_bipush C.1 C.2.1 hd hv (kk p l e R s m args below meth c H locs ls C hl hP hD hS)
theorem k_si {n : Int} (v : Int32) (hd : decode cc pc = .ok (.sipush n, 3)) (hv : (Int16.ofInt n).toInt32 = v) (kk : KB E ci own cc d nc ns P h (pc + 3) (.int v :: st) fs w kc ks) : KB E ci own cc d nc ns P h pc st fs w kc ks := by
  intro p l e R s m args below meth c H locs ls C hl hP hD hS
  exact lv_sipush C.1 C.2.1 hd hv (kk p l e R s m args below meth c H locs ls C hl hP hD hS)
theorem k_dup {v : Value} (hd : decode cc pc = .ok (.dup, 1)) (hc : v.category = 1) (kk : KB E ci own cc d nc ns P h (pc + 1) (v :: v :: st) fs w kc ks) : KB E ci own cc d nc ns P h pc (v :: st) fs w kc ks := by
  intro p l e R s m args below meth c H locs ls C hl hP hD hS
  exact lv_dup C.1 C.2.1 hd hc (kk p l e R s m args below meth c H locs ls C hl hP hD hS)
theorem k_put {idx k kd : Nat} {ty : FieldType} {v : Value} (hf : Lf own idx ci k kd) (hown : (Tc ci k).1 = own) (ht : parseFieldDescriptor (Tc ci k).2.2.1 = some ty) (hn : narrow ty v = v) (hfit : fits ty v = true) (hl : k < fs.length) (hd : decode cc pc = .ok (.putfield idx, 3)) (kk : KB E ci own cc d nc ns P h (pc + 3) st (fs.set k v) w kc ks) : KB E ci own cc d nc ns P h pc (v :: .ref h :: st) fs w kc ks := by
  intro p l e R s m args below meth c H locs ls C hl0 hP hD hS
  obtain ⟨h1, h2, h3, h4⟩ := hf
  obtain ⟨o1, o2, ⟨ty0, o3⟩, o4⟩ := cls_all ci h4
  cases hfin : (Tc ci k).2.2.2 with
  | false =>
    exact va_put (C := Rc ci) (T := Tc ci) (N := nfl ci) (ref := (Tc ci k).1) C.1 C.2.1 C.2.2.2.2.2.2.1 o2 ty0 o3 o4 C.2.2.2.2.2.1 C.2.2.2.2.2.2.2.1 hP hD hS 0 rfl o1 k h2 (C.2.2.2.2.2.2.1 _ h1) (fun _ h => h) hfin ht hn hfit hl hd (fun H1 locs1 hP1 hD1 hS1 => kk p l e R s m args below meth c H1 locs1 ls C hl0 hP1 hD1 hS1)
  | true =>
    exact va_putF (C := Rc ci) (T := Tc ci) (N := nfl ci) (ref := (Tc ci k).1) C.1 C.2.1 C.2.2.2.2.2.2.1 o2 ty0 o3 o4 C.2.2.2.2.2.1 C.2.2.2.2.2.2.2.1 hP hD hS 0 rfl o1 k h2 (C.2.2.2.2.2.2.1 _ h1) (fun _ h => h) hfin C.2.2.2.2.2.2.2.2.1 hown ht hn hfit hl hd (fun H1 locs1 hP1 hD1 hS1 => kk p l e R s m args below meth c H1 locs1 ls C hl0 hP1 hD1 hS1)
theorem k_newI {n : Int32} (N : Nat) (hd : decode cc pc = .ok (.newarray .int, 2)) (hn : ¬ n < 0) (hN : n.toNatClampNeg = N) (hb : N * 4 ≤ 536870912) (hc : kc + 1 ≤ nc) (hs : ks + N ≤ ns) (ha : Cond.arrayClass .int ∈ lw_g) (kk : ∀ q, KB E ci own cc d nc ns P h (pc + 2) (.ref q :: st) fs (w ++ [(q, .inl (E.2.2.1.1, N, .inl (fun _ => 0)))]) (kc + 1) (ks + N)) : KB E ci own cc d nc ns P h pc (.int n :: st) fs w kc ks := by
  intro p l e R s m args below meth c H locs ls C hl hP hD hS
  have hR := C.2.2.2.2.2.2.2.2.2.2
  refine va_newa (atype := .int) (ty := .int) (a0 := (N, .inl (fun _ => 0))) C.1 C.2.1 (C.2.2.2.2.2.2.1 _ ha) rfl C.2.2.2.2.2.2.2.1 hP hD hS (fun q hq => Or.inr hq) (fun cA => rfl) hn hN hb (by rw [hR]; exact hc) (by rw [hR]; exact hs) hd (fun q cA H1 hK1 hP1 hD1 hS1 => ?_)
  have e1 : s.vm.findClass "[I" = some cA := (hK1.2 (tysE E).length (cA, .int) (by rw [List.getElem?_append_right (Nat.le_refl _), Nat.sub_self]; rfl)).2
  have e2 : s.vm.findClass "[I" = some E.2.2.1.1 := (C.2.2.2.2.2.2.2.1.2 0 _ rfl).2
  cases Option.some.inj (e1.symm.trans e2)
  exact kk q p l e R s m args below meth c H1 locs ls C hl hP1 hD1 hS1
theorem k_newB {n : Int32} (N : Nat) (hd : decode cc pc = .ok (.newarray .byte, 2)) (hn : ¬ n < 0) (hN : n.toNatClampNeg = N) (hb : N * 1 ≤ 536870912) (hc : kc + 1 ≤ nc) (hs : ks + N ≤ ns) (ha : Cond.arrayClass .byte ∈ lw_g) (kk : ∀ q, KB E ci own cc d nc ns P h (pc + 2) (.ref q :: st) fs (w ++ [(q, .inl (E.2.2.1.2.1, N, .inl (fun _ => 0)))]) (kc + 1) (ks + N)) : KB E ci own cc d nc ns P h pc (.int n :: st) fs w kc ks := by
  intro p l e R s m args below meth c H locs ls C hl hP hD hS
  have hR := C.2.2.2.2.2.2.2.2.2.2
  refine va_newa (atype := .byte) (ty := .byte) (a0 := (N, .inl (fun _ => 0))) C.1 C.2.1 (C.2.2.2.2.2.2.1 _ ha) rfl C.2.2.2.2.2.2.2.1 hP hD hS (fun q hq => Or.inr hq) (fun cA => rfl) hn hN hb (by rw [hR]; exact hc) (by rw [hR]; exact hs) hd (fun q cA H1 hK1 hP1 hD1 hS1 => ?_)
  have e1 : s.vm.findClass "[B" = some cA := (hK1.2 (tysE E).length (cA, .byte) (by rw [List.getElem?_append_right (Nat.le_refl _), Nat.sub_self]; rfl)).2
  have e2 : s.vm.findClass "[B" = some E.2.2.1.2.1 := (C.2.2.2.2.2.2.2.1.2 1 _ rfl).2
  cases Option.some.inj (e1.symm.trans e2)
  exact kk q p l e R s m args below meth c H1 locs ls C hl hP1 hD1 hS1
theorem k_ret (hd : decode cc pc = .ok (.return_, 1)) (hc : kc ≤ nc) (hs : ks ≤ ns) (hp : P h ((h, .inr (ci, fs)) :: w)) : KB E ci own cc d nc ns P h pc [] fs w kc ks := by
  intro p l e R s m args below meth c H locs ls C hl hP hD hS
  refine W.widen (k := nc) (n := ns) hc hs ?_
  exact W.vret C.1 C.2.1 C.2.2.2.1 (fun t ht _ => ⟨⟨(), rfl, trivial, _, hp, by rw [ht]; exact hP, hD⟩, hS.F ht⟩) hS.2.2 hd (hlocks := C.2.2.2.2.1)
theorem k_obj {idx : Nat} (hd0 : decode cc pc = .ok (.aload_n 0, 1)) (hd : decode cc (pc + 1) = .ok (.invokespecial idx, 3)) (h1 : Cond.methodLink own idx Lib.objectInit ∈ lw_g) (h2 : Cond.instanceMethod Lib.objectInit ∈ lw_g) (h3 : Cond.code Lib.objectInit ⟨#[0xb1]⟩ 1 none ∈ lw_g) (hd1 : 1 ≤ d) (kk : KB E ci own cc d nc ns P h (pc + 1 + 3) [] fs w kc ks) : KB E ci own cc d nc ns P h pc [] fs w kc ks := by
  intro p l e R s m args below meth c H locs ls C hl hP hD hS
  have hR := C.2.2.2.2.2.2.2.2.2.2
  refine lv_aload_n C.1 C.2.1 hd0 rfl (lv_at hl 0 rfl) ?_
  refine W.objInit (g := F0 m (pc + 1) ls [.ref h]) C.1 C.2.1 C.2.2.2.2.2.1 (C.2.2.2.2.2.2.1 _ h1) (C.2.2.2.2.2.2.1 _ h2) (C.2.2.2.2.2.2.1 _ h3) rfl (by rw [C.2.2.1]; exact hl.1) rfl hd (by rw [hR]; exact hd1) (by rw [hR]; show 0 + 0 + 12 ≤ 128 * d; omega) ?_
  exact kk p l e R s m args below meth c H locs ls C hl hP hD hS
end Ctor
