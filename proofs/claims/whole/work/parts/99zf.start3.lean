theorem hts_g {args : Array Value} {s : State} (hts : ∀ w ∈ lw_tbl, w.before args s = true) : ∀ w ∈ lw_g, w.before args s = true := fun w hw => hts w (List.mem_filter.mp hw).1
theorem ln_all : ∀ ci, ci < 13 → Lnew ci := by
  intro ci h
  match ci, h with
  | 0, _ => exact ln_0
  | 1, _ => exact ln_1
  | 2, _ => exact ln_2
  | 3, _ => exact ln_3
  | 4, _ => exact ln_4
  | 5, _ => exact ln_5
  | 6, _ => exact ln_6
  | 7, _ => exact ln_7
  | 8, _ => exact ln_8
  | 9, _ => exact ln_9
  | 10, _ => exact ln_10
  | 11, _ => exact ln_11
  | 12, _ => exact ln_12
  | n + 13, h => exact absurd h (by omega)
theorem arr_start {args : Array Value} {s : State} {ty : FieldType} (h : (Cond.arrayClass ty).before args s = true) (hr : ∀ cA : ClassId, s.vm.findClass ("[" ++ ty.toString) = some cA → va_RA s cA ty) : ∃ cA : ClassId, ArrOfT s cA ty ∧ va_RA s cA ty := by
  obtain ⟨cA, kA, comp, h1, h2, h3⟩ := Cond.arrayClass_spec h
  exact ⟨cA, fun n z => ⟨fun k h => (by cases h), kA, h2, comp, h3⟩, hr cA h1⟩
/-- the classes, at the start -/
theorem K_start {args : Array Value} {s : State} (hts : ∀ w ∈ lw_tbl, w.before args s = true) (hI : (Cond.arrayClass .int).before args s = true) (hB : (Cond.arrayClass .byte).before args s = true) (hL : (Cond.arrayClass .long).before args s = true) (hO : (Cond.arrayOver (.object "java/lang/String")).before args s = true) :
    ∃ (D : va_G) (cI cB cS cL : ClassId), va_K D clsL [(cI, .int), (cB, .byte), (cS, .object "java/lang/String"), (cL, .long)] s := by
  have hg := hts_g hts
  have h0 : ∀ ci : Nat, ∃ x : ClassId × (Nat → Nat), ci < 13 → u_Kn s (Rc ci) (Tc ci) (nfl ci) x.1 x.2 := by
    intro ci
    by_cases hc : ci < 13
    · obtain ⟨o1, o2, -, -⟩ := cls_all ci hc
      obtain ⟨c, iS, h⟩ := u_known hg o2 (hg _ (ln_all ci hc).1)
      exact ⟨(c, iS), fun _ => h⟩
    · exact ⟨(0, fun _ => 0), fun h => absurd h hc⟩
  obtain ⟨f, hf⟩ := Classical.skolem.mp h0
  obtain ⟨cI, a1, a2⟩ := arr_start hI (fun cA h => h)
  obtain ⟨cB, b1, b2⟩ := arr_start hB (fun cA h => h)
  obtain ⟨cL, l1, l2⟩ := arr_start hL (fun cA h => h)
  obtain ⟨comp, cS, kS, s1, s2, s3, s4, s5⟩ := Cond.arrayOver_spec hO
  refine ⟨(fun i => (f i).1, fun i => (f i).2), cI, cB, cS, cL, fun ci q hq => ?_, fun k q hk => ?_⟩
  · have hc : ci < 13 := (List.getElem?_eq_some_iff.mp hq).1
    obtain ⟨o1, -⟩ := cls_all ci hc
    cases Option.some.inj (hq.symm.trans o1)
    exact hf ci hc
  · have hk4 : k < 4 := (List.getElem?_eq_some_iff.mp hk).1
    rcases (by omega : k = 0 ∨ k = 1 ∨ k = 2 ∨ k = 3) with rfl | rfl | rfl | rfl
    · cases hk; exact ⟨a1, a2⟩
    · cases hk; exact ⟨b1, b2⟩
    · cases hk; exact ⟨fun n z => ⟨fun k h => (by cases h), kS, s3, comp, s4⟩, kS, comp, s3, s4, s1, s5⟩
    · cases hk; exact ⟨l1, l2⟩
section LawNew
variable {E : En} {p : Program} {l : Launch} {e : Env} {R : Room} {s : State} {m : MethodId} {args : Array Value} {below : List Frame} {meth : Method} {c : Code} {H : Heap} {locs : List Loc} {cells slots : Nat} {Q : State → Prop} {cc : ByteArray} {nL pc : Nat} {ls : Array Slot} {rest : List Value} {ws : va_W} {own : String}
/-- an object that the law makes -/
theorem l_new {ci' idx idx2 d' nc' ns' : Nat} {y' : MethodName} {cc' : ByteArray} {P' : PT} (hx : p.tables.exec = Jvm.exec) (hb : c.code = cc) (hml : c.maxLocals = nL) (hown : s.vm.findClass own = some m.cls) (hts : ∀ w ∈ lw_g, w.before args s = true) (hK : va_K E.2.1 clsL (tysE E) s) (hSt : CSt E (Alw s) s s.heap) (hP : va_P E.2.1 clsL ws H) (hD : va_D (Alw s) ws) (hS : va_S (Alw s) s.heap H locs) (hl : ls.size = nL)
    (hci : ci' < 13) (hn : Lnew ci') (hd : decode cc pc = .ok (.new idx, 3)) (hd2 : decode cc (pc + 3) = .ok (.dup, 1)) (hd3 : decode cc (pc + 3 + 1) = .ok (.invokespecial idx2, 3)) (hcl : Cond.classLink own idx (Rc ci') ∈ lw_g) (hlink : Cond.methodLink own idx2 y' ∈ lw_g) (hin : Cond.instanceMethod y' ∈ lw_g) (hcode : Cond.code y' cc' 1 none ∈ lw_g) (hini : Cond.initialized y'.cls ∈ lw_g) (hy : y'.name = "<init>")
    (hdd : y'.cls ≠ "java/lang/invoke/MethodHandle" ∧ y'.cls ≠ "java/lang/invoke/VarHandle" ∧ (parseMethodDescriptor y'.desc).map (fun d => d.parameters.length) = some 0) (hw : (rest.map fun v => v.category).sum + 1 ≤ 8) (hfr : d' + 1 ≤ R.frames) (hlo : 8 + (1 + 11) + 128 * d' ≤ R.locals) (hc : cells + 1 + nc' ≤ R.cells) (hs : slots + nfl ci' + ns' ≤ R.slots)
    (hC : Con E ci' y' cc' d' nc' ns' P')
    (kk : ∀ q w', P' q w' → ∀ (H1 : Heap) (locs1 : List Loc), va_P E.2.1 clsL (ws ++ w') H1 → va_D (Alw s) (ws ++ w') → va_S (Alw s) s.heap H1 locs1 → W p l e R s m args below meth c H1 locs1 (cells + 1 + nc') (slots + nfl ci' + ns') Q (F0 m (pc + 3 + 1 + 3) ls (.ref q :: rest))) : W p l e R s m args below meth c H locs cells slots Q (F0 m pc ls rest) := by
  obtain ⟨o1, o2, ⟨ty0, o3⟩, o4⟩ := cls_all ci' hci
  refine va_new (ci := ci') (fs := dfl ci') (C := Rc ci') (T := Tc ci') (N := nfl ci') hx hb hts o2 ty0 o3 hown (hts _ hcl) (hts _ hn.1) (hts _ hn.2) hK hP hD hS (fun q hq => hq) o1 (dfl_ty hci o3) (by omega) (by omega) hd (fun q H1 hP1 hD1 hS1 => ?_)
  refine lv_dup hx hb hd2 rfl ?_
  have hq : (ws ++ [(q, (.inr (ci', dfl ci') : va_E))])[ws.length]? = some (q, .inr (ci', dfl ci')) := by rw [List.getElem?_append_right (Nat.le_refl _), Nat.sub_self]; rfl
  have hPc : va_P E.2.1 clsL [(q, .inr (ci', dfl ci'))] H1 := by
    intro k y hy
    cases k with
    | zero => cases hy; exact hP1 _ _ hq
    | succ n => simp at hy
  have hqA : Alw s q := hD1.2 _ _ hq
  have hA1 : ∀ a, CA q H1.size a → Alw s a := fun a ha => ha.elim (fun e => e ▸ hqA) (fun h9 => Nat.le_trans hS1.1 h9)
  have hw2 : ((Value.ref q :: rest).map fun v => v.category).sum ≤ 8 := by
    rw [List.map_cons, List.sum_cons, show (Value.ref q).category = 1 from rfl]
    omega
  refine va_callv (va_runI (As := []) (rest := .ref q :: rest) (b := q) ⟨hx, hb, hml, hown, hts⟩ (hC l q H1.size) ⟨callB_of (R := R) 0 hts (lw_gin (fun w9 hw9 => (List.mem_cons.mp hw9).elim (fun e => e ▸ hcode) id)) rfl rfl rfl (hts _ hini) (hts _ hlink) hdd ⟨hfr, hlo⟩, hy, hts _ hin⟩
    ⟨CD_blind, fun U hU hW => ⟨rfl, by rw [hU], by rw [hU]; exact hPc, va_K.moved hW.alike hK, by rw [hU]; exact ((hSt.kept hS1.2.1).warm hW).narrow hA1⟩⟩ rfl rfl hl rfl (lv_room hw2) hd3 ⟨hc, hs⟩) hS1 (fun a _ h9 => hA1 a h9) hA1 (fun u t H2 locs2 ht hvm hw9 hB hz2 hk2 hS2 => ?_)
  obtain ⟨w', hP', hP2, hD2⟩ := hB
  rw [ht] at hP2
  obtain ⟨hP3, hD3⟩ := ct_join hP1 hD1 hA1 hk2 hP2 hD2
  exact kk q w' hP' H2 locs2 hP3 hD3 hS2
end LawNew
