section LawLevel3
variable {E : En} {o : Nat} {cL : ClassId} {A : Nat → Prop} {p : Program} {l : Launch} {e : Env} {R : Room} {s : State} {m : MethodId} {args : Array Value} {below : List Frame} {meth : Method} {c : Code} {H : Heap} {locs : List Loc} {cells slots : Nat} {Q : State → Prop} {cc : ByteArray} {nL pc : Nat} {ls : Array Slot} {g : G2} {v : Nat → Int64} {rest : List Value}
theorem LXw.AO (C : LXw E o cL A p l s m args c cc nL) (hs : s.heap.size ≤ H.size) : ∀ q, AOw E o H.size q → A q := fun q h => h.elim (C.AD hs q) (fun h => h ▸ C.2.2.2.2.2.2.2.2.2.2.2.2.1)
theorem LXw.WDo (C : LXw E o cL A p l s m args c cc nL) (hP : LPw E o cL g v H) (hS : va_S A s.heap H locs) {U : State} (hU : U.heap = H) (hW : s.WarmedH U.vm) : WDo E o cL g v H.size U := by
  refine ⟨by rw [hU], by rw [hU]; exact hP, va_K.moved hW.alike C.2.2.2.2.2.1, C.2.2.2.2.2.2.2.1, C.2.2.2.2.2.2.2.2.1, ?_, va_Nc.moved hW.alike C.2.2.2.2.2.2.2.2.2.2.1⟩
  rw [hU]
  exact ((C.2.2.2.2.2.2.2.2.2.1.kept hS.2.1).warm hW).narrow (C.AO hS.1)
/-- a wrapper, called from the law -/
theorem l_callW {idx n d' : Nat} {w : WMD} {As st0 : List Value} {Qw : Int32 → G2 → (Nat → Int64) → Prop} (C : LXw E o cL A p l s m args c cc nL) (hP : LPw E o cL g v H) (hS : va_S A s.heap H locs) (hl0 : ls.size = nL)
    (hd : decode cc pc = .ok (.invokestatic idx, 3)) (hl : Cond.methodLink RL idx (wm_y w) ∈ lw_g) (hcode : Cond.codeWith (wm_y w) (wm_cc w) (wm_nL w) (some .int) (wm_hh w) ∈ lw_g) (hini : Cond.initialized (wm_y w).cls ∈ lw_g) (hstat : Cond.static (wm_y w) ∈ lw_g)
    (hy : (wm_y w).cls ≠ "java/lang/invoke/MethodHandle" ∧ (wm_y w).cls ≠ "java/lang/invoke/VarHandle") (hdesc : (parseMethodDescriptor (wm_y w).desc).map (fun d => d.parameters.length) = some n) (hn : As.length + 1 = n) (hst : st0 = (As.map (cv E) ++ [Value.ref o]).reverse ++ rest) (hw : (rest.map fun v => v.category).sum ≤ 8)
    (hfr : d' + 1 ≤ R.frames) (hlo : 8 + (wm_nL w + 11) + 128 * d' ≤ R.locals) (hcl : cells + wm_mc w ≤ R.cells) (hsl : slots + 6 * wm_mc w ≤ R.slots)
    (hM : WMc E o cL w d' As g v Qw)
    (kk : ∀ (k : Int32) (g' : G2) (v' : Nat → Int64), Qw k g' v' → ∀ (H1 : Heap) (locs1 : List Loc), LPw E o cL g' v' H1 → va_S A s.heap H1 locs1 → W p l e R s m args below meth c H1 locs1 (cells + wm_mc w) (slots + 6 * wm_mc w) Q (F0 m (pc + 3) ls (.int k :: rest))) :
    W p l e R s m args below meth c H locs cells slots Q (F0 m pc ls st0) := by
  have hts := C.2.2.2.2.1
  have hcw : vx_CSW R s args RL idx (wm_y w) (wm_cc w) (wm_nL w) (some .int) (wm_hh w) (wm_ws w) (rmD d' (wm_mc w)) (wm_mc w) (6 * wm_mc w) n := by
    refine ⟨⟨rfl, rfl, hfr, hlo, pay_in hts (lw_gin (fun w' hw' => (List.mem_cons.mp hw').elim (fun e => e ▸ hcode) id)), List.mem_cons_self⟩, hts _ hcode, hts _ hini, hy, fun sig h => ?_, hts _ hl, hts _ hstat⟩
    rw [h] at hdesc
    exact (Option.some.inj hdesc).symm
  have hr := vx_runSX (p := p) (e := e) (below := below) (meth := meth) (locs := locs) (cells := cells) (slots := slots) (g := F0 m pc ls st0) (As := As.map (cv E) ++ [Value.ref o]) (rest := rest) (H := H) ⟨C.1, C.2.1, C.2.2.1, C.2.2.2.1, hts⟩ (hM l C.2.2.2.2.2.2.1 H.size) hcw ⟨WDo_blind, fun U hU hW => ⟨rfl, C.WDo hP hS hU hW⟩⟩ rfl (by simpa using hn) hl0 hst (lv_room hw) hd ⟨hcl, hsl⟩
  intro T hT X0
  have hAO := C.AO hS.1
  rcases hr T hT X0 with ⟨w', st₀, t, T', L, h0, X', hL, e1, e2, ⟨⟨k, g', v', hv', hQ, hP1⟩, hF⟩, stp⟩ | ⟨q, st₀, t, T', L, Ex, ce, h0, X', hL, e1, e2, hf, -, -, -, -⟩
  · cases hv'
    obtain ⟨k1, k2, k3⟩ := vx_keep h0 e1 hS (fun q _ h => hAO q h) hAO hL hF
    obtain ⟨t2, a1, b1⟩ := kk k g' v' hQ T'.heap (locs ++ L) (by rw [e1]; exact hP1) k3 T' rfl X'
    exact ⟨t2, stp t2 a1, b1⟩
  · exact hf.elim
/-- the store into 'out' -/
theorem l_out (C : LXw E o cL A p l s m args c cc nL) (hP : LPw E o cL g v H) (hS : va_S A s.heap H locs) {x : Int64} (hd : decode cc pc = .ok (.lastore, 1))
    (kk : ∀ (v' : Nat → Int64), v' 0 = x → ∀ (H1 : Heap) (locs1 : List Loc), LPw E o cL g v' H1 → va_S A s.heap H1 locs1 → W p l e R s m args below meth c H1 locs1 cells slots Q (F0 m (pc + 1) ls rest)) :
    W p l e R s m args below meth c H locs cells slots Q (F0 m pc ls (.long x :: .int 0 :: .ref o :: rest)) := by
  have hD : va_D A (wlo E g o cL v) := wlo_D C.2.2.2.2.2.2.2.1 C.2.2.2.2.2.2.2.2.1 C.2.2.2.2.2.2.2.2.2.2.2.1 C.2.2.2.2.2.2.2.2.2.2.2.2.1
  refine va_last (D := E.2.1) C.1 C.2.1 C.2.2.2.2.2.1 hP hD hS NID 3 (wlo_o (E := E) (g := g) (o := o) (cL := cL) (v := v)) rfl (by unfold vp_in; decide +kernel) hd (fun H1 locs1 hP1 _ hS1 => ?_)
  refine kk (vp_updL v (0 : Int32).toNatClampNeg x) (by simp [vp_updL]) H1 locs1 ?_ hS1
  have e : (wlo E g o cL v).set NID (o, .inl (cL, 1, .inr (.inl (vp_updL v (0 : Int32).toNatClampNeg x)))) = wlo E g o cL (vp_updL v (0 : Int32).toNatClampNeg x) := by
    unfold wlo
    rw [List.set_append_right _ _ (by rw [wl_len]; exact Nat.le_refl _), wl_len, Nat.sub_self]
    rfl
  show va_P E.2.1 clsL (wlo E g o cL (vp_updL v (0 : Int32).toNatClampNeg x)) H1
  rw [← e]
  exact hP1
end LawLevel3
