/-! THE LAW's own level: the world of the two objects, and the row 'out' beside it -/
def outC (o : Nat) (cL : ClassId) (v : Nat → Int64) : Nat × va_E := (o, .inl (cL, 1, .inr (.inl v)))
def wlo (E : En) (g : G2) (o : Nat) (cL : ClassId) (v : Nat → Int64) : va_W := wl E g ++ [outC o cL v]
/-- what stands while a method of the law runs -/
def LXw (E : En) (o : Nat) (cL : ClassId) (A : Nat → Prop) (p : Program) (l : Launch) (s : State) (m : MethodId) (args : Array Value) (c : Code) (cc : ByteArray) (nL : Nat) : Prop :=
  p.tables.exec = Jvm.exec ∧ c.code = cc ∧ c.maxLocals = nL ∧ s.vm.findClass RL = some m.cls ∧ (∀ w ∈ lw_g, w.before args s = true) ∧ va_K E.2.1 clsL (tysE E ++ [(cL, .long)]) s ∧ l.stackTraces = false ∧ inj E ∧
  (∀ i, i < NID → o ≠ E.1 i) ∧ STs E A s s.heap ∧ va_Nc iaN nsN s ∧ (∀ i, i < NID → A (E.1 i)) ∧ A o ∧ (∀ q, s.heap.size ≤ q → A q)
def LPw (E : En) (o : Nat) (cL : ClassId) (g : G2) (v : Nat → Int64) (H : Heap) : Prop := va_P E.2.1 clsL (wlo E g o cL v) H
theorem wlo_at {E : En} {g : G2} {o : Nat} {cL : ClassId} {v : Nat → Int64} {i : Nat} (h : i < NID) : (wlo E g o cL v)[i]? = some (E.1 i, cel E g i) := by
  unfold wlo; rw [List.getElem?_append_left (by rw [wl_len]; exact h)]; exact wl_at h
theorem wlo_o {E : En} {g : G2} {o : Nat} {cL : ClassId} {v : Nat → Int64} : (wlo E g o cL v)[NID]? = some (outC o cL v) := by
  unfold wlo; rw [List.getElem?_append_right (by rw [wl_len]; exact Nat.le_refl _), wl_len, Nat.sub_self]; rfl
theorem wlo_inv {E : En} {g : G2} {o : Nat} {cL : ClassId} {v : Nat → Int64} {i : Nat} {q : Nat × va_E} (h : (wlo E g o cL v)[i]? = some q) : (i < NID ∧ q = (E.1 i, cel E g i)) ∨ (i = NID ∧ q = outC o cL v) := by
  by_cases hi : i < NID
  · rw [wlo_at hi] at h; exact Or.inl ⟨hi, (Option.some.inj h).symm⟩
  · have hl := (List.getElem?_eq_some_iff.mp h).1
    have : i < NID + 1 := by rw [wlo, List.length_append, wl_len] at hl; exact hl
    have hi : i = NID := by omega
    subst hi
    rw [wlo_o] at h; exact Or.inr ⟨rfl, (Option.some.inj h).symm⟩
theorem LPw.w {E : En} {o : Nat} {cL : ClassId} {g : G2} {v : Nat → Int64} {H : Heap} (h : LPw E o cL g v H) : va_P E.2.1 clsL (wl E g) H := fun k q hk => by
  obtain ⟨h1, rfl⟩ := wl_inv hk
  exact h k _ (wlo_at h1)
theorem LPw.o {E : En} {o : Nat} {cL : ClassId} {g : G2} {v : Nat → Int64} {H : Heap} (h : LPw E o cL g v H) : va_at E.2.1 clsL (outC o cL v) H := h NID _ wlo_o
theorem LPw.mk {E : En} {o : Nat} {cL : ClassId} {g : G2} {v : Nat → Int64} {H : Heap} (h1 : va_P E.2.1 clsL (wl E g) H) (h2 : va_at E.2.1 clsL (outC o cL v) H) : LPw E o cL g v H := fun k q hk => by
  rcases wlo_inv hk with ⟨a, rfl⟩ | ⟨a, rfl⟩
  · exact h1 k _ (wl_at a)
  · exact h2
theorem LPw.lt {E : En} {o : Nat} {cL : ClassId} {g : G2} {v : Nat → Int64} {H : Heap} (h : LPw E o cL g v H) : o < H.size := vx_lt h wlo_o
theorem LPw.kept {E : En} {o : Nat} {cL : ClassId} {g g' : G2} {v : Nat → Int64} {H H1 : Heap} (h : LPw E o cL g v H) (ho : ∀ i, i < NID → o ≠ E.1 i) (h1 : va_P E.2.1 clsL (wl E g') H1) (hk : ∀ q : Nat, q < H.size → ¬ AD E H.size q → H1[q]? = H[q]?) : LPw E o cL g' v H1 := by
  refine LPw.mk h1 ?_
  have e : H1[o]? = H[o]? := hk o h.lt (fun q => q.elim (fun ⟨i, hi, e⟩ => ho i hi e) (fun q => absurd h.lt (Nat.not_lt.mpr q)))
  show H1[o]? = some (vp_cell _ _)
  rw [e]; exact h.o
theorem wlo_D {E : En} {g : G2} {o : Nat} {cL : ClassId} {v : Nat → Int64} {A : Nat → Prop} (hi : inj E) (ho : ∀ i, i < NID → o ≠ E.1 i) (hA : ∀ i, i < NID → A (E.1 i)) (hAo : A o) : va_D A (wlo E g o cL v) := by
  refine ⟨fun i j p q h1 h2 e => ?_, fun k q h => ?_⟩
  · rcases wlo_inv h1 with ⟨a1, rfl⟩ | ⟨a1, rfl⟩ <;> rcases wlo_inv h2 with ⟨a2, rfl⟩ | ⟨a2, rfl⟩
    · exact hi i j a1 a2 e
    · exact absurd e.symm (ho i a1)
    · exact absurd e (ho j a2)
    · omega
  · rcases wlo_inv h with ⟨a1, rfl⟩ | ⟨a1, rfl⟩
    · exact hA k a1
    · exact hAo
section LawLevel
variable {E : En} {o : Nat} {cL : ClassId} {A : Nat → Prop} {p : Program} {l : Launch} {e : Env} {R : Room} {s : State} {m : MethodId} {args : Array Value} {below : List Frame} {meth : Method} {c : Code} {H : Heap} {locs : List Loc} {cells slots : Nat} {Q : State → Prop} {cc : ByteArray} {nL pc : Nat} {ls : Array Slot} {g : G2} {v : Nat → Int64}
theorem LXw.AD (C : LXw E o cL A p l s m args c cc nL) (hs : s.heap.size ≤ H.size) : ∀ q, AD E H.size q → A q := fun q h => h.elim (fun ⟨i, hi, e⟩ => e ▸ C.2.2.2.2.2.2.2.2.2.2.2.1 i hi) (fun h => C.2.2.2.2.2.2.2.2.2.2.2.2.2 q (Nat.le_trans hs h))
theorem LXw.K (C : LXw E o cL A p l s m args c cc nL) : va_K E.2.1 clsL (tysE E) s := C.2.2.2.2.2.1.sub (tys' := tysE E) [0, 1, 2] rfl
theorem LXw.WD (C : LXw E o cL A p l s m args c cc nL) (hP : LPw E o cL g v H) (hS : va_S A s.heap H locs) {U : State} (hU : U.heap = H) (hW : s.WarmedH U.vm) : WD E g H.size U := by
  refine ⟨by rw [hU], by rw [hU]; exact hP.w, va_K.moved hW.alike C.K, C.2.2.2.2.2.2.2.1, ?_⟩
  rw [hU]
  exact ((C.2.2.2.2.2.2.2.2.2.1.kept hS.2.1).warm hW).narrow (C.AD hS.1)
/-- a method of one of the two objects, called from the law -/
theorem l_callV {idx n d' a ci : Nat} {md' : MD} {As rest : List Value} {st0 : List Value} {Qm : QT} {Xm : XT} (C : LXw E o cL A p l s m args c cc nL) (hP : LPw E o cL g v H) (hS : va_S A s.heap H locs) (hl0 : ls.size = nL)
    (hd : decode cc pc = .ok (.invokevirtual idx, 3)) (hl : Cond.methodLink RL idx (md_y md') ∈ lw_g) (hm : Lm md' n) (hv : LmV md') (hc : cof a = ci) (hci : ci < 13) (hR : Rc ci = (md_y md').cls) (hn : As.length = n) (hst : st0 = (As.map (cv E)).reverse ++ .ref (E.1 a) :: rest) (hw : (rest.map fun v => v.category).sum ≤ 8)
    (hfr : d' + 1 ≤ R.frames) (hlo : 8 + (md_nL md' + 11) + 128 * d' ≤ R.locals) (hcl : cells + md_mc md' ≤ R.cells) (hsl : slots + 6 * md_mc md' ≤ R.slots)
    (hM : M E md' d' (.ref a :: As) g Qm Xm)
    (kk : ∀ (w : Option Value) (g' : G2), Qm w g' → ∀ (H1 : Heap) (locs1 : List Loc), LPw E o cL g' v H1 → va_S A s.heap H1 locs1 → W p l e R s m args below meth c H1 locs1 (cells + md_mc md') (slots + 6 * md_mc md') Q (F0 m (pc + 3) ls ((w.map (cv E)).toList ++ rest)))
    (kx : ∀ (Ex : String) (g' : G2), Xm Ex g' → ∀ (H1 : Heap) (locs1 : List Loc) (ce : Cell) (q : Addr), LPw E o cL g' v H1 → va_S A s.heap H1 locs1 → H1[q]? = some ce → ce.vm = .none → s.vm.findClass Ex = some ce.cls → vx_W p l e R s m args below meth c H1 locs1 (cells + md_mc md') (slots + 6 * md_mc md') Q (F0 m pc ls rest) q) :
    W p l e R s m args below meth c H locs cells slots Q (F0 m pc ls st0) := by
  have hts := C.2.2.2.2.1
  obtain ⟨o1, -⟩ := cls_all ci hci
  have hcell : (wl E g)[a]? = some (E.1 a, .inr (ci, (List.range (nfl ci)).map (fvl E g a))) := by rw [wl_at (cof_lt hc (by omega)), cel_o hc (by omega)]
  have hrecv := va_recv C.K hP.w o1 hcell
  have hcb : CallB R s args RL idx (md_y md') (md_cc md') (md_nL md') (md_ret md') (md_ws md') (rmD d' (md_mc md')) (md_mc md') (6 * md_mc md') n :=
    callB_of n hts (lw_gin (fun w hw => (List.mem_cons.mp hw).elim (fun e => e ▸ hm.2.1) id)) rfl rfl rfl (hts _ hm.1) (hts _ hl) hm.2.2.1 ⟨hfr, hlo⟩
  have hr := vx_runV (p := p) (e := e) (below := below) (meth := meth) (locs := locs) (cells := cells) (slots := slots) (g := F0 m pc ls st0) (As := As.map (cv E)) (rest := rest) (C := (md_y md').cls) ⟨C.1, C.2.1, C.2.2.1, C.2.2.2.1, hts⟩ (hM l C.2.2.2.2.2.2.1 H.size) ⟨hcb, hts _ hv.1, hts _ hv.2⟩ ⟨WD_blind, by rw [← hR]; exact hrecv, fun U hU hW => ⟨rfl, C.WD hP hS hU hW⟩⟩ rfl (by simpa using hn) hl0 hst (lv_room hw) hd ⟨hcl, hsl⟩
  intro T hT X0
  have hAD := C.AD hS.1
  rcases hr T hT X0 with ⟨w, st₀, t, T', L, h0, X', hL, e1, e2, ⟨⟨v', g', hv', hQ, hP1⟩, hF⟩, stp⟩ | ⟨q, st₀, t, T', L, Ex, ce, h0, X', hL, e1, e2, ⟨⟨g', hX, hP1⟩, hF⟩, hce, hcv, hcl9, stp⟩
  · cases hv'
    obtain ⟨k1, k2, k3⟩ := vx_keep h0 e1 hS (fun q _ h => hAD q h) hAD hL hF
    have hP2 : LPw E o cL g' v T'.heap := hP.kept C.2.2.2.2.2.2.2.2.1 (by rw [e1]; exact hP1) k2
    obtain ⟨t2, a1, b1⟩ := kk v' g' hQ T'.heap (locs ++ L) hP2 k3 T' rfl X'
    exact ⟨t2, stp t2 a1, b1⟩
  · obtain ⟨k1, k2, k3⟩ := vx_keep h0 e1 hS (fun q _ h => hAD q h) hAD hL hF
    have hP2 : LPw E o cL g' v T'.heap := hP.kept C.2.2.2.2.2.2.2.2.1 (by rw [e1]; exact hP1) k2
    obtain ⟨t2, a1, b1⟩ := kx Ex g' hX T'.heap (locs ++ L) ce q hP2 k3 (by rw [e1]; exact hce) hcv hcl9 T' rfl X'
    exact ⟨t2, stp.trans a1, b1⟩
end LawLevel
