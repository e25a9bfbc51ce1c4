/-! a private static method of the outer class; array copies; Math; throws -/
section Rules
variable {E : En} {md : MD} {d : Nat} {Q : QT} {X : XT} {pc : Nat} {lv lv' : List (Nat × Value)} {st : List Value} {g : G2} {k : Nat}
theorem M.met {As : List Value} (hM : M E md d As g Q (fun _ _ => False)) (l : Launch) (hl : l.stackTraces = false) (sz : Nat) : Met l (md_y md) (md_ws md) (rmD d (md_mc md)) (va_Pc (As.map (cv E)) (WD E g sz)) (QcM E Q sz) (md_mc md) (6 * md_mc md) (AD E sz) := by
  intro p e ha hc hk s m args below hf hfit hP0 hk0
  obtain ⟨j, o, h1, h2, h3, h4⟩ := hM l hl sz p e ha hc hk s m args below hf hfit hP0 hk0
  refine ⟨j, o, h1, h2, h3, ?_⟩
  rcases h4 with h5 | ⟨q, -, Ex, ce, L, ⟨⟨g', hx, -⟩, -⟩, -⟩
  · exact h5
  · exact hx.elim
theorem b_callSN {idx n d' : Nat} {md' : MD} {As : List Value} {st0 : List Value} (hd : decode (md_cc md) pc = .ok (.invokestatic idx, 3)) (hl : (md_own md, idx) ∈ nestL) (hy : md_y md' = yX11_isIn) (hm : Lm md' n) (hv : LmS md') (hn : As.length = n) (hst : st0 = As.reverse ++ st) (hw : (st.map fun v => v.category).sum ≤ 8) (hdd : d' + 1 ≤ d) (hmc : k + md_mc md' ≤ md_mc md)
    (hM : M E md' d' As g (fun v g' => B E md d Q X (pc + 3) lv (psh v st) g' (k + md_mc md')) (fun _ _ => False)) : B E md d Q X pc lv st0 g k := by
  intro p l e R s m args below meth c H locs ls C hl0 hP hS
  have hts := C.2.2.2.2.2.2.1
  have hRm := C.2.2.2.2.2.2.2.2.2.2.2.2
  have hSt := C.2.2.2.2.2.2.2.2.2.2.2.1
  have hcat : ((st.map (cv E)).map fun v => v.category).sum ≤ 8 := by rw [List.map_map, show ((fun v : Value => v.category) ∘ cv E) = (fun v => v.category) from funext (cv_cat E)]; exact hw
  subst hst
  have hlink : va_Nw (.methodLinkNest (md_own md) idx (md_y md') "TownTune") s := by rw [hy]; exact hSt.2.2.2.2.1 _ hl
  have hr := va_runSN (l := l) (e := e) (below := below) (meth := meth) (locs := locs) (cells := k) (slots := 6 * k) (H := H) (As := As.map (cv E)) (rest := st.map (cv E)) (g := F0 m pc ls ((As.reverse ++ st).map (cv E))) ⟨C.1, C.2.1, C.2.2.1, C.2.2.2.2.2.1, hts⟩ (hM.met l C.2.2.2.2.2.2.2.2.2.1 H.size)
    ⟨va_cnB (R := R) n hts (lw_gin (fun w hw => (List.mem_cons.mp hw).elim (fun e => e ▸ hm.2.1) id)) rfl rfl rfl hlink (hts _ hm.1) hm.2.2.1 (by rw [hRm]; exact ⟨hdd, by simp only [rmD]; have := hm.2.2.2; omega⟩), hts _ hv, trivial⟩
    ⟨WD_blind, fun U hU hW => ⟨rfl, WD_at C hP hS hU hW⟩⟩ rfl (by simpa using hn) hl0.1 (by simp [List.map_reverse]) (lv_room hcat) hd (by rw [hRm]; exact ⟨hmc, by simp only [rmD]; omega⟩)
  intro T hT X0
  obtain ⟨v, st₀, t, T', L, h0, X', hL, e1, e2, ⟨⟨v', g', hv', hQ, hP1⟩, hF⟩, stp⟩ := hr T hT X0
  cases hv'
  obtain ⟨k1, k2, k3⟩ := vx_keep h0 e1 hS (fun q _ h => AD_mono hS.1 q h) (AD_mono hS.1) hL hF
  have hP2 : va_P E.2.1 clsL (wl E g') T'.heap := by rw [e1]; exact hP1
  have hk6 : 6 * k + 6 * md_mc md' = 6 * (k + md_mc md') := by omega
  have := hQ p l e R s m args below meth c T'.heap (locs ++ L) ls C hl0 hP2 k3
  rw [← hk6, ← psh_cv] at this
  obtain ⟨t2, a1, b1⟩ := this T' rfl X'
  exact ⟨t2, stp t2 a1, b1⟩
def LmC (own : String) (idx : Nat) : Prop := Cond.methodLink own idx arraycopyName ∈ lw_g ∧ Cond.native arraycopyName ∈ lw_g ∧ Cond.static arraycopyName ∈ lw_g ∧ Cond.initialized "java/lang/System" ∈ lw_g
theorem b_copyi {idx a b : Nat} {sp dp n : Int32} (hd : decode (md_cc md) pc = .ok (.invokestatic idx, 3)) (hl : LmC (md_own md) idx) (hdd : 1 ≤ d) (hw : (st.map fun v => v.category).sum ≤ 8) (h1 : ¬ sp < 0) (h2 : ¬ dp < 0) (h3 : ¬ n < 0) (h4 : sp.toNatClampNeg + n.toNatClampNeg ≤ iln a) (h5 : dp.toNatClampNeg + n.toNatClampNeg ≤ iln b) (ha : 0 < iln a) (hb : 0 < iln b) (hk : k ≤ md_mc md)
    (kk : B E md d Q X (pc + 3) lv st (upA g b (va_cpy (g a) (g b) sp.toNatClampNeg dp.toNatClampNeg n.toNatClampNeg)) k) : B E md d Q X pc lv (.int n :: .int dp :: .ref b :: .int sp :: .ref a :: st) g k := by
  intro p l e R s m args below meth c H locs ls C hl0 hP hS
  have hts := C.2.2.2.2.2.2.1
  have hRm := C.2.2.2.2.2.2.2.2.2.2.2.2
  have hca : (wl E g)[a]? = some (E.1 a, .inl (E.2.2.1.1, iln a, .inl (g a))) := by rw [wl_at (iln_lt ha), cel_i ha]
  have hcb : (wl E g)[b]? = some (E.1 b, .inl (E.2.2.1.1, iln b, .inl (g b))) := by rw [wl_at (iln_lt hb), cel_i hb]
  have hcat : ((st.map (cv E)).map fun v => v.category).sum ≤ 8 := by rw [List.map_map, show ((fun v : Value => v.category) ∘ cv E) = (fun v => v.category) from funext (cv_cat E)]; exact hw
  refine va_copyi C.1 C.2.1 (by rw [C.2.2.1]; exact hl0.1.symm) C.2.2.2.2.2.1 (hts _ hl.1) (hts _ hl.2.1) (hts _ hl.2.2.1) (hts _ hl.2.2.2) C.2.2.2.2.2.2.2.1 hP (wl_D C.2.2.2.2.2.2.2.2.2.2.1 (fun i h => AD_in h)) hS a b 0 0 hca hcb rfl rfl rfl h1 h2 h3 h4 h5 (fun _ _ => rfl) (by rw [hRm]; exact hdd) (by rw [hRm]; simp only [rmD, show nativeFrameWords "java/lang/System" "arraycopy" 5 = 7 from by decide +kernel]; omega) hd (fun H locs hP hD hS => ?_)
  rw [wl_setG (g' := upA g b (va_cpy (g a) (g b) sp.toNatClampNeg dp.toNatClampNeg n.toNatClampNeg)) (iln_lt hb) (fun j hj => upA_a g b _ hj) (by rw [cel_i hb, upA_s])] at hP
  exact kk p l e R s m args below meth c H locs ls C hl0 hP hS
def LmM (own : String) (idx : Nat) (y : MethodName) (cc : ByteArray) (n : Nat) : Prop := Cond.methodLink own idx y ∈ lw_g ∧ Cond.static y ∈ lw_g ∧ Cond.initialized "java/lang/Math" ∈ lw_g ∧ Cond.code y cc n (some .int) ∈ lw_g
theorem b_max {idx : Nat} {x y : Int32} (hd : decode (md_cc md) pc = .ok (.invokestatic idx, 3)) (hl : LmM (md_own md) idx Lib.Math.max.name Lib.Math.max.code 2) (hdd : 1 ≤ d) (hw : (st.map fun v => v.category).sum ≤ 8) (hk : k ≤ md_mc md)
    (kk : B E md d Q X (pc + 3) lv (.int (if x < y then y else x) :: st) g k) : B E md d Q X pc lv (.int y :: .int x :: st) g k := by
  intro p l e R s m args below meth c H locs ls C hl0 hP hS
  have hts := C.2.2.2.2.2.2.1
  have hRm := C.2.2.2.2.2.2.2.2.2.2.2.2
  have hcat : ((st.map (cv E)).map fun v => v.category).sum ≤ 8 := by rw [List.map_map, show ((fun v : Value => v.category) ∘ cv E) = (fun v => v.category) from funext (cv_cat E)]; exact hw
  exact va_mmax C.1 C.2.1 (by rw [C.2.2.1]; exact hl0.1.symm) C.2.2.2.2.2.1 (hts _ hl.1) (hts _ hl.2.1) (hts _ hl.2.2.1) (hts _ hl.2.2.2) (by rw [hRm]; exact hdd) (by rw [hRm]; simp only [rmD]; omega) (by rw [hRm]; exact hk) (by rw [hRm]; simp only [rmD]; omega) hd (kk p l e R s m args below meth c H locs ls C hl0 hP hS)
theorem b_min {idx : Nat} {x y : Int32} (hd : decode (md_cc md) pc = .ok (.invokestatic idx, 3)) (hl : LmM (md_own md) idx Lib.Math.min.name Lib.Math.min.code 2) (hdd : 1 ≤ d) (hw : (st.map fun v => v.category).sum ≤ 8) (hk : k ≤ md_mc md)
    (kk : B E md d Q X (pc + 3) lv (.int (if y < x then y else x) :: st) g k) : B E md d Q X pc lv (.int y :: .int x :: st) g k := by
  intro p l e R s m args below meth c H locs ls C hl0 hP hS
  have hts := C.2.2.2.2.2.2.1
  have hRm := C.2.2.2.2.2.2.2.2.2.2.2.2
  have hcat : ((st.map (cv E)).map fun v => v.category).sum ≤ 8 := by rw [List.map_map, show ((fun v : Value => v.category) ∘ cv E) = (fun v => v.category) from funext (cv_cat E)]; exact hw
  exact va_mmin C.1 C.2.1 (by rw [C.2.2.1]; exact hl0.1.symm) C.2.2.2.2.2.1 (hts _ hl.1) (hts _ hl.2.1) (hts _ hl.2.2.1) (hts _ hl.2.2.2) (by rw [hRm]; exact hdd) (by rw [hRm]; simp only [rmD]; omega) (by rw [hRm]; exact hk) (by rw [hRm]; simp only [rmD]; omega) hd (kk p l e R s m args below meth c H locs ls C hl0 hP hS)
theorem b_abs {idx : Nat} {x : Int32} (hd : decode (md_cc md) pc = .ok (.invokestatic idx, 3)) (hl : LmM (md_own md) idx Lib.Math.abs.name Lib.Math.abs.code 1) (hdd : 1 ≤ d) (hw : (st.map fun v => v.category).sum ≤ 8) (hk : k ≤ md_mc md)
    (kk : B E md d Q X (pc + 3) lv (.int (if 0 ≤ x then x else 0 - x) :: st) g k) : B E md d Q X pc lv (.int x :: st) g k := by
  intro p l e R s m args below meth c H locs ls C hl0 hP hS
  have hts := C.2.2.2.2.2.2.1
  have hRm := C.2.2.2.2.2.2.2.2.2.2.2.2
  have hcat : ((st.map (cv E)).map fun v => v.category).sum ≤ 8 := by rw [List.map_map, show ((fun v : Value => v.category) ∘ cv E) = (fun v => v.category) from funext (cv_cat E)]; exact hw
  exact va_mabs C.1 C.2.1 (by rw [C.2.2.1]; exact hl0.1.symm) C.2.2.2.2.2.1 (hts _ hl.1) (hts _ hl.2.1) (hts _ hl.2.2.1) (hts _ hl.2.2.2) (by rw [hRm]; exact hdd) (by rw [hRm]; simp only [rmD]; omega) (by rw [hRm]; exact hk) (by rw [hRm]; simp only [rmD]; omega) hd (kk p l e R s m args below meth c H locs ls C hl0 hP hS)
end Rules
