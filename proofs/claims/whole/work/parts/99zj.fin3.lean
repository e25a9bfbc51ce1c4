theorem fin_all {E : En} {f1 f2 : Nat → Nat} {o : Nat} {cL : ClassId} {v : Nat → Int64} {H : Heap} (hP : va_P E.2.1 clsL (wsA E o cL v f1 f2) H) : ∀ i, i < 127 → (fun i => (∃ e, (wsA E o cL v f1 f2)[nthN posL i 0]? = some ((adE E f1 f2).1 i, e)) ∧ va_at E.2.1 clsL ((adE E f1 f2).1 i, cel (adE E f1 f2) g0 i) H) i := by
  intro i hi
  rcases (by omega : (0 ≤ i ∧ i < 16) ∨ (16 ≤ i ∧ i < 32) ∨ (32 ≤ i ∧ i < 48) ∨ (48 ≤ i ∧ i < 64) ∨ (64 ≤ i ∧ i < 80) ∨ (80 ≤ i ∧ i < 96) ∨ (96 ≤ i ∧ i < 112) ∨ (112 ≤ i ∧ i < 127)) with ⟨h, h2⟩ | ⟨h, h2⟩ | ⟨h, h2⟩ | ⟨h, h2⟩ | ⟨h, h2⟩ | ⟨h, h2⟩ | ⟨h, h2⟩ | ⟨h, h2⟩
  · exact allP_at 16 0 (fin_0 hP) i h (by omega)
  · exact allP_at 16 16 (fin_1 hP) i h (by omega)
  · exact allP_at 16 32 (fin_2 hP) i h (by omega)
  · exact allP_at 16 48 (fin_3 hP) i h (by omega)
  · exact allP_at 16 64 (fin_4 hP) i h (by omega)
  · exact allP_at 16 80 (fin_5 hP) i h (by omega)
  · exact allP_at 16 96 (fin_6 hP) i h (by omega)
  · exact allP_at 15 112 (fin_7 hP) i h (by omega)
theorem fin_world {E : En} {f1 f2 : Nat → Nat} {o : Nat} {cL : ClassId} {v : Nat → Int64} {H : Heap} (hP : va_P E.2.1 clsL (wsA E o cL v f1 f2) H) {A : Nat → Prop} (hD : va_D A (wsA E o cL v f1 f2)) : LPw (adE E f1 f2) o cL g0 v H ∧ inj (adE E f1 f2) ∧ (∀ i, i < NID → o ≠ (adE E f1 f2).1 i) ∧ (∀ i, i < NID → A ((adE E f1 f2).1 i)) ∧ A o := by
  have h0 := fin_all hP
  have ho : (wsA E o cL v f1 f2)[127]? = some (outC o cL v) := rfl
  refine ⟨va_P.app (fun k q hk => ?_) (fun k q hk => ?_), fun i j hi hj e => ?_, fun i hi e => ?_, fun i hi => ?_, hD.2 127 _ ho⟩
  · obtain ⟨h1, rfl⟩ := wl_inv hk
    exact (h0 k h1).2
  · cases k with
    | zero => cases hk; exact hP 127 _ ho
    | succ n => simp at hk
  · obtain ⟨e1, h1⟩ := (h0 i hi).1
    obtain ⟨e2, h2⟩ := (h0 j hj).1
    have h3 := hD.1 _ _ _ _ h1 h2 e
    rw [← (posL_ok i hi).1, h3, (posL_ok j hj).1]
  · obtain ⟨e1, h1⟩ := (h0 i hi).1
    have h3 := hD.1 _ _ _ _ ho h1 e
    have h4 := (posL_ok i hi).2
    omega
  · obtain ⟨e1, h1⟩ := (h0 i hi).1
    exact hD.2 _ _ h1
theorem cl_L8 : Cond.classLink RL 8 (Rc 11) ∈ lw_g := lw_mem 129 (by decide +kernel) (by decide +kernel)
theorem cl_L88 : Cond.classLink RL 88 (Rc 12) ∈ lw_g := lw_mem 1364 (by decide +kernel) (by decide +kernel)
theorem kl_L87 : Cond.methodLink RL 87 yX11_init ∈ lw_g := lw_mem 131 (by decide +kernel) (by decide +kernel)
theorem kl_L90 : Cond.methodLink RL 90 yX12_init ∈ lw_g := lw_mem 1366 (by decide +kernel) (by decide +kernel)
theorem ac_long : Cond.arrayClass .long ∈ lw_g := lw_mem 2048 (by decide +kernel) (by decide +kernel)
theorem ao_str : Cond.arrayOver (.object "java/lang/String") ∈ lw_tbl := List.mem_of_getElem? (i := 1371) (by decide +kernel)
