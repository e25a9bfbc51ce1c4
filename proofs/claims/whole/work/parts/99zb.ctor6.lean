section Ctor3
variable {E : En} {ci : Nat} {own : String} {cc : ByteArray} {d nc ns : Nat} {P : PT} {h pc : Nat} {st fs : List Value} {w : va_W} {kc ks : Nat}
/-- an array of strings -/
theorem k_newS {n : Int32} {idx : Nat} (N : Nat) (hd : decode cc pc = .ok (.anewarray idx, 3)) (hcl : Cond.classLink own idx "java/lang/String" ∈ lw_g) (hn : ¬ n < 0) (hN : n.toNatClampNeg = N) (hb : N * 4 ≤ 536870912) (hc : kc + 1 ≤ nc) (hs : ks + N ≤ ns) (kk : ∀ q, KB E ci own cc d nc ns P h (pc + 3) (.ref q :: st) fs (w ++ [(q, .inl (E.2.2.1.2.2, N, .inr (.inr (.inr (.inr (fun _ => none))))))]) (kc + 1) (ks + N)) : KB E ci own cc d nc ns P h pc (.int n :: st) fs w kc ks := by
  intro p l e R s m args below meth c H locs ls C hl hP hD hS
  have hR := C.2.2.2.2.2.2.2.2.2.2
  refine va_newq (C := "java/lang/String") C.1 C.2.1 C.2.2.2.2.2.1 (C.2.2.2.2.2.2.1 _ hcl) C.2.2.2.2.2.2.2.2.2.1.2.2 C.2.2.2.2.2.2.2.1 hP hD hS (fun q hq => Or.inr hq) hn hN hb (by rw [hR]; exact hc) (by rw [hR]; exact hs) hd (fun q cA H1 hK1 hP1 hD1 hS1 => ?_)
  obtain ⟨-, -, -, -, -, e1⟩ := (hK1.2 (tysE E).length (cA, .object "java/lang/String") (by rw [List.getElem?_append_right (Nat.le_refl _), Nat.sub_self]; rfl)).2
  obtain ⟨-, -, -, -, -, e2⟩ := (C.2.2.2.2.2.2.2.1.2 2 _ rfl).2
  cases Option.some.inj (e1.symm.trans e2)
  exact kk q p l e R s m args below meth c H1 locs ls C hl hP1 hD1 hS1
/-- a string constant -/
theorem k_ldc {idx n : Nat} {tx : String} (hq : (own, idx, tx, n) ∈ strL) (hd : decode cc pc = .ok (.ldc idx, 2)) (kk : KB E ci own cc d nc ns P h (pc + 2) (.ref (E.1 (1000 + n)) :: st) fs w kc ks) : KB E ci own cc d nc ns P h pc st fs w kc ks := by
  intro p l e R s m args below meth c H locs ls C hl hP hD hS
  exact va_ldcS C.1 C.2.1 C.2.2.2.2.2.1 (C.2.2.2.2.2.2.2.2.2.1.1.2.2.2.1 _ hq) hd (kk p l e R s m args below meth c H locs ls C hl hP hD hS)
/-- a string into its array -/
theorem k_aast {q : Nat × Nat × List Int32} {a N : Nat} {i : Int32} {f : Nat → Option Nat} (j k : Nat) (hq : q ∈ strC) (ha : w[j]? = some (a, .inl (E.2.2.1.2.2, N, .inr (.inr (.inr (.inr f)))))) (hk : i.toNatClampNeg = k) (h0 : ¬ i < 0) (hlt : k < N) (hd : decode cc pc = .ok (.aastore, 1)) (kk : KB E ci own cc d nc ns P h (pc + 1) st fs (w.set j (a, .inl (E.2.2.1.2.2, N, .inr (.inr (.inr (.inr (va_up f k (some (E.1 (1000 + q.1)))))))))) kc ks) : KB E ci own cc d nc ns P h pc (.ref (E.1 (1000 + q.1)) :: .int i :: .ref a :: st) fs w kc ks := by
  intro p l e R s m args below meth c H locs ls C hl hP hD hS
  subst hk
  have hO := ((C.2.2.2.2.2.2.2.2.2.1.1.2.2.1.1 q hq).1 0 (by decide)).1.kept hS.2.1
  obtain ⟨cellV, g1, g2, g3, -⟩ := hO
  obtain ⟨kA, comp, k1, k2, k3, -⟩ := (C.2.2.2.2.2.2.2.1.2 2 _ rfl).2
  cases Option.some.inj (k3.symm.trans g3)
  obtain ⟨kC, hkC, -⟩ := Vm.findClass_spec g3
  have ha' : ((h, .inr (ci, fs)) :: w : va_W)[j + 1]? = some (a, .inl (E.2.2.1.2.2, N, .inr (.inr (.inr (.inr f))))) := ha
  refine W.aast C.1 C.2.1 (hP (j + 1) _ ha') (fun q h => by cases h) (fun h => by cases h) k1 k2 rfl hkC ⟨h0, by show _ < (arrV _ _ _).slots.size; rw [arrV_size]; exact hlt⟩ g1 (fun q h => by rw [h] at g2; exact Bool.noConfusion g2) hkC (va_asg _ _) rfl rfl hd fun H1 e1 z oq => ?_
  refine kk p l e R s m args below meth c H1 _ ls C hl (hP.set hD ha' ?_ oq) (hD.set ha') (hS.put z oq (hD.2 (j + 1) _ ha'))
  show H1[a]? = some (vp_cell _ _)
  rw [e1]
  rw [vp_cell_q, vp_cell_q, arrV_store]
  congr 2
  funext x
  by_cases hx : x = i.toNatClampNeg
  · subst hx
    simp [updV, va_up, va_rf]
  · simp [updV, va_up, hx]
end Ctor3
