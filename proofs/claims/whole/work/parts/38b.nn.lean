theorem nn_le {a b : Nat} (ha : a < 2 ^ 31) (hb : b < 2 ^ 31) (h : nI a ≤ nI b) : a ≤ b := (nI_leI ha hb).mp h
theorem nn_lt {a b : Nat} (ha : a < 2 ^ 31) (hb : b < 2 ^ 31) (h : nI a < nI b) : a < b := (nI_ltI ha hb).mp h
theorem nn_nle {a b : Nat} (ha : a < 2 ^ 31) (hb : b < 2 ^ 31) (h : ¬ nI a ≤ nI b) : b < a := by
  rcases Nat.lt_or_ge b a with q | q
  · exact q
  · exact absurd ((nI_leI ha hb).mpr q) h
theorem nn_nlt {a b : Nat} (ha : a < 2 ^ 31) (hb : b < 2 ^ 31) (h : ¬ nI a < nI b) : b ≤ a := by
  rcases Nat.lt_or_ge a b with q | q
  · exact absurd ((nI_ltI ha hb).mpr q) h
  · exact q
theorem nI_mul (a b : Nat) : nI a * nI b = nI (a * b) := pk_mul a b
theorem nI_sub (a b : Nat) (h : b ≤ a) : nI a - nI b = nI (a - b) := pk_sub h
section Rules
variable {E : En} {md : MD} {d : Nat} {Q : QT} {X : XT} {pc : Nat} {lv lv' : List (Nat × Value)} {st : List Value} {g : G2} {k : Nat}
theorem sln_bd (a : Nat) : sln a ≤ 7 := nthN_bd slnL a 0 7 (by decide +kernel) (by decide)
theorem b_saldN {a j : Nat} {i : Int32} (hd : decode (md_cc md) pc = .ok (.aaload, 1)) (hi : i = nI j) (hj : j < sln a) (kk : B E md d Q X (pc + 1) lv (.ref (1000 + sof a + j) :: st) g k) : B E md d Q X pc lv (.int i :: .ref a :: st) g k := by
  subst hi
  have h := sln_bd a
  exact b_sald hd (vp_in_nI hj (by omega)) (by rw [nI_clamp (by omega)]; exact kk)
theorem b_bstN {a j : Nat} {i x : Int32} (hd : decode (md_cc md) pc = .ok (.bastore, 1)) (hi : i = nI j) (hj : j < bln a) (kk : B E md d Q X (pc + 1) lv st (up2 g a j (vp_nar .byte x)) k) : B E md d Q X pc lv (.int x :: .int i :: .ref a :: st) g k := by
  subst hi
  have h := bln_bd a
  exact b_bast hd (vp_in_nI hj (by omega)) (by rw [nI_clamp (by omega)]; exact kk)
end Rules
theorem RMl.cg {g h : G2} {T : TD} {S : LfS} (hR : RMl g T S) (h1 : ∀ j, 30 ≤ j → j ≤ 36 → h 84 j = g 84 j) (hz : ∀ z, 99 ≤ z → z ≤ 106 → z ≠ 103 → h z = g z) : RMl h T S := by
  obtain ⟨a1, a2, a3, a4, a5, a6, a7, a8, a9, a10, a11, a12, a13, a14, a15, a16⟩ := hR
  refine ⟨by rw [h1 32 (by decide) (by decide)]; exact a1, a2, ?_, ?_, ?_, by rw [h1 30 (by decide) (by decide)]; exact a6, by rw [h1 31 (by decide) (by decide)]; exact a7, by rw [h1 33 (by decide) (by decide)]; exact a8, by rw [h1 34 (by decide) (by decide)]; exact a9, by rw [h1 35 (by decide) (by decide)]; exact a10, ?_, ?_, by rw [h1 36 (by decide) (by decide)]; exact a13, a14, ?_, ?_⟩
  · rw [hz 104 (by decide) (by decide) (by decide)]; exact a3
  · rw [hz 105 (by decide) (by decide) (by decide)]; exact a4
  · rw [hz 106 (by decide) (by decide) (by decide)]; exact a5
  · rw [hz 99 (by decide) (by decide) (by decide)]; exact a11
  · rw [hz 100 (by decide) (by decide) (by decide)]; exact a12
  · rw [hz 101 (by decide) (by decide) (by decide)]; exact a15
  · rw [hz 102 (by decide) (by decide) (by decide)]; exact a16
theorem RMl.code {g : G2} {T : TD} {S : LfS} {x : Int32} (hR : RMl g T S) : RMl (up2 g 84 2 x) T S := hR.cg (fun j h1 h2 => up2_k _ _ _ _ (by omega)) (fun z h1 h2 h3 => up2_f _ _ _ _ (by omega))
theorem RMt.cg {g h : G2} {T : TD} (hT : RMt g T) (hz : ∀ z, 87 ≤ z → z ≤ 97 → h z = g z) : RMt h T := by
  unfold RMt at *
  rw [hz 87 (by decide) (by decide), hz 88 (by decide) (by decide), hz 90 (by decide) (by decide), hz 97 (by decide) (by decide), hz 94 (by decide) (by decide), hz 95 (by decide) (by decide)]
  exact hT
theorem RMt.code {g : G2} {T : TD} {x : Int32} (hT : RMt g T) : RMt (up2 g 84 2 x) T := hT.cg (fun z h1 h2 => up2_f _ _ _ _ (by omega))
