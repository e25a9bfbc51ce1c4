/-- from the entry, for every script of at most 3072 ints, the law comes to its end with true -/
theorem whole_start {p : Program} {e : Env} {s : State} {m : MethodId} {below : List Frame} {meth : Method} {c : Code} (l : Launch) (hl0 : l.stackTraces = false) {b L : Nat} {xs : Nat → Int32} (hL : L ≤ 3072) (C0 : lw_At p s m meth c b L xs) : W p l e room_1 s m #[Value.ref b] below meth c s.heap [] 0 0 (lw_Z below #[Value.ref b] s) (entryFrame m ([Value.ref b] : List Value).toArray 7) := by
  obtain ⟨hx, hb, hr, hml, hown, hts, hX, hbl, hlocks, hgv⟩ := id C0
  have hn : narrow_1.before #[Value.ref b] s = true := by
    rw [Cond.before_and, Bool.and_eq_true] at hgv
    exact hgv.2
  have hg := hts_g hts
  have hA : ∀ a : Nat, a < s.heap.size → ¬ Alw s a := fun a h q => absurd h (Nat.not_lt.mpr q)
  obtain ⟨ad, hST⟩ := STs_start (A := Alw s) hn hts hA
  obtain ⟨D, cI, cB, cS, cL, hK4⟩ := K_start hts (hg _ ac_int) (hg _ ac_byte) (hg _ ac_long) (hts _ ao_str)
  obtain ⟨E, hE⟩ : ∃ E : En, E = (ad, D, (cI, cB, cS), fun _ => 0) := ⟨_, rfl⟩
  have hK4 : va_K E.2.1 clsL (tysE E ++ [(cL, .long)]) s := by rw [hE]; exact hK4
  have hK : va_K E.2.1 clsL (tysE E) s := hK4.sub [0, 1, 2] rfl
  have hSt : CSt E (Alw s) s s.heap := CSt_start hts (hST E (fun n _ => by rw [hE]))
  have hl := lv_entry ([.ref b]) (n := 7) (Nat.le_of_ble_eq_true rfl)
  rw [lg_entry_eq]
  generalize (lg_sl ([.ref b]) ++ List.replicate (7 - (lg_sl ([.ref b])).length) Slot.unset).toArray = ls at hl ⊢
  have hl : lv_has ls 7 [(0, .ref b)] := hl
  have hP : va_P E.2.1 clsL [] s.heap := fun k q h => by simp at h
  have hD : va_D (Alw s) [] := ⟨fun i j p q h => by simp at h, fun k q h => by simp at h⟩
  refine l_new (E := E) (ws := []) (own := RL) (d' := 4) (nc' := 83) (ns' := 6997) (P' := PX11 E) hx hb hml hown hg hK hSt hP hD va_S.rf hl.1 (by decide) ln_11 dL_law_0 dL_law_3 dL_law_4 cl_L8 kl_L87 ii_11 ic_11 ln_11.2 rfl id_11 (by decide) (by show 4 + 1 ≤ 2048; decide +kernel) (by show 8 + (1 + 11) + 128 * 4 ≤ 84000; decide +kernel) (by show 0 + 1 + 83 ≤ 601024; decide +kernel) (by show 0 + 13 + 6997 ≤ 7293034; decide +kernel) con_X11 (fun x0 w0 hw0 H1 locs1 hP1 hD1 hS1 => ?_)
  obtain ⟨f1, rfl, rfl⟩ := hw0
  refine lv_astore_n hx hb dL_law_7 rfl hl (by decide) rfl (fun ls1 hl1 => ?_)
  have hl1 : lv_has ls1 7 [(1, .ref (f1 0)), (0, .ref b)] := hl1
  refine l_new (E := E) (own := RL) (d' := 1) (nc' := 42) (ns' := 7686) (P' := PX12 E) hx hb hml hown hg hK hSt hP1 hD1 hS1 hl1.1 (by decide) ln_12 dL_law_8 dL_law_11 dL_law_12 cl_L88 kl_L90 ii_12 ic_12 ln_12.2 rfl id_12 (by decide) (by show 1 + 1 ≤ 2048; decide +kernel) (by show 8 + (1 + 11) + 128 * 1 ≤ 84000; decide +kernel) (by show 0 + 1 + 83 + 1 + 42 ≤ 601024; decide +kernel) (by show 0 + 13 + 6997 + 69 + 7686 ≤ 7293034; decide +kernel) con_X12 (fun x84 w1 hw1 H2 locs2 hP2 hD2 hS2 => ?_)
  obtain ⟨f2, rfl, rfl⟩ := hw1
  refine lv_astore_n hx hb dL_law_15 rfl hl1 (by decide) rfl (fun ls2 hl2 => ?_)
  have hl2 : lv_has ls2 7 [(2, .ref (f2 0)), (1, .ref (f1 0)), (0, .ref b)] := hl2
  refine lv_iconst (v := 1) hx hb dL_law_16 (by decide +kernel) ?_
  refine va_newa (atype := .long) (ty := .long) (a0 := (1, .inr (.inl (fun _ => 0)))) hx hb (hg _ ac_long) rfl hK4 hP2 hD2 hS2 (fun q hq => hq) (fun cA => rfl) (by decide +kernel) (by decide +kernel) (by decide) (by show 0 + 1 + 83 + 1 + 42 + 1 ≤ 601024; decide +kernel) (by show 0 + 13 + 6997 + 69 + 7686 + 1 ≤ 7293034; decide +kernel) dL_law_17 (fun o cA H3 hK3 hP3 hD3 hS3 => ?_)
  have e1 : s.vm.findClass "[J" = some cA := (hK3.2 4 (cA, .long) rfl).2
  have e2 : s.vm.findClass "[J" = some cL := (hK4.2 3 (cL, .long) rfl).2
  cases Option.some.inj (e1.symm.trans e2)
  refine lv_astore_n hx hb dL_law_19 rfl hl2 (by decide) rfl (fun ls3 hl3 => ?_)
  have hl3 : lv_has ls3 7 [(3, .ref o), (2, .ref (f2 0)), (1, .ref (f1 0)), (0, .ref b)] := hl3
  refine lv_iconst (v := nI 0) hx hb dL_law_20 (by decide +kernel) ?_
  refine lv_istore hx hb dL_law_21 hl3 (by decide) rfl (fun ls4 hl4 => ?_)
  have hl4 : lv_has ls4 7 [(4, .int (nI 0)), (3, .ref o), (2, .ref (f2 0)), (1, .ref (f1 0)), (0, .ref b)] := hl4
  have hP4 : va_P E.2.1 clsL (wsA E o cL (fun _ => 0) f1 f2) H3 := hP3
  have hD4 : va_D (Alw s) (wsA E o cL (fun _ => 0) f1 f2) := hD3
  obtain ⟨y1, y2, y3, y4, y5⟩ := fin_world hP4 hD4
  have hST2 : STs (adE E f1 f2) (Alw s) s s.heap := hST _ (fun n h => (adE_s n h).trans (by rw [hE]))
  refine W.widen (k := 128) (n := 14766) (by decide +kernel) (by decide +kernel) ?_
  exact law_loop (E := (adE E f1 f2)) ⟨hx, hb, hml, hown, hg, hK4, hl0, y2, y3, hST2, Nc_start hn, y4, y5, fun q h => h⟩ hr hlocks hX hbl hL L 0 (by omega) (Nat.zero_le _) st0W g0 _ H3 _ ls4 128 14766 (by omega) (by omega) y1 hS3 CR_0 MR_0 OKs_0 (lv_sub hl4 [4, 3, 2, 1, 0] rfl)
