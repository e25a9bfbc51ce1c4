theorem z_count {E : En} {o : Nat} {cL : ClassId} {p : Program} {l : Launch} {e : Env} {s : State} {m : MethodId} {below : List Frame} {meth : Method} {c : Code} {H : Heap} {locs : List Loc} {cells slots : Nat} {Q : State → Prop} {ls : Array Slot} {g : G2} {v : Nat → Int64} {b L i : Nat} {xs : Nat → Int32} {σ : WS} (C : LXw E o cL (Alw s) p l s m #[Value.ref b] c cL_law 7) (hX : va_X b L xs s s.heap) (hbl : b < s.heap.size) (hL : L ≤ 3072) (hi : i + 5 < L) (hP : LPw E o cL g v H) (hS : va_S (Alw s) s.heap H locs) (hC : CR g σ) (hM : MR g σ) (hO : OKs σ) (hl : lv_has ls 7 (lawlv E b o i)) (hcl : cells + 4 ≤ 601024) (hsl : slots + 24 ≤ 7293034) (kn : LNx E o cL b p l e s m below meth c Q (cells + 4) (slots + 24) i) : W p l e room_1 s m #[Value.ref b] below meth c H locs cells slots Q (F0 m 346 ls []) := by
  have hl : lv_has ls 7 [(0, .ref b), (1, .ref (E.1 0)), (2, .ref (E.1 84)), (3, .ref o), (4, .int (nI i))] := hl
  obtain ⟨r, hr⟩ : ∃ r : OR, q1 σ (couM σ.T (f_S σ.F) (nI (f_na σ.F)) (nI (f_nh σ.F)) (nI σ.m) (f_g σ.F 2) (xs (i + 1))) = r := ⟨_, rfl⟩
  have hO2 : OKs r.2.2 := by rw [← hr]; exact hO
  refine lv_aload_n C.1 C.2.1 dL_law_346 rfl (lv_at hl 1 rfl) ?_
  refine l_sc (i := i) (k := 1) C.1 C.2.1 hX hbl hS (lv_at hl 0 rfl) (lv_at hl 4 rfl) dL_law_347 dL_law_348 dL_law_350 (by decide +kernel) dL_law_351 dL_law_352 (by omega) hL ?_
  refine lv_aload_n C.1 C.2.1 dL_law_353 rfl (lv_at hl 3 rfl) ?_
  refine l_callW (n := 3) (w := wd_count) (As := [.ref 0, .int (xs (i + 1))]) (rest := []) (d' := 60) (Qw := fun k g' v' => k = nI r.1 ∧ CR g' r.2.2 ∧ HF g g' ∧ r.1 ≤ 2 ∧ (r.1 = 0 → v' 0 = r.2.1.toInt64)) C hP hS hl.1 dL_law_354 ll_110 wl_k_count wl_ini wl_s_count (by decide) (by decide +kernel) rfl rfl (Nat.le_of_ble_eq_true rfl) (by show 60 + 1 ≤ 2048; decide) (by show 8 + (4 + 11) + 128 * 60 ≤ 84000; decide) (by show cells + 1 ≤ 601024; omega) (by show slots + 6 * 1 ≤ 7293034; omega) (w_count hC hO (by rw [hr]; exact fun g' v' h1 h2 h3 h4 => ⟨rfl, h1, h2, h3, h4⟩)) (fun k g1 v1 hq H1 locs1 hP1 hS1 => ?_)
  obtain ⟨rfl, hC1, hF1, hle, hv1⟩ := hq
  refine lv_istore C.1 C.2.1 dL_law_357 hl (by decide) rfl (fun ls1 hl1 => ?_)
  have hl1 : lv_has ls1 7 [(5, .int (nI r.1)), (0, .ref b), (1, .ref (E.1 0)), (2, .ref (E.1 84)), (3, .ref o), (4, .int (nI i))] := hl1
  refine lv_aload_n C.1 C.2.1 dL_law_359 rfl (lv_at hl1 3 rfl) ?_
  refine l_sc (i := i) (k := 1) C.1 C.2.1 hX hbl hS1 (lv_at hl1 1 rfl) (lv_at hl1 5 rfl) dL_law_360 dL_law_361 dL_law_363 (by decide +kernel) dL_law_364 dL_law_365 (by omega) hL ?_
  refine l_callV (md' := md_X12_count) (As := [.int (xs (i + 1))]) (rest := []) (d' := 60) (a := 84) (Qm := fun w g' => ∃ b9, w = some (.int b9) ∧ MR g' r.2.2 ∧ LF g1 g' ∧ g' 84 2 = nI r.1 ∧ (r.1 = 0 → b9 = r.2.1)) (Xm := fun _ _ => False) C hP1 hS1 hl1.1 dL_law_366 ll_112 lm_X12_count lv_X12_count rfl (by decide) rfl rfl rfl (Nat.le_of_ble_eq_true rfl) (by show 60 + 1 ≤ 2048; decide) (by show 8 + (2 + 11) + 128 * 60 ≤ 84000; decide) (by show cells + 1 + 0 ≤ 601024; omega) (by show slots + 6 * 1 + 6 * 0 ≤ 7293034; omega) (n_count (hM.hf hF1) hO (by rw [hr]; exact fun h b9 h1 h2 h3 h4 => ⟨b9, rfl, h1, h2, h3, h4⟩)) (fun w g2 hw H2 locs2 hP2 hS2 => ?_) (fun Ex g2 hx => hx.elim)
  obtain ⟨b9, rfl, hM2, hF2, h84, hb9⟩ := hw
  refine W.eq (g2 := F0 m 369 ls1 [.int b9]) rfl ?_
  refine lv_istore C.1 C.2.1 dL_law_369 hl1 (by decide) rfl (fun ls2 hl2 => ?_)
  have hl2 : lv_has ls2 7 [(6, .int b9), (5, .int (nI r.1)), (0, .ref b), (1, .ref (E.1 0)), (2, .ref (E.1 84)), (3, .ref o), (4, .int (nI i))] := hl2
  refine lv_aload_n C.1 C.2.1 dL_law_371 rfl (lv_at hl2 4 rfl) ?_
  refine l_callV (md' := md_X12_thrown) (As := []) (rest := []) (d' := 60) (a := 84) (Qm := fun w g' => w = some (.int (nI r.1)) ∧ g' = g2) (Xm := fun _ _ => False) C hP2 hS2 hl2.1 dL_law_372 ll_102 lm_X12_thrown lv_X12_thrown rfl (by decide) rfl rfl rfl (Nat.le_of_ble_eq_true rfl) (by show 60 + 1 ≤ 2048; decide) (by show 8 + (1 + 11) + 128 * 60 ≤ 84000; decide) (by show cells + 1 + 0 + 0 ≤ 601024; omega) (by show slots + 6 * 1 + 6 * 0 + 6 * 0 ≤ 7293034; omega) (c_X12_thrown ⟨by rw [h84], rfl⟩) (fun w g3 hw H3 locs3 hP3 hS3 => ?_) (fun Ex g3 hx => hx.elim)
  obtain ⟨rfl, rfl⟩ := hw
  refine W.eq (g2 := F0 m 375 ls2 [.int (nI r.1)]) rfl ?_
  refine lv_iload C.1 C.2.1 dL_law_375 (lv_at hl2 1 rfl) ?_
  refine lv_icmp_eq (tgt := 382) C.1 C.2.1 dL_law_377 (by decide) (fun _ => ?_) (fun q => absurd rfl q)
  refine lv_iload C.1 C.2.1 dL_law_382 (lv_at hl2 1 rfl) ?_
  have fin : W p l e room_1 s m #[Value.ref b] below meth c H3 locs3 (cells + 1 + 0 + 0) (slots + 6 * 1 + 6 * 0 + 6 * 0) Q (F0 m 399 ls2 []) := by
    refine lv_goto (tgt := 1976) C.1 C.2.1 dL_law_399 (by decide) ?_
    refine W.widen (k := cells + 4) (n := slots + 24) (by show cells + 1 + 0 + 0 ≤ cells + 4; omega) (by show slots + 6 * 1 + 6 * 0 + 6 * 0 ≤ slots + 24; omega) ?_
    exact kn r.2.2 g3 v1 H3 locs3 ls2 hP3 hS3 (hC1.lf hF2) hM2 hO2 (lv_sub hl2 [2, 3, 4, 5, 6] rfl)
  refine lv_if_ne (tgt := 399) C.1 C.2.1 dL_law_384 (by decide) (fun _ => fin) (fun hz => ?_)
  have r0 : r.1 = 0 := nI_inj (b := 0) (by omega) (by decide) hz
  refine lv_aload_n C.1 C.2.1 dL_law_387 rfl (lv_at hl2 5 rfl) ?_
  refine lv_iconst (v := 0) C.1 C.2.1 dL_law_388 (by decide +kernel) ?_
  refine va_lald (D := E.2.1) C.1 C.2.1 C.2.2.2.2.2.1 hP3 NID 3 (wlo_o (E := E) (g := g3) (o := o) (cL := cL) (v := v1)) rfl (by unfold vp_in; decide +kernel) dL_law_389 ?_
  rw [show (0 : Int32).toNatClampNeg = 0 from rfl, hv1 r0]
  refine lv_iload C.1 C.2.1 dL_law_390 (lv_at hl2 0 rfl) ?_
  rw [hb9 r0]
  refine lv_i2l C.1 C.2.1 dL_law_392 rfl ?_
  refine W.lcmp C.1 C.2.1 dL_law_393 ?_
  rw [lg_same]
  refine lv_if_eq (tgt := 399) C.1 C.2.1 dL_law_394 (by decide) (fun _ => fin) (fun q => absurd rfl q)
theorem z_person {E : En} {o : Nat} {cL : ClassId} {p : Program} {l : Launch} {e : Env} {s : State} {m : MethodId} {below : List Frame} {meth : Method} {c : Code} {H : Heap} {locs : List Loc} {cells slots : Nat} {Q : State → Prop} {ls : Array Slot} {g : G2} {v : Nat → Int64} {b L i : Nat} {xs : Nat → Int32} {σ : WS} (C : LXw E o cL (Alw s) p l s m #[Value.ref b] c cL_law 7) (hX : va_X b L xs s s.heap) (hbl : b < s.heap.size) (hL : L ≤ 3072) (hi : i + 5 < L) (hP : LPw E o cL g v H) (hS : va_S (Alw s) s.heap H locs) (hC : CR g σ) (hM : MR g σ) (hO : OKs σ) (hl : lv_has ls 7 (lawlv E b o i)) (hcl : cells + 4 ≤ 601024) (hsl : slots + 24 ≤ 7293034) (kn : LNx E o cL b p l e s m below meth c Q (cells + 4) (slots + 24) i) : W p l e room_1 s m #[Value.ref b] below meth c H locs cells slots Q (F0 m 402 ls []) := by
  have hl : lv_has ls 7 [(0, .ref b), (1, .ref (E.1 0)), (2, .ref (E.1 84)), (3, .ref o), (4, .int (nI i))] := hl
  obtain ⟨r, hr⟩ : ∃ r : OR, q1 σ (perM σ.T (f_S σ.F) (xs (i + 1)) (xs (i + 2))) = r := ⟨_, rfl⟩
  have hO2 : OKs r.2.2 := by rw [← hr]; exact hO
  refine lv_aload_n C.1 C.2.1 dL_law_402 rfl (lv_at hl 1 rfl) ?_
  refine l_sc (i := i) (k := 1) C.1 C.2.1 hX hbl hS (lv_at hl 0 rfl) (lv_at hl 4 rfl) dL_law_403 dL_law_404 dL_law_406 (by decide +kernel) dL_law_407 dL_law_408 (by omega) hL ?_
  refine l_sc (i := i) (k := 2) C.1 C.2.1 hX hbl hS (lv_at hl 0 rfl) (lv_at hl 4 rfl) dL_law_409 dL_law_410 dL_law_412 (by decide +kernel) dL_law_413 dL_law_414 (by omega) hL ?_
  refine lv_aload_n C.1 C.2.1 dL_law_415 rfl (lv_at hl 3 rfl) ?_
  refine l_callW (n := 4) (w := wd_person) (As := [.ref 0, .int (xs (i + 1)), .int (xs (i + 2))]) (rest := []) (d' := 60) (Qw := fun k g' v' => k = nI r.1 ∧ CR g' r.2.2 ∧ HF g g' ∧ r.1 ≤ 2 ∧ (r.1 = 0 → v' 0 = r.2.1.toInt64)) C hP hS hl.1 dL_law_416 ll_113 wl_k_person wl_ini wl_s_person (by decide) (by decide +kernel) rfl rfl (Nat.le_of_ble_eq_true rfl) (by show 60 + 1 ≤ 2048; decide) (by show 8 + (5 + 11) + 128 * 60 ≤ 84000; decide) (by show cells + 2 ≤ 601024; omega) (by show slots + 6 * 2 ≤ 7293034; omega) (w_person hC hO (by rw [hr]; exact fun g' v' h1 h2 h3 h4 => ⟨rfl, h1, h2, h3, h4⟩)) (fun k g1 v1 hq H1 locs1 hP1 hS1 => ?_)
  obtain ⟨rfl, hC1, hF1, hle, hv1⟩ := hq
  refine lv_istore C.1 C.2.1 dL_law_419 hl (by decide) rfl (fun ls1 hl1 => ?_)
  have hl1 : lv_has ls1 7 [(5, .int (nI r.1)), (0, .ref b), (1, .ref (E.1 0)), (2, .ref (E.1 84)), (3, .ref o), (4, .int (nI i))] := hl1
  refine lv_aload_n C.1 C.2.1 dL_law_421 rfl (lv_at hl1 3 rfl) ?_
  refine l_sc (i := i) (k := 1) C.1 C.2.1 hX hbl hS1 (lv_at hl1 1 rfl) (lv_at hl1 5 rfl) dL_law_422 dL_law_423 dL_law_425 (by decide +kernel) dL_law_426 dL_law_427 (by omega) hL ?_
  refine l_sc (i := i) (k := 2) C.1 C.2.1 hX hbl hS1 (lv_at hl1 1 rfl) (lv_at hl1 5 rfl) dL_law_428 dL_law_429 dL_law_431 (by decide +kernel) dL_law_432 dL_law_433 (by omega) hL ?_
  refine l_callV (md' := md_X12_person) (As := [.int (xs (i + 1)), .int (xs (i + 2))]) (rest := []) (d' := 60) (a := 84) (Qm := fun w g' => ∃ b9, w = some (.int b9) ∧ MR g' r.2.2 ∧ LF g1 g' ∧ g' 84 2 = nI r.1 ∧ (r.1 = 0 → b9 = r.2.1)) (Xm := fun _ _ => False) C hP1 hS1 hl1.1 dL_law_434 ll_116 lm_X12_person lv_X12_person rfl (by decide) rfl rfl rfl (Nat.le_of_ble_eq_true rfl) (by show 60 + 1 ≤ 2048; decide) (by show 8 + (5 + 11) + 128 * 60 ≤ 84000; decide) (by show cells + 2 + 0 ≤ 601024; omega) (by show slots + 6 * 2 + 6 * 0 ≤ 7293034; omega) (n_person (hM.hf hF1) hO (by rw [hr]; exact fun h b9 h1 h2 h3 h4 => ⟨b9, rfl, h1, h2, h3, h4⟩)) (fun w g2 hw H2 locs2 hP2 hS2 => ?_) (fun Ex g2 hx => hx.elim)
  obtain ⟨b9, rfl, hM2, hF2, h84, hb9⟩ := hw
  refine W.eq (g2 := F0 m 437 ls1 [.int b9]) rfl ?_
  refine lv_istore C.1 C.2.1 dL_law_437 hl1 (by decide) rfl (fun ls2 hl2 => ?_)
  have hl2 : lv_has ls2 7 [(6, .int b9), (5, .int (nI r.1)), (0, .ref b), (1, .ref (E.1 0)), (2, .ref (E.1 84)), (3, .ref o), (4, .int (nI i))] := hl2
  refine lv_aload_n C.1 C.2.1 dL_law_439 rfl (lv_at hl2 4 rfl) ?_
  refine l_callV (md' := md_X12_thrown) (As := []) (rest := []) (d' := 60) (a := 84) (Qm := fun w g' => w = some (.int (nI r.1)) ∧ g' = g2) (Xm := fun _ _ => False) C hP2 hS2 hl2.1 dL_law_440 ll_102 lm_X12_thrown lv_X12_thrown rfl (by decide) rfl rfl rfl (Nat.le_of_ble_eq_true rfl) (by show 60 + 1 ≤ 2048; decide) (by show 8 + (1 + 11) + 128 * 60 ≤ 84000; decide) (by show cells + 2 + 0 + 0 ≤ 601024; omega) (by show slots + 6 * 2 + 6 * 0 + 6 * 0 ≤ 7293034; omega) (c_X12_thrown ⟨by rw [h84], rfl⟩) (fun w g3 hw H3 locs3 hP3 hS3 => ?_) (fun Ex g3 hx => hx.elim)
  obtain ⟨rfl, rfl⟩ := hw
  refine W.eq (g2 := F0 m 443 ls2 [.int (nI r.1)]) rfl ?_
  refine lv_iload C.1 C.2.1 dL_law_443 (lv_at hl2 1 rfl) ?_
  refine lv_icmp_eq (tgt := 450) C.1 C.2.1 dL_law_445 (by decide) (fun _ => ?_) (fun q => absurd rfl q)
  refine lv_iload C.1 C.2.1 dL_law_450 (lv_at hl2 1 rfl) ?_
  have fin : W p l e room_1 s m #[Value.ref b] below meth c H3 locs3 (cells + 2 + 0 + 0) (slots + 6 * 2 + 6 * 0 + 6 * 0) Q (F0 m 467 ls2 []) := by
    refine lv_goto (tgt := 1976) C.1 C.2.1 dL_law_467 (by decide) ?_
    refine W.widen (k := cells + 4) (n := slots + 24) (by show cells + 2 + 0 + 0 ≤ cells + 4; omega) (by show slots + 6 * 2 + 6 * 0 + 6 * 0 ≤ slots + 24; omega) ?_
    exact kn r.2.2 g3 v1 H3 locs3 ls2 hP3 hS3 (hC1.lf hF2) hM2 hO2 (lv_sub hl2 [2, 3, 4, 5, 6] rfl)
  refine lv_if_ne (tgt := 467) C.1 C.2.1 dL_law_452 (by decide) (fun _ => fin) (fun hz => ?_)
  have r0 : r.1 = 0 := nI_inj (b := 0) (by omega) (by decide) hz
  refine lv_aload_n C.1 C.2.1 dL_law_455 rfl (lv_at hl2 5 rfl) ?_
  refine lv_iconst (v := 0) C.1 C.2.1 dL_law_456 (by decide +kernel) ?_
  refine va_lald (D := E.2.1) C.1 C.2.1 C.2.2.2.2.2.1 hP3 NID 3 (wlo_o (E := E) (g := g3) (o := o) (cL := cL) (v := v1)) rfl (by unfold vp_in; decide +kernel) dL_law_457 ?_
  rw [show (0 : Int32).toNatClampNeg = 0 from rfl, hv1 r0]
  refine lv_iload C.1 C.2.1 dL_law_458 (lv_at hl2 0 rfl) ?_
  rw [hb9 r0]
  refine lv_i2l C.1 C.2.1 dL_law_460 rfl ?_
  refine W.lcmp C.1 C.2.1 dL_law_461 ?_
  rw [lg_same]
  refine lv_if_eq (tgt := 467) C.1 C.2.1 dL_law_462 (by decide) (fun _ => fin) (fun q => absurd rfl q)
theorem z_feud {E : En} {o : Nat} {cL : ClassId} {p : Program} {l : Launch} {e : Env} {s : State} {m : MethodId} {below : List Frame} {meth : Method} {c : Code} {H : Heap} {locs : List Loc} {cells slots : Nat} {Q : State → Prop} {ls : Array Slot} {g : G2} {v : Nat → Int64} {b L i : Nat} {xs : Nat → Int32} {σ : WS} (C : LXw E o cL (Alw s) p l s m #[Value.ref b] c cL_law 7) (hX : va_X b L xs s s.heap) (hbl : b < s.heap.size) (hL : L ≤ 3072) (hi : i + 5 < L) (hP : LPw E o cL g v H) (hS : va_S (Alw s) s.heap H locs) (hC : CR g σ) (hM : MR g σ) (hO : OKs σ) (hl : lv_has ls 7 (lawlv E b o i)) (hcl : cells + 4 ≤ 601024) (hsl : slots + 24 ≤ 7293034) (kn : LNx E o cL b p l e s m below meth c Q (cells + 4) (slots + 24) i) : W p l e room_1 s m #[Value.ref b] below meth c H locs cells slots Q (F0 m 470 ls []) := by
  have hl : lv_has ls 7 [(0, .ref b), (1, .ref (E.1 0)), (2, .ref (E.1 84)), (3, .ref o), (4, .int (nI i))] := hl
  obtain ⟨r, hr⟩ : ∃ r : OR, q1 σ (feuM (f_S σ.F) (xs (i + 1)) (xs (i + 2))) = r := ⟨_, rfl⟩
  have hO2 : OKs r.2.2 := by rw [← hr]; exact hO
  refine lv_aload_n C.1 C.2.1 dL_law_470 rfl (lv_at hl 1 rfl) ?_
  refine l_sc (i := i) (k := 1) C.1 C.2.1 hX hbl hS (lv_at hl 0 rfl) (lv_at hl 4 rfl) dL_law_471 dL_law_472 dL_law_474 (by decide +kernel) dL_law_475 dL_law_476 (by omega) hL ?_
  refine l_sc (i := i) (k := 2) C.1 C.2.1 hX hbl hS (lv_at hl 0 rfl) (lv_at hl 4 rfl) dL_law_477 dL_law_478 dL_law_480 (by decide +kernel) dL_law_481 dL_law_482 (by omega) hL ?_
  refine lv_aload_n C.1 C.2.1 dL_law_483 rfl (lv_at hl 3 rfl) ?_
  refine l_callW (n := 4) (w := wd_feud) (As := [.ref 0, .int (xs (i + 1)), .int (xs (i + 2))]) (rest := []) (d' := 60) (Qw := fun k g' v' => k = nI r.1 ∧ CR g' r.2.2 ∧ HF g g' ∧ r.1 ≤ 2 ∧ (r.1 = 0 → v' 0 = r.2.1.toInt64)) C hP hS hl.1 dL_law_484 ll_117 wl_k_feud wl_ini wl_s_feud (by decide) (by decide +kernel) rfl rfl (Nat.le_of_ble_eq_true rfl) (by show 60 + 1 ≤ 2048; decide) (by show 8 + (5 + 11) + 128 * 60 ≤ 84000; decide) (by show cells + 2 ≤ 601024; omega) (by show slots + 6 * 2 ≤ 7293034; omega) (w_feud hC hO (by rw [hr]; exact fun g' v' h1 h2 h3 h4 => ⟨rfl, h1, h2, h3, h4⟩)) (fun k g1 v1 hq H1 locs1 hP1 hS1 => ?_)
  obtain ⟨rfl, hC1, hF1, hle, hv1⟩ := hq
  refine lv_istore C.1 C.2.1 dL_law_487 hl (by decide) rfl (fun ls1 hl1 => ?_)
  have hl1 : lv_has ls1 7 [(5, .int (nI r.1)), (0, .ref b), (1, .ref (E.1 0)), (2, .ref (E.1 84)), (3, .ref o), (4, .int (nI i))] := hl1
  refine lv_aload_n C.1 C.2.1 dL_law_489 rfl (lv_at hl1 3 rfl) ?_
  refine l_sc (i := i) (k := 1) C.1 C.2.1 hX hbl hS1 (lv_at hl1 1 rfl) (lv_at hl1 5 rfl) dL_law_490 dL_law_491 dL_law_493 (by decide +kernel) dL_law_494 dL_law_495 (by omega) hL ?_
  refine l_sc (i := i) (k := 2) C.1 C.2.1 hX hbl hS1 (lv_at hl1 1 rfl) (lv_at hl1 5 rfl) dL_law_496 dL_law_497 dL_law_499 (by decide +kernel) dL_law_500 dL_law_501 (by omega) hL ?_
  refine l_callV (md' := md_X12_feud) (As := [.int (xs (i + 1)), .int (xs (i + 2))]) (rest := []) (d' := 60) (a := 84) (Qm := fun w g' => ∃ b9, w = some (.int b9) ∧ MR g' r.2.2 ∧ LF g1 g' ∧ g' 84 2 = nI r.1 ∧ (r.1 = 0 → b9 = r.2.1)) (Xm := fun _ _ => False) C hP1 hS1 hl1.1 dL_law_502 ll_119 lm_X12_feud lv_X12_feud rfl (by decide) rfl rfl rfl (Nat.le_of_ble_eq_true rfl) (by show 60 + 1 ≤ 2048; decide) (by show 8 + (3 + 11) + 128 * 60 ≤ 84000; decide) (by show cells + 2 + 0 ≤ 601024; omega) (by show slots + 6 * 2 + 6 * 0 ≤ 7293034; omega) (n_feud (hM.hf hF1) hO (by rw [hr]; exact fun h b9 h1 h2 h3 h4 => ⟨b9, rfl, h1, h2, h3, h4⟩)) (fun w g2 hw H2 locs2 hP2 hS2 => ?_) (fun Ex g2 hx => hx.elim)
  obtain ⟨b9, rfl, hM2, hF2, h84, hb9⟩ := hw
  refine W.eq (g2 := F0 m 505 ls1 [.int b9]) rfl ?_
  refine lv_istore C.1 C.2.1 dL_law_505 hl1 (by decide) rfl (fun ls2 hl2 => ?_)
  have hl2 : lv_has ls2 7 [(6, .int b9), (5, .int (nI r.1)), (0, .ref b), (1, .ref (E.1 0)), (2, .ref (E.1 84)), (3, .ref o), (4, .int (nI i))] := hl2
  refine lv_aload_n C.1 C.2.1 dL_law_507 rfl (lv_at hl2 4 rfl) ?_
  refine l_callV (md' := md_X12_thrown) (As := []) (rest := []) (d' := 60) (a := 84) (Qm := fun w g' => w = some (.int (nI r.1)) ∧ g' = g2) (Xm := fun _ _ => False) C hP2 hS2 hl2.1 dL_law_508 ll_102 lm_X12_thrown lv_X12_thrown rfl (by decide) rfl rfl rfl (Nat.le_of_ble_eq_true rfl) (by show 60 + 1 ≤ 2048; decide) (by show 8 + (1 + 11) + 128 * 60 ≤ 84000; decide) (by show cells + 2 + 0 + 0 ≤ 601024; omega) (by show slots + 6 * 2 + 6 * 0 + 6 * 0 ≤ 7293034; omega) (c_X12_thrown ⟨by rw [h84], rfl⟩) (fun w g3 hw H3 locs3 hP3 hS3 => ?_) (fun Ex g3 hx => hx.elim)
  obtain ⟨rfl, rfl⟩ := hw
  refine W.eq (g2 := F0 m 511 ls2 [.int (nI r.1)]) rfl ?_
  refine lv_iload C.1 C.2.1 dL_law_511 (lv_at hl2 1 rfl) ?_
  refine lv_icmp_eq (tgt := 518) C.1 C.2.1 dL_law_513 (by decide) (fun _ => ?_) (fun q => absurd rfl q)
  refine lv_iload C.1 C.2.1 dL_law_518 (lv_at hl2 1 rfl) ?_
  have fin : W p l e room_1 s m #[Value.ref b] below meth c H3 locs3 (cells + 2 + 0 + 0) (slots + 6 * 2 + 6 * 0 + 6 * 0) Q (F0 m 535 ls2 []) := by
    refine lv_goto (tgt := 1976) C.1 C.2.1 dL_law_535 (by decide) ?_
    refine W.widen (k := cells + 4) (n := slots + 24) (by show cells + 2 + 0 + 0 ≤ cells + 4; omega) (by show slots + 6 * 2 + 6 * 0 + 6 * 0 ≤ slots + 24; omega) ?_
    exact kn r.2.2 g3 v1 H3 locs3 ls2 hP3 hS3 (hC1.lf hF2) hM2 hO2 (lv_sub hl2 [2, 3, 4, 5, 6] rfl)
  refine lv_if_ne (tgt := 535) C.1 C.2.1 dL_law_520 (by decide) (fun _ => fin) (fun hz => ?_)
  have r0 : r.1 = 0 := nI_inj (b := 0) (by omega) (by decide) hz
  refine lv_aload_n C.1 C.2.1 dL_law_523 rfl (lv_at hl2 5 rfl) ?_
  refine lv_iconst (v := 0) C.1 C.2.1 dL_law_524 (by decide +kernel) ?_
  refine va_lald (D := E.2.1) C.1 C.2.1 C.2.2.2.2.2.1 hP3 NID 3 (wlo_o (E := E) (g := g3) (o := o) (cL := cL) (v := v1)) rfl (by unfold vp_in; decide +kernel) dL_law_525 ?_
  rw [show (0 : Int32).toNatClampNeg = 0 from rfl, hv1 r0]
  refine lv_iload C.1 C.2.1 dL_law_526 (lv_at hl2 0 rfl) ?_
  rw [hb9 r0]
  refine lv_i2l C.1 C.2.1 dL_law_528 rfl ?_
  refine W.lcmp C.1 C.2.1 dL_law_529 ?_
  rw [lg_same]
  refine lv_if_eq (tgt := 535) C.1 C.2.1 dL_law_530 (by decide) (fun _ => fin) (fun q => absurd rfl q)
theorem z_sign {E : En} {o : Nat} {cL : ClassId} {p : Program} {l : Launch} {e : Env} {s : State} {m : MethodId} {below : List Frame} {meth : Method} {c : Code} {H : Heap} {locs : List Loc} {cells slots : Nat} {Q : State → Prop} {ls : Array Slot} {g : G2} {v : Nat → Int64} {b L i : Nat} {xs : Nat → Int32} {σ : WS} (C : LXw E o cL (Alw s) p l s m #[Value.ref b] c cL_law 7) (hX : va_X b L xs s s.heap) (hbl : b < s.heap.size) (hL : L ≤ 3072) (hi : i + 5 < L) (hP : LPw E o cL g v H) (hS : va_S (Alw s) s.heap H locs) (hC : CR g σ) (hM : MR g σ) (hO : OKs σ) (hl : lv_has ls 7 (lawlv E b o i)) (hcl : cells + 4 ≤ 601024) (hsl : slots + 24 ≤ 7293034) (kn : LNx E o cL b p l e s m below meth c Q (cells + 4) (slots + 24) i) : W p l e room_1 s m #[Value.ref b] below meth c H locs cells slots Q (F0 m 538 ls []) := by
  have hl : lv_has ls 7 [(0, .ref b), (1, .ref (E.1 0)), (2, .ref (E.1 84)), (3, .ref o), (4, .int (nI i))] := hl
  obtain ⟨r, hr⟩ : ∃ r : OR, q1 σ (sigM (f_S σ.F) (xs (i + 1)) (xs (i + 2))) = r := ⟨_, rfl⟩
  have hO2 : OKs r.2.2 := by rw [← hr]; exact hO
  refine lv_aload_n C.1 C.2.1 dL_law_538 rfl (lv_at hl 1 rfl) ?_
  refine l_sc (i := i) (k := 1) C.1 C.2.1 hX hbl hS (lv_at hl 0 rfl) (lv_at hl 4 rfl) dL_law_539 dL_law_540 dL_law_542 (by decide +kernel) dL_law_543 dL_law_544 (by omega) hL ?_
  refine l_sc (i := i) (k := 2) C.1 C.2.1 hX hbl hS (lv_at hl 0 rfl) (lv_at hl 4 rfl) dL_law_545 dL_law_546 dL_law_548 (by decide +kernel) dL_law_549 dL_law_550 (by omega) hL ?_
  refine lv_aload_n C.1 C.2.1 dL_law_551 rfl (lv_at hl 3 rfl) ?_
  refine l_callW (n := 4) (w := wd_sign) (As := [.ref 0, .int (xs (i + 1)), .int (xs (i + 2))]) (rest := []) (d' := 60) (Qw := fun k g' v' => k = nI r.1 ∧ CR g' r.2.2 ∧ HF g g' ∧ r.1 ≤ 2 ∧ (r.1 = 0 → v' 0 = r.2.1.toInt64)) C hP hS hl.1 dL_law_552 ll_120 wl_k_sign wl_ini wl_s_sign (by decide) (by decide +kernel) rfl rfl (Nat.le_of_ble_eq_true rfl) (by show 60 + 1 ≤ 2048; decide) (by show 8 + (5 + 11) + 128 * 60 ≤ 84000; decide) (by show cells + 2 ≤ 601024; omega) (by show slots + 6 * 2 ≤ 7293034; omega) (w_sign hC hO (by rw [hr]; exact fun g' v' h1 h2 h3 h4 => ⟨rfl, h1, h2, h3, h4⟩)) (fun k g1 v1 hq H1 locs1 hP1 hS1 => ?_)
  obtain ⟨rfl, hC1, hF1, hle, hv1⟩ := hq
  refine lv_istore C.1 C.2.1 dL_law_555 hl (by decide) rfl (fun ls1 hl1 => ?_)
  have hl1 : lv_has ls1 7 [(5, .int (nI r.1)), (0, .ref b), (1, .ref (E.1 0)), (2, .ref (E.1 84)), (3, .ref o), (4, .int (nI i))] := hl1
  refine lv_aload_n C.1 C.2.1 dL_law_557 rfl (lv_at hl1 3 rfl) ?_
  refine l_sc (i := i) (k := 1) C.1 C.2.1 hX hbl hS1 (lv_at hl1 1 rfl) (lv_at hl1 5 rfl) dL_law_558 dL_law_559 dL_law_561 (by decide +kernel) dL_law_562 dL_law_563 (by omega) hL ?_
  refine l_sc (i := i) (k := 2) C.1 C.2.1 hX hbl hS1 (lv_at hl1 1 rfl) (lv_at hl1 5 rfl) dL_law_564 dL_law_565 dL_law_567 (by decide +kernel) dL_law_568 dL_law_569 (by omega) hL ?_
  refine l_callV (md' := md_X12_sign) (As := [.int (xs (i + 1)), .int (xs (i + 2))]) (rest := []) (d' := 60) (a := 84) (Qm := fun w g' => ∃ b9, w = some (.int b9) ∧ MR g' r.2.2 ∧ LF g1 g' ∧ g' 84 2 = nI r.1 ∧ (r.1 = 0 → b9 = r.2.1)) (Xm := fun _ _ => False) C hP1 hS1 hl1.1 dL_law_570 ll_122 lm_X12_sign lv_X12_sign rfl (by decide) rfl rfl rfl (Nat.le_of_ble_eq_true rfl) (by show 60 + 1 ≤ 2048; decide) (by show 8 + (3 + 11) + 128 * 60 ≤ 84000; decide) (by show cells + 2 + 0 ≤ 601024; omega) (by show slots + 6 * 2 + 6 * 0 ≤ 7293034; omega) (n_sign (hM.hf hF1) hO (by rw [hr]; exact fun h b9 h1 h2 h3 h4 => ⟨b9, rfl, h1, h2, h3, h4⟩)) (fun w g2 hw H2 locs2 hP2 hS2 => ?_) (fun Ex g2 hx => hx.elim)
  obtain ⟨b9, rfl, hM2, hF2, h84, hb9⟩ := hw
  refine W.eq (g2 := F0 m 573 ls1 [.int b9]) rfl ?_
  refine lv_istore C.1 C.2.1 dL_law_573 hl1 (by decide) rfl (fun ls2 hl2 => ?_)
  have hl2 : lv_has ls2 7 [(6, .int b9), (5, .int (nI r.1)), (0, .ref b), (1, .ref (E.1 0)), (2, .ref (E.1 84)), (3, .ref o), (4, .int (nI i))] := hl2
  refine lv_aload_n C.1 C.2.1 dL_law_575 rfl (lv_at hl2 4 rfl) ?_
  refine l_callV (md' := md_X12_thrown) (As := []) (rest := []) (d' := 60) (a := 84) (Qm := fun w g' => w = some (.int (nI r.1)) ∧ g' = g2) (Xm := fun _ _ => False) C hP2 hS2 hl2.1 dL_law_576 ll_102 lm_X12_thrown lv_X12_thrown rfl (by decide) rfl rfl rfl (Nat.le_of_ble_eq_true rfl) (by show 60 + 1 ≤ 2048; decide) (by show 8 + (1 + 11) + 128 * 60 ≤ 84000; decide) (by show cells + 2 + 0 + 0 ≤ 601024; omega) (by show slots + 6 * 2 + 6 * 0 + 6 * 0 ≤ 7293034; omega) (c_X12_thrown ⟨by rw [h84], rfl⟩) (fun w g3 hw H3 locs3 hP3 hS3 => ?_) (fun Ex g3 hx => hx.elim)
  obtain ⟨rfl, rfl⟩ := hw
  refine W.eq (g2 := F0 m 579 ls2 [.int (nI r.1)]) rfl ?_
  refine lv_iload C.1 C.2.1 dL_law_579 (lv_at hl2 1 rfl) ?_
  refine lv_icmp_eq (tgt := 586) C.1 C.2.1 dL_law_581 (by decide) (fun _ => ?_) (fun q => absurd rfl q)
  refine lv_iload C.1 C.2.1 dL_law_586 (lv_at hl2 1 rfl) ?_
  have fin : W p l e room_1 s m #[Value.ref b] below meth c H3 locs3 (cells + 2 + 0 + 0) (slots + 6 * 2 + 6 * 0 + 6 * 0) Q (F0 m 603 ls2 []) := by
    refine lv_goto (tgt := 1976) C.1 C.2.1 dL_law_603 (by decide) ?_
    refine W.widen (k := cells + 4) (n := slots + 24) (by show cells + 2 + 0 + 0 ≤ cells + 4; omega) (by show slots + 6 * 2 + 6 * 0 + 6 * 0 ≤ slots + 24; omega) ?_
    exact kn r.2.2 g3 v1 H3 locs3 ls2 hP3 hS3 (hC1.lf hF2) hM2 hO2 (lv_sub hl2 [2, 3, 4, 5, 6] rfl)
  refine lv_if_ne (tgt := 603) C.1 C.2.1 dL_law_588 (by decide) (fun _ => fin) (fun hz => ?_)
  have r0 : r.1 = 0 := nI_inj (b := 0) (by omega) (by decide) hz
  refine lv_aload_n C.1 C.2.1 dL_law_591 rfl (lv_at hl2 5 rfl) ?_
  refine lv_iconst (v := 0) C.1 C.2.1 dL_law_592 (by decide +kernel) ?_
  refine va_lald (D := E.2.1) C.1 C.2.1 C.2.2.2.2.2.1 hP3 NID 3 (wlo_o (E := E) (g := g3) (o := o) (cL := cL) (v := v1)) rfl (by unfold vp_in; decide +kernel) dL_law_593 ?_
  rw [show (0 : Int32).toNatClampNeg = 0 from rfl, hv1 r0]
  refine lv_iload C.1 C.2.1 dL_law_594 (lv_at hl2 0 rfl) ?_
  rw [hb9 r0]
  refine lv_i2l C.1 C.2.1 dL_law_596 rfl ?_
  refine W.lcmp C.1 C.2.1 dL_law_597 ?_
  rw [lg_same]
  refine lv_if_eq (tgt := 603) C.1 C.2.1 dL_law_598 (by decide) (fun _ => fin) (fun q => absurd rfl q)
theorem z_other {E : En} {o : Nat} {cL : ClassId} {p : Program} {l : Launch} {e : Env} {s : State} {m : MethodId} {below : List Frame} {meth : Method} {c : Code} {H : Heap} {locs : List Loc} {cells slots : Nat} {Q : State → Prop} {ls : Array Slot} {g : G2} {v : Nat → Int64} {b L i : Nat} {xs : Nat → Int32} {σ : WS} (C : LXw E o cL (Alw s) p l s m #[Value.ref b] c cL_law 7) (hX : va_X b L xs s s.heap) (hbl : b < s.heap.size) (hL : L ≤ 3072) (hi : i + 5 < L) (hP : LPw E o cL g v H) (hS : va_S (Alw s) s.heap H locs) (hC : CR g σ) (hM : MR g σ) (hO : OKs σ) (hl : lv_has ls 7 (lawlv E b o i)) (hcl : cells + 4 ≤ 601024) (hsl : slots + 24 ≤ 7293034) (kn : LNx E o cL b p l e s m below meth c Q (cells + 4) (slots + 24) i) : W p l e room_1 s m #[Value.ref b] below meth c H locs cells slots Q (F0 m 606 ls []) := by
  have hl : lv_has ls 7 [(0, .ref b), (1, .ref (E.1 0)), (2, .ref (E.1 84)), (3, .ref o), (4, .int (nI i))] := hl
  obtain ⟨r, hr⟩ : ∃ r : OR, q1 σ (othM σ.T (xs (i + 1))) = r := ⟨_, rfl⟩
  have hO2 : OKs r.2.2 := by rw [← hr]; exact hO
  refine lv_aload_n C.1 C.2.1 dL_law_606 rfl (lv_at hl 1 rfl) ?_
  refine l_sc (i := i) (k := 1) C.1 C.2.1 hX hbl hS (lv_at hl 0 rfl) (lv_at hl 4 rfl) dL_law_607 dL_law_608 dL_law_610 (by decide +kernel) dL_law_611 dL_law_612 (by omega) hL ?_
  refine lv_aload_n C.1 C.2.1 dL_law_613 rfl (lv_at hl 3 rfl) ?_
  refine l_callW (n := 3) (w := wd_other) (As := [.ref 0, .int (xs (i + 1))]) (rest := []) (d' := 60) (Qw := fun k g' v' => k = nI r.1 ∧ CR g' r.2.2 ∧ HF g g' ∧ r.1 ≤ 2 ∧ (r.1 = 0 → v' 0 = r.2.1.toInt64)) C hP hS hl.1 dL_law_614 ll_123 wl_k_other wl_ini wl_s_other (by decide) (by decide +kernel) rfl rfl (Nat.le_of_ble_eq_true rfl) (by show 60 + 1 ≤ 2048; decide) (by show 8 + (4 + 11) + 128 * 60 ≤ 84000; decide) (by show cells + 1 ≤ 601024; omega) (by show slots + 6 * 1 ≤ 7293034; omega) (w_other hC hO (by rw [hr]; exact fun g' v' h1 h2 h3 h4 => ⟨rfl, h1, h2, h3, h4⟩)) (fun k g1 v1 hq H1 locs1 hP1 hS1 => ?_)
  obtain ⟨rfl, hC1, hF1, hle, hv1⟩ := hq
  refine lv_istore C.1 C.2.1 dL_law_617 hl (by decide) rfl (fun ls1 hl1 => ?_)
  have hl1 : lv_has ls1 7 [(5, .int (nI r.1)), (0, .ref b), (1, .ref (E.1 0)), (2, .ref (E.1 84)), (3, .ref o), (4, .int (nI i))] := hl1
  refine lv_aload_n C.1 C.2.1 dL_law_619 rfl (lv_at hl1 3 rfl) ?_
  refine l_sc (i := i) (k := 1) C.1 C.2.1 hX hbl hS1 (lv_at hl1 1 rfl) (lv_at hl1 5 rfl) dL_law_620 dL_law_621 dL_law_623 (by decide +kernel) dL_law_624 dL_law_625 (by omega) hL ?_
  refine l_callV (md' := md_X12_other) (As := [.int (xs (i + 1))]) (rest := []) (d' := 60) (a := 84) (Qm := fun w g' => ∃ b9, w = some (.int b9) ∧ MR g' r.2.2 ∧ LF g1 g' ∧ g' 84 2 = nI r.1 ∧ (r.1 = 0 → b9 = r.2.1)) (Xm := fun _ _ => False) C hP1 hS1 hl1.1 dL_law_626 ll_125 lm_X12_other lv_X12_other rfl (by decide) rfl rfl rfl (Nat.le_of_ble_eq_true rfl) (by show 60 + 1 ≤ 2048; decide) (by show 8 + (2 + 11) + 128 * 60 ≤ 84000; decide) (by show cells + 1 + 0 ≤ 601024; omega) (by show slots + 6 * 1 + 6 * 0 ≤ 7293034; omega) (n_other (hM.hf hF1) hO (by rw [hr]; exact fun h b9 h1 h2 h3 h4 => ⟨b9, rfl, h1, h2, h3, h4⟩)) (fun w g2 hw H2 locs2 hP2 hS2 => ?_) (fun Ex g2 hx => hx.elim)
  obtain ⟨b9, rfl, hM2, hF2, h84, hb9⟩ := hw
  refine W.eq (g2 := F0 m 629 ls1 [.int b9]) rfl ?_
  refine lv_istore C.1 C.2.1 dL_law_629 hl1 (by decide) rfl (fun ls2 hl2 => ?_)
  have hl2 : lv_has ls2 7 [(6, .int b9), (5, .int (nI r.1)), (0, .ref b), (1, .ref (E.1 0)), (2, .ref (E.1 84)), (3, .ref o), (4, .int (nI i))] := hl2
  refine lv_aload_n C.1 C.2.1 dL_law_631 rfl (lv_at hl2 4 rfl) ?_
  refine l_callV (md' := md_X12_thrown) (As := []) (rest := []) (d' := 60) (a := 84) (Qm := fun w g' => w = some (.int (nI r.1)) ∧ g' = g2) (Xm := fun _ _ => False) C hP2 hS2 hl2.1 dL_law_632 ll_102 lm_X12_thrown lv_X12_thrown rfl (by decide) rfl rfl rfl (Nat.le_of_ble_eq_true rfl) (by show 60 + 1 ≤ 2048; decide) (by show 8 + (1 + 11) + 128 * 60 ≤ 84000; decide) (by show cells + 1 + 0 + 0 ≤ 601024; omega) (by show slots + 6 * 1 + 6 * 0 + 6 * 0 ≤ 7293034; omega) (c_X12_thrown ⟨by rw [h84], rfl⟩) (fun w g3 hw H3 locs3 hP3 hS3 => ?_) (fun Ex g3 hx => hx.elim)
  obtain ⟨rfl, rfl⟩ := hw
  refine W.eq (g2 := F0 m 635 ls2 [.int (nI r.1)]) rfl ?_
  refine lv_iload C.1 C.2.1 dL_law_635 (lv_at hl2 1 rfl) ?_
  refine lv_icmp_eq (tgt := 642) C.1 C.2.1 dL_law_637 (by decide) (fun _ => ?_) (fun q => absurd rfl q)
  refine lv_iload C.1 C.2.1 dL_law_642 (lv_at hl2 1 rfl) ?_
  have fin : W p l e room_1 s m #[Value.ref b] below meth c H3 locs3 (cells + 1 + 0 + 0) (slots + 6 * 1 + 6 * 0 + 6 * 0) Q (F0 m 659 ls2 []) := by
    refine lv_goto (tgt := 1976) C.1 C.2.1 dL_law_659 (by decide) ?_
    refine W.widen (k := cells + 4) (n := slots + 24) (by show cells + 1 + 0 + 0 ≤ cells + 4; omega) (by show slots + 6 * 1 + 6 * 0 + 6 * 0 ≤ slots + 24; omega) ?_
    exact kn r.2.2 g3 v1 H3 locs3 ls2 hP3 hS3 (hC1.lf hF2) hM2 hO2 (lv_sub hl2 [2, 3, 4, 5, 6] rfl)
  refine lv_if_ne (tgt := 659) C.1 C.2.1 dL_law_644 (by decide) (fun _ => fin) (fun hz => ?_)
  have r0 : r.1 = 0 := nI_inj (b := 0) (by omega) (by decide) hz
  refine lv_aload_n C.1 C.2.1 dL_law_647 rfl (lv_at hl2 5 rfl) ?_
  refine lv_iconst (v := 0) C.1 C.2.1 dL_law_648 (by decide +kernel) ?_
  refine va_lald (D := E.2.1) C.1 C.2.1 C.2.2.2.2.2.1 hP3 NID 3 (wlo_o (E := E) (g := g3) (o := o) (cL := cL) (v := v1)) rfl (by unfold vp_in; decide +kernel) dL_law_649 ?_
  rw [show (0 : Int32).toNatClampNeg = 0 from rfl, hv1 r0]
  refine lv_iload C.1 C.2.1 dL_law_650 (lv_at hl2 0 rfl) ?_
  rw [hb9 r0]
  refine lv_i2l C.1 C.2.1 dL_law_652 rfl ?_
  refine W.lcmp C.1 C.2.1 dL_law_653 ?_
  rw [lg_same]
  refine lv_if_eq (tgt := 659) C.1 C.2.1 dL_law_654 (by decide) (fun _ => fin) (fun q => absurd rfl q)
theorem z_years {E : En} {o : Nat} {cL : ClassId} {p : Program} {l : Launch} {e : Env} {s : State} {m : MethodId} {below : List Frame} {meth : Method} {c : Code} {H : Heap} {locs : List Loc} {cells slots : Nat} {Q : State → Prop} {ls : Array Slot} {g : G2} {v : Nat → Int64} {b L i : Nat} {xs : Nat → Int32} {σ : WS} (C : LXw E o cL (Alw s) p l s m #[Value.ref b] c cL_law 7) (hX : va_X b L xs s s.heap) (hbl : b < s.heap.size) (hL : L ≤ 3072) (hi : i + 5 < L) (hP : LPw E o cL g v H) (hS : va_S (Alw s) s.heap H locs) (hC : CR g σ) (hM : MR g σ) (hO : OKs σ) (hl : lv_has ls 7 (lawlv E b o i)) (hcl : cells + 4 ≤ 601024) (hsl : slots + 24 ≤ 7293034) (kn : LNx E o cL b p l e s m below meth c Q (cells + 4) (slots + 24) i) : W p l e room_1 s m #[Value.ref b] below meth c H locs cells slots Q (F0 m 662 ls []) := by
  have hl : lv_has ls 7 [(0, .ref b), (1, .ref (E.1 0)), (2, .ref (E.1 84)), (3, .ref o), (4, .int (nI i))] := hl
  obtain ⟨r, hr⟩ : ∃ r : OR, a1F σ (yeaM σ.T σ.F (xs (i + 1))) = r := ⟨_, rfl⟩
  have hO2 : OKs r.2.2 := by rw [← hr]; exact ok_act hO (hO.2.1.yea hO.1)
  have r0 : r.1 = 0 := by rw [← hr]; exact thr_years
  refine lv_aload_n C.1 C.2.1 dL_law_662 rfl (lv_at hl 1 rfl) ?_
  refine l_sc (i := i) (k := 1) C.1 C.2.1 hX hbl hS (lv_at hl 0 rfl) (lv_at hl 4 rfl) dL_law_663 dL_law_664 dL_law_666 (by decide +kernel) dL_law_667 dL_law_668 (by omega) hL ?_
  refine l_callV (md' := md_X11_years) (As := [.int (xs (i + 1))]) (rest := []) (d' := 60) (a := 0) (Qm := fun w g' => w = some (.int r.2.1) ∧ CR g' r.2.2 ∧ HF g g') (Xm := fun _ _ => False) C hP hS hl.1 dL_law_669 ll_126 lm_X11_years lv_X11_years rfl (by decide) rfl rfl rfl (Nat.le_of_ble_eq_true rfl) (by show 60 + 1 ≤ 2048; decide) (by show 8 + (3 + 11) + 128 * 60 ≤ 84000; decide) (by show cells + 0 ≤ 601024; omega) (by show slots + 6 * 0 ≤ 7293034; omega) (k_years hC hO (by rw [hr]; exact ⟨fun h a b _ => ⟨rfl, a, b⟩, fun h a b c => (by rw [r0] at c; cases c), fun h a b c => (by rw [r0] at c; cases c)⟩)) (fun w g1 hw H1 locs1 hP1 hS1 => ?_) (fun Ex g1 hx => hx.elim)
  obtain ⟨rfl, hC1, hF1⟩ := hw
  refine W.eq (g2 := F0 m 672 ls [.int r.2.1]) rfl ?_
  refine lv_aload_n C.1 C.2.1 dL_law_672 rfl (lv_at hl 2 rfl) ?_
  refine l_sc (i := i) (k := 1) C.1 C.2.1 hX hbl hS1 (lv_at hl 0 rfl) (lv_at hl 4 rfl) dL_law_673 dL_law_674 dL_law_676 (by decide +kernel) dL_law_677 dL_law_678 (by omega) hL ?_
  refine l_callV (md' := md_X12_years) (As := [.int (xs (i + 1))]) (rest := [.int r.2.1]) (d' := 60) (a := 84) (Qm := fun w g' => w = some (.int r.2.1) ∧ MR g' r.2.2 ∧ LF g1 g') (Xm := fun _ _ => False) C hP1 hS1 hl.1 dL_law_679 ll_129 lm_X12_years lv_X12_years rfl (by decide) rfl rfl rfl (Nat.le_of_ble_eq_true rfl) (by show 60 + 1 ≤ 2048; decide) (by show 8 + (2 + 11) + 128 * 60 ≤ 84000; decide) (by show cells + 0 + 0 ≤ 601024; omega) (by show slots + 6 * 0 + 6 * 0 ≤ 7293034; omega) (n_years (hM.hf hF1) hO (by rw [hr]; exact fun h b9 h1 h2 h3 h4 => ⟨by rw [h4 r0], h1, h2⟩)) (fun w g2 hw H2 locs2 hP2 hS2 => ?_) (fun Ex g2 hx => hx.elim)
  obtain ⟨rfl, hM2, hF2⟩ := hw
  refine W.eq (g2 := F0 m 682 ls [.int r.2.1, .int r.2.1]) rfl ?_
  refine lv_icmp_eq (tgt := 1976) C.1 C.2.1 dL_law_682 (by decide) (fun _ => ?_) (fun q => absurd rfl q)
  refine W.widen (k := cells + 4) (n := slots + 24) (by show cells + 0 + 0 ≤ cells + 4; omega) (by show slots + 6 * 0 + 6 * 0 ≤ slots + 24; omega) ?_
  exact kn r.2.2 g2 v H2 locs2 ls hP2 hS2 (hC1.lf hF2) hM2 hO2 (lv_sub hl [0, 1, 2, 3, 4] rfl)
theorem z_away {E : En} {o : Nat} {cL : ClassId} {p : Program} {l : Launch} {e : Env} {s : State} {m : MethodId} {below : List Frame} {meth : Method} {c : Code} {H : Heap} {locs : List Loc} {cells slots : Nat} {Q : State → Prop} {ls : Array Slot} {g : G2} {v : Nat → Int64} {b L i : Nat} {xs : Nat → Int32} {σ : WS} (C : LXw E o cL (Alw s) p l s m #[Value.ref b] c cL_law 7) (hX : va_X b L xs s s.heap) (hbl : b < s.heap.size) (hL : L ≤ 3072) (hi : i + 5 < L) (hP : LPw E o cL g v H) (hS : va_S (Alw s) s.heap H locs) (hC : CR g σ) (hM : MR g σ) (hO : OKs σ) (hl : lv_has ls 7 (lawlv E b o i)) (hcl : cells + 4 ≤ 601024) (hsl : slots + 24 ≤ 7293034) (kn : LNx E o cL b p l e s m below meth c Q (cells + 4) (slots + 24) i) : W p l e room_1 s m #[Value.ref b] below meth c H locs cells slots Q (F0 m 687 ls []) := by
  have hl : lv_has ls 7 [(0, .ref b), (1, .ref (E.1 0)), (2, .ref (E.1 84)), (3, .ref o), (4, .int (nI i))] := hl
  obtain ⟨r, hr⟩ : ∃ r : OR, a1F σ (awaM σ.T σ.F (xs (i + 1)) (!(decide (xs (i + 2) = 0)))) = r := ⟨_, rfl⟩
  have hO2 : OKs r.2.2 := by rw [← hr]; exact ok_act hO hO.2.1.awa
  refine lv_aload_n C.1 C.2.1 dL_law_687 rfl (lv_at hl 1 rfl) ?_
  refine l_sc (i := i) (k := 1) C.1 C.2.1 hX hbl hS (lv_at hl 0 rfl) (lv_at hl 4 rfl) dL_law_688 dL_law_689 dL_law_691 (by decide +kernel) dL_law_692 dL_law_693 (by omega) hL ?_
  refine l_sc (i := i) (k := 2) C.1 C.2.1 hX hbl hS (lv_at hl 0 rfl) (lv_at hl 4 rfl) dL_law_694 dL_law_695 dL_law_697 (by decide +kernel) dL_law_698 dL_law_699 (by omega) hL ?_
  refine l_bool (t := 707) (t2 := 708) C.1 C.2.1 dL_law_700 (by decide) (by decide) dL_law_703 dL_law_704 (by decide) (by decide) dL_law_707 ?_
  refine lv_aload_n C.1 C.2.1 dL_law_708 rfl (lv_at hl 3 rfl) ?_
  refine l_callW (n := 4) (w := wd_away) (As := [.ref 0, .int (xs (i + 1)), .int (b2i (!(decide (xs (i + 2) = 0))))]) (rest := []) (d' := 60) (Qw := fun k g' v' => k = nI r.1 ∧ CR g' r.2.2 ∧ HF g g' ∧ r.1 ≤ 2 ∧ (r.1 = 0 → v' 0 = (if r.2.1 = 0 then 0 else 1))) C hP hS hl.1 dL_law_709 ll_130 wl_k_away wl_ini wl_s_away (by decide) (by decide +kernel) rfl rfl (Nat.le_of_ble_eq_true rfl) (by show 60 + 1 ≤ 2048; decide) (by show 8 + (5 + 11) + 128 * 60 ≤ 84000; decide) (by show cells + 1 ≤ 601024; omega) (by show slots + 6 * 1 ≤ 7293034; omega) (w_away hC hO (by rw [hr]; exact fun g' v' h1 h2 h3 h4 => ⟨rfl, h1, h2, h3, h4⟩)) (fun k g1 v1 hq H1 locs1 hP1 hS1 => ?_)
  obtain ⟨rfl, hC1, hF1, hle, hv1⟩ := hq
  refine lv_istore C.1 C.2.1 dL_law_712 hl (by decide) rfl (fun ls1 hl1 => ?_)
  have hl1 : lv_has ls1 7 [(5, .int (nI r.1)), (0, .ref b), (1, .ref (E.1 0)), (2, .ref (E.1 84)), (3, .ref o), (4, .int (nI i))] := hl1
  refine lv_aload_n C.1 C.2.1 dL_law_714 rfl (lv_at hl1 3 rfl) ?_
  refine l_sc (i := i) (k := 1) C.1 C.2.1 hX hbl hS1 (lv_at hl1 1 rfl) (lv_at hl1 5 rfl) dL_law_715 dL_law_716 dL_law_718 (by decide +kernel) dL_law_719 dL_law_720 (by omega) hL ?_
  refine l_sc (i := i) (k := 2) C.1 C.2.1 hX hbl hS1 (lv_at hl1 1 rfl) (lv_at hl1 5 rfl) dL_law_721 dL_law_722 dL_law_724 (by decide +kernel) dL_law_725 dL_law_726 (by omega) hL ?_
  refine l_bool (t := 734) (t2 := 735) C.1 C.2.1 dL_law_727 (by decide) (by decide) dL_law_730 dL_law_731 (by decide) (by decide) dL_law_734 ?_
  refine l_callV (md' := md_X12_away) (As := [.int (xs (i + 1)), .int (b2i (!(decide (xs (i + 2) = 0))))]) (rest := []) (d' := 60) (a := 84) (Qm := fun w g' => ∃ b9, w = some (.int b9) ∧ MR g' r.2.2 ∧ LF g1 g' ∧ g' 84 2 = nI r.1 ∧ (r.1 = 0 → b9 = r.2.1)) (Xm := fun _ _ => False) C hP1 hS1 hl1.1 dL_law_735 ll_133 lm_X12_away lv_X12_away rfl (by decide) rfl rfl rfl (Nat.le_of_ble_eq_true rfl) (by show 60 + 1 ≤ 2048; decide) (by show 8 + (3 + 11) + 128 * 60 ≤ 84000; decide) (by show cells + 1 + 0 ≤ 601024; omega) (by show slots + 6 * 1 + 6 * 0 ≤ 7293034; omega) (n_away (hM.hf hF1) hO (by rw [hr]; exact fun h b9 h1 h2 h3 h4 => ⟨b9, rfl, h1, h2, h3, h4⟩)) (fun w g2 hw H2 locs2 hP2 hS2 => ?_) (fun Ex g2 hx => hx.elim)
  obtain ⟨b9, rfl, hM2, hF2, h84, hb9⟩ := hw
  refine W.eq (g2 := F0 m 738 ls1 [.int b9]) rfl ?_
  refine lv_istore C.1 C.2.1 dL_law_738 hl1 (by decide) rfl (fun ls2 hl2 => ?_)
  have hl2 : lv_has ls2 7 [(6, .int b9), (5, .int (nI r.1)), (0, .ref b), (1, .ref (E.1 0)), (2, .ref (E.1 84)), (3, .ref o), (4, .int (nI i))] := hl2
  refine lv_aload_n C.1 C.2.1 dL_law_740 rfl (lv_at hl2 4 rfl) ?_
  refine l_callV (md' := md_X12_thrown) (As := []) (rest := []) (d' := 60) (a := 84) (Qm := fun w g' => w = some (.int (nI r.1)) ∧ g' = g2) (Xm := fun _ _ => False) C hP2 hS2 hl2.1 dL_law_741 ll_102 lm_X12_thrown lv_X12_thrown rfl (by decide) rfl rfl rfl (Nat.le_of_ble_eq_true rfl) (by show 60 + 1 ≤ 2048; decide) (by show 8 + (1 + 11) + 128 * 60 ≤ 84000; decide) (by show cells + 1 + 0 + 0 ≤ 601024; omega) (by show slots + 6 * 1 + 6 * 0 + 6 * 0 ≤ 7293034; omega) (c_X12_thrown ⟨by rw [h84], rfl⟩) (fun w g3 hw H3 locs3 hP3 hS3 => ?_) (fun Ex g3 hx => hx.elim)
  obtain ⟨rfl, rfl⟩ := hw
  refine W.eq (g2 := F0 m 744 ls2 [.int (nI r.1)]) rfl ?_
  refine lv_iload C.1 C.2.1 dL_law_744 (lv_at hl2 1 rfl) ?_
  refine lv_icmp_eq (tgt := 751) C.1 C.2.1 dL_law_746 (by decide) (fun _ => ?_) (fun q => absurd rfl q)
  refine lv_iload C.1 C.2.1 dL_law_751 (lv_at hl2 1 rfl) ?_
  have fin : W p l e room_1 s m #[Value.ref b] below meth c H3 locs3 (cells + 1 + 0 + 0) (slots + 6 * 1 + 6 * 0 + 6 * 0) Q (F0 m 775 ls2 []) := by
    refine lv_goto (tgt := 1976) C.1 C.2.1 dL_law_775 (by decide) ?_
    refine W.widen (k := cells + 4) (n := slots + 24) (by show cells + 1 + 0 + 0 ≤ cells + 4; omega) (by show slots + 6 * 1 + 6 * 0 + 6 * 0 ≤ slots + 24; omega) ?_
    exact kn r.2.2 g3 v1 H3 locs3 ls2 hP3 hS3 (hC1.lf hF2) hM2 hO2 (lv_sub hl2 [2, 3, 4, 5, 6] rfl)
  refine lv_if_ne (tgt := 775) C.1 C.2.1 dL_law_753 (by decide) (fun _ => fin) (fun hz => ?_)
  have r0 : r.1 = 0 := nI_inj (b := 0) (by omega) (by decide) hz
  refine lv_aload_n C.1 C.2.1 dL_law_756 rfl (lv_at hl2 5 rfl) ?_
  refine lv_iconst (v := 0) C.1 C.2.1 dL_law_757 (by decide +kernel) ?_
  refine va_lald (D := E.2.1) C.1 C.2.1 C.2.2.2.2.2.1 hP3 NID 3 (wlo_o (E := E) (g := g3) (o := o) (cL := cL) (v := v1)) rfl (by unfold vp_in; decide +kernel) dL_law_758 ?_
  rw [show (0 : Int32).toNatClampNeg = 0 from rfl, hv1 r0]
  refine lv_iload C.1 C.2.1 dL_law_759 (lv_at hl2 0 rfl) ?_
  rw [hb9 r0]
  refine l_lbool (t := 768) C.1 C.2.1 dL_law_761 (by decide) dL_law_764 dL_law_765 (by decide) dL_law_768 ?_
  refine W.lcmp C.1 C.2.1 dL_law_769 ?_
  rw [lg_same]
  refine lv_if_eq (tgt := 775) C.1 C.2.1 dL_law_770 (by decide) (fun _ => fin) (fun q => absurd rfl q)
theorem z_dies {E : En} {o : Nat} {cL : ClassId} {p : Program} {l : Launch} {e : Env} {s : State} {m : MethodId} {below : List Frame} {meth : Method} {c : Code} {H : Heap} {locs : List Loc} {cells slots : Nat} {Q : State → Prop} {ls : Array Slot} {g : G2} {v : Nat → Int64} {b L i : Nat} {xs : Nat → Int32} {σ : WS} (C : LXw E o cL (Alw s) p l s m #[Value.ref b] c cL_law 7) (hX : va_X b L xs s s.heap) (hbl : b < s.heap.size) (hL : L ≤ 3072) (hi : i + 5 < L) (hP : LPw E o cL g v H) (hS : va_S (Alw s) s.heap H locs) (hC : CR g σ) (hM : MR g σ) (hO : OKs σ) (hl : lv_has ls 7 (lawlv E b o i)) (hcl : cells + 4 ≤ 601024) (hsl : slots + 24 ≤ 7293034) (kn : LNx E o cL b p l e s m below meth c Q (cells + 4) (slots + 24) i) : W p l e room_1 s m #[Value.ref b] below meth c H locs cells slots Q (F0 m 778 ls []) := by
  have hl : lv_has ls 7 [(0, .ref b), (1, .ref (E.1 0)), (2, .ref (E.1 84)), (3, .ref o), (4, .int (nI i))] := hl
  obtain ⟨r, hr⟩ : ∃ r : OR, a1F σ (dieM σ.T σ.F (xs (i + 1))) = r := ⟨_, rfl⟩
  have hO2 : OKs r.2.2 := by rw [← hr]; exact ok_act hO (hO.2.1.die hO.1.1)
  refine lv_aload_n C.1 C.2.1 dL_law_778 rfl (lv_at hl 1 rfl) ?_
  refine l_sc (i := i) (k := 1) C.1 C.2.1 hX hbl hS (lv_at hl 0 rfl) (lv_at hl 4 rfl) dL_law_779 dL_law_780 dL_law_782 (by decide +kernel) dL_law_783 dL_law_784 (by omega) hL ?_
  refine lv_aload_n C.1 C.2.1 dL_law_785 rfl (lv_at hl 3 rfl) ?_
  refine l_callW (n := 3) (w := wd_dies) (As := [.ref 0, .int (xs (i + 1))]) (rest := []) (d' := 60) (Qw := fun k g' v' => k = nI r.1 ∧ CR g' r.2.2 ∧ HF g g' ∧ r.1 ≤ 2 ∧ (r.1 = 0 → v' 0 = (if r.2.1 = 0 then 0 else 1))) C hP hS hl.1 dL_law_786 ll_134 wl_k_dies wl_ini wl_s_dies (by decide) (by decide +kernel) rfl rfl (Nat.le_of_ble_eq_true rfl) (by show 60 + 1 ≤ 2048; decide) (by show 8 + (4 + 11) + 128 * 60 ≤ 84000; decide) (by show cells + 1 ≤ 601024; omega) (by show slots + 6 * 1 ≤ 7293034; omega) (w_dies hC hO (by rw [hr]; exact fun g' v' h1 h2 h3 h4 => ⟨rfl, h1, h2, h3, h4⟩)) (fun k g1 v1 hq H1 locs1 hP1 hS1 => ?_)
  obtain ⟨rfl, hC1, hF1, hle, hv1⟩ := hq
  refine lv_istore C.1 C.2.1 dL_law_789 hl (by decide) rfl (fun ls1 hl1 => ?_)
  have hl1 : lv_has ls1 7 [(5, .int (nI r.1)), (0, .ref b), (1, .ref (E.1 0)), (2, .ref (E.1 84)), (3, .ref o), (4, .int (nI i))] := hl1
  refine lv_aload_n C.1 C.2.1 dL_law_791 rfl (lv_at hl1 3 rfl) ?_
  refine l_sc (i := i) (k := 1) C.1 C.2.1 hX hbl hS1 (lv_at hl1 1 rfl) (lv_at hl1 5 rfl) dL_law_792 dL_law_793 dL_law_795 (by decide +kernel) dL_law_796 dL_law_797 (by omega) hL ?_
  refine l_callV (md' := md_X12_dies) (As := [.int (xs (i + 1))]) (rest := []) (d' := 60) (a := 84) (Qm := fun w g' => ∃ b9, w = some (.int b9) ∧ MR g' r.2.2 ∧ LF g1 g' ∧ g' 84 2 = nI r.1 ∧ (r.1 = 0 → b9 = r.2.1)) (Xm := fun _ _ => False) C hP1 hS1 hl1.1 dL_law_798 ll_136 lm_X12_dies lv_X12_dies rfl (by decide) rfl rfl rfl (Nat.le_of_ble_eq_true rfl) (by show 60 + 1 ≤ 2048; decide) (by show 8 + (2 + 11) + 128 * 60 ≤ 84000; decide) (by show cells + 1 + 0 ≤ 601024; omega) (by show slots + 6 * 1 + 6 * 0 ≤ 7293034; omega) (n_dies (hM.hf hF1) hO (by rw [hr]; exact fun h b9 h1 h2 h3 h4 => ⟨b9, rfl, h1, h2, h3, h4⟩)) (fun w g2 hw H2 locs2 hP2 hS2 => ?_) (fun Ex g2 hx => hx.elim)
  obtain ⟨b9, rfl, hM2, hF2, h84, hb9⟩ := hw
  refine W.eq (g2 := F0 m 801 ls1 [.int b9]) rfl ?_
  refine lv_istore C.1 C.2.1 dL_law_801 hl1 (by decide) rfl (fun ls2 hl2 => ?_)
  have hl2 : lv_has ls2 7 [(6, .int b9), (5, .int (nI r.1)), (0, .ref b), (1, .ref (E.1 0)), (2, .ref (E.1 84)), (3, .ref o), (4, .int (nI i))] := hl2
  refine lv_aload_n C.1 C.2.1 dL_law_803 rfl (lv_at hl2 4 rfl) ?_
  refine l_callV (md' := md_X12_thrown) (As := []) (rest := []) (d' := 60) (a := 84) (Qm := fun w g' => w = some (.int (nI r.1)) ∧ g' = g2) (Xm := fun _ _ => False) C hP2 hS2 hl2.1 dL_law_804 ll_102 lm_X12_thrown lv_X12_thrown rfl (by decide) rfl rfl rfl (Nat.le_of_ble_eq_true rfl) (by show 60 + 1 ≤ 2048; decide) (by show 8 + (1 + 11) + 128 * 60 ≤ 84000; decide) (by show cells + 1 + 0 + 0 ≤ 601024; omega) (by show slots + 6 * 1 + 6 * 0 + 6 * 0 ≤ 7293034; omega) (c_X12_thrown ⟨by rw [h84], rfl⟩) (fun w g3 hw H3 locs3 hP3 hS3 => ?_) (fun Ex g3 hx => hx.elim)
  obtain ⟨rfl, rfl⟩ := hw
  refine W.eq (g2 := F0 m 807 ls2 [.int (nI r.1)]) rfl ?_
  refine lv_iload C.1 C.2.1 dL_law_807 (lv_at hl2 1 rfl) ?_
  refine lv_icmp_eq (tgt := 814) C.1 C.2.1 dL_law_809 (by decide) (fun _ => ?_) (fun q => absurd rfl q)
  refine lv_iload C.1 C.2.1 dL_law_814 (lv_at hl2 1 rfl) ?_
  have fin : W p l e room_1 s m #[Value.ref b] below meth c H3 locs3 (cells + 1 + 0 + 0) (slots + 6 * 1 + 6 * 0 + 6 * 0) Q (F0 m 838 ls2 []) := by
    refine lv_goto (tgt := 1976) C.1 C.2.1 dL_law_838 (by decide) ?_
    refine W.widen (k := cells + 4) (n := slots + 24) (by show cells + 1 + 0 + 0 ≤ cells + 4; omega) (by show slots + 6 * 1 + 6 * 0 + 6 * 0 ≤ slots + 24; omega) ?_
    exact kn r.2.2 g3 v1 H3 locs3 ls2 hP3 hS3 (hC1.lf hF2) hM2 hO2 (lv_sub hl2 [2, 3, 4, 5, 6] rfl)
  refine lv_if_ne (tgt := 838) C.1 C.2.1 dL_law_816 (by decide) (fun _ => fin) (fun hz => ?_)
  have r0 : r.1 = 0 := nI_inj (b := 0) (by omega) (by decide) hz
  refine lv_aload_n C.1 C.2.1 dL_law_819 rfl (lv_at hl2 5 rfl) ?_
  refine lv_iconst (v := 0) C.1 C.2.1 dL_law_820 (by decide +kernel) ?_
  refine va_lald (D := E.2.1) C.1 C.2.1 C.2.2.2.2.2.1 hP3 NID 3 (wlo_o (E := E) (g := g3) (o := o) (cL := cL) (v := v1)) rfl (by unfold vp_in; decide +kernel) dL_law_821 ?_
  rw [show (0 : Int32).toNatClampNeg = 0 from rfl, hv1 r0]
  refine lv_iload C.1 C.2.1 dL_law_822 (lv_at hl2 0 rfl) ?_
  rw [hb9 r0]
  refine l_lbool (t := 831) C.1 C.2.1 dL_law_824 (by decide) dL_law_827 dL_law_828 (by decide) dL_law_831 ?_
  refine W.lcmp C.1 C.2.1 dL_law_832 ?_
  rw [lg_same]
  refine lv_if_eq (tgt := 838) C.1 C.2.1 dL_law_833 (by decide) (fun _ => fin) (fun q => absurd rfl q)
theorem z_marry {E : En} {o : Nat} {cL : ClassId} {p : Program} {l : Launch} {e : Env} {s : State} {m : MethodId} {below : List Frame} {meth : Method} {c : Code} {H : Heap} {locs : List Loc} {cells slots : Nat} {Q : State → Prop} {ls : Array Slot} {g : G2} {v : Nat → Int64} {b L i : Nat} {xs : Nat → Int32} {σ : WS} (C : LXw E o cL (Alw s) p l s m #[Value.ref b] c cL_law 7) (hX : va_X b L xs s s.heap) (hbl : b < s.heap.size) (hL : L ≤ 3072) (hi : i + 5 < L) (hP : LPw E o cL g v H) (hS : va_S (Alw s) s.heap H locs) (hC : CR g σ) (hM : MR g σ) (hO : OKs σ) (hl : lv_has ls 7 (lawlv E b o i)) (hcl : cells + 4 ≤ 601024) (hsl : slots + 24 ≤ 7293034) (kn : LNx E o cL b p l e s m below meth c Q (cells + 4) (slots + 24) i) : W p l e room_1 s m #[Value.ref b] below meth c H locs cells slots Q (F0 m 841 ls []) := by
  have hl : lv_has ls 7 [(0, .ref b), (1, .ref (E.1 0)), (2, .ref (E.1 84)), (3, .ref o), (4, .int (nI i))] := hl
  obtain ⟨r, hr⟩ : ∃ r : OR, a1F σ (marM σ.T σ.F (xs (i + 1)) (xs (i + 2))) = r := ⟨_, rfl⟩
  have hO2 : OKs r.2.2 := by rw [← hr]; exact ok_act hO hO.2.1.mar
  refine lv_aload_n C.1 C.2.1 dL_law_841 rfl (lv_at hl 1 rfl) ?_
  refine l_sc (i := i) (k := 1) C.1 C.2.1 hX hbl hS (lv_at hl 0 rfl) (lv_at hl 4 rfl) dL_law_842 dL_law_843 dL_law_845 (by decide +kernel) dL_law_846 dL_law_847 (by omega) hL ?_
  refine l_sc (i := i) (k := 2) C.1 C.2.1 hX hbl hS (lv_at hl 0 rfl) (lv_at hl 4 rfl) dL_law_848 dL_law_849 dL_law_851 (by decide +kernel) dL_law_852 dL_law_853 (by omega) hL ?_
  refine lv_aload_n C.1 C.2.1 dL_law_854 rfl (lv_at hl 3 rfl) ?_
  refine l_callW (n := 4) (w := wd_marry) (As := [.ref 0, .int (xs (i + 1)), .int (xs (i + 2))]) (rest := []) (d' := 60) (Qw := fun k g' v' => k = nI r.1 ∧ CR g' r.2.2 ∧ HF g g' ∧ r.1 ≤ 2 ∧ (r.1 = 0 → v' 0 = r.2.1.toInt64)) C hP hS hl.1 dL_law_855 ll_137 wl_k_marry wl_ini wl_s_marry (by decide) (by decide +kernel) rfl rfl (Nat.le_of_ble_eq_true rfl) (by show 60 + 1 ≤ 2048; decide) (by show 8 + (5 + 11) + 128 * 60 ≤ 84000; decide) (by show cells + 2 ≤ 601024; omega) (by show slots + 6 * 2 ≤ 7293034; omega) (w_marry hC hO (by rw [hr]; exact fun g' v' h1 h2 h3 h4 => ⟨rfl, h1, h2, h3, h4⟩)) (fun k g1 v1 hq H1 locs1 hP1 hS1 => ?_)
  obtain ⟨rfl, hC1, hF1, hle, hv1⟩ := hq
  refine lv_istore C.1 C.2.1 dL_law_858 hl (by decide) rfl (fun ls1 hl1 => ?_)
  have hl1 : lv_has ls1 7 [(5, .int (nI r.1)), (0, .ref b), (1, .ref (E.1 0)), (2, .ref (E.1 84)), (3, .ref o), (4, .int (nI i))] := hl1
  refine lv_aload_n C.1 C.2.1 dL_law_860 rfl (lv_at hl1 3 rfl) ?_
  refine l_sc (i := i) (k := 1) C.1 C.2.1 hX hbl hS1 (lv_at hl1 1 rfl) (lv_at hl1 5 rfl) dL_law_861 dL_law_862 dL_law_864 (by decide +kernel) dL_law_865 dL_law_866 (by omega) hL ?_
  refine l_sc (i := i) (k := 2) C.1 C.2.1 hX hbl hS1 (lv_at hl1 1 rfl) (lv_at hl1 5 rfl) dL_law_867 dL_law_868 dL_law_870 (by decide +kernel) dL_law_871 dL_law_872 (by omega) hL ?_
  refine l_callV (md' := md_X12_marry) (As := [.int (xs (i + 1)), .int (xs (i + 2))]) (rest := []) (d' := 60) (a := 84) (Qm := fun w g' => ∃ b9, w = some (.int b9) ∧ MR g' r.2.2 ∧ LF g1 g' ∧ g' 84 2 = nI r.1 ∧ (r.1 = 0 → b9 = r.2.1)) (Xm := fun _ _ => False) C hP1 hS1 hl1.1 dL_law_873 ll_139 lm_X12_marry lv_X12_marry rfl (by decide) rfl rfl rfl (Nat.le_of_ble_eq_true rfl) (by show 60 + 1 ≤ 2048; decide) (by show 8 + (3 + 11) + 128 * 60 ≤ 84000; decide) (by show cells + 2 + 0 ≤ 601024; omega) (by show slots + 6 * 2 + 6 * 0 ≤ 7293034; omega) (n_marry (hM.hf hF1) hO (by rw [hr]; exact fun h b9 h1 h2 h3 h4 => ⟨b9, rfl, h1, h2, h3, h4⟩)) (fun w g2 hw H2 locs2 hP2 hS2 => ?_) (fun Ex g2 hx => hx.elim)
  obtain ⟨b9, rfl, hM2, hF2, h84, hb9⟩ := hw
  refine W.eq (g2 := F0 m 876 ls1 [.int b9]) rfl ?_
  refine lv_istore C.1 C.2.1 dL_law_876 hl1 (by decide) rfl (fun ls2 hl2 => ?_)
  have hl2 : lv_has ls2 7 [(6, .int b9), (5, .int (nI r.1)), (0, .ref b), (1, .ref (E.1 0)), (2, .ref (E.1 84)), (3, .ref o), (4, .int (nI i))] := hl2
  refine lv_aload_n C.1 C.2.1 dL_law_878 rfl (lv_at hl2 4 rfl) ?_
  refine l_callV (md' := md_X12_thrown) (As := []) (rest := []) (d' := 60) (a := 84) (Qm := fun w g' => w = some (.int (nI r.1)) ∧ g' = g2) (Xm := fun _ _ => False) C hP2 hS2 hl2.1 dL_law_879 ll_102 lm_X12_thrown lv_X12_thrown rfl (by decide) rfl rfl rfl (Nat.le_of_ble_eq_true rfl) (by show 60 + 1 ≤ 2048; decide) (by show 8 + (1 + 11) + 128 * 60 ≤ 84000; decide) (by show cells + 2 + 0 + 0 ≤ 601024; omega) (by show slots + 6 * 2 + 6 * 0 + 6 * 0 ≤ 7293034; omega) (c_X12_thrown ⟨by rw [h84], rfl⟩) (fun w g3 hw H3 locs3 hP3 hS3 => ?_) (fun Ex g3 hx => hx.elim)
  obtain ⟨rfl, rfl⟩ := hw
  refine W.eq (g2 := F0 m 882 ls2 [.int (nI r.1)]) rfl ?_
  refine lv_iload C.1 C.2.1 dL_law_882 (lv_at hl2 1 rfl) ?_
  refine lv_icmp_eq (tgt := 889) C.1 C.2.1 dL_law_884 (by decide) (fun _ => ?_) (fun q => absurd rfl q)
  refine lv_iload C.1 C.2.1 dL_law_889 (lv_at hl2 1 rfl) ?_
  have fin : W p l e room_1 s m #[Value.ref b] below meth c H3 locs3 (cells + 2 + 0 + 0) (slots + 6 * 2 + 6 * 0 + 6 * 0) Q (F0 m 906 ls2 []) := by
    refine lv_goto (tgt := 1976) C.1 C.2.1 dL_law_906 (by decide) ?_
    refine W.widen (k := cells + 4) (n := slots + 24) (by show cells + 2 + 0 + 0 ≤ cells + 4; omega) (by show slots + 6 * 2 + 6 * 0 + 6 * 0 ≤ slots + 24; omega) ?_
    exact kn r.2.2 g3 v1 H3 locs3 ls2 hP3 hS3 (hC1.lf hF2) hM2 hO2 (lv_sub hl2 [2, 3, 4, 5, 6] rfl)
  refine lv_if_ne (tgt := 906) C.1 C.2.1 dL_law_891 (by decide) (fun _ => fin) (fun hz => ?_)
  have r0 : r.1 = 0 := nI_inj (b := 0) (by omega) (by decide) hz
  refine lv_aload_n C.1 C.2.1 dL_law_894 rfl (lv_at hl2 5 rfl) ?_
  refine lv_iconst (v := 0) C.1 C.2.1 dL_law_895 (by decide +kernel) ?_
  refine va_lald (D := E.2.1) C.1 C.2.1 C.2.2.2.2.2.1 hP3 NID 3 (wlo_o (E := E) (g := g3) (o := o) (cL := cL) (v := v1)) rfl (by unfold vp_in; decide +kernel) dL_law_896 ?_
  rw [show (0 : Int32).toNatClampNeg = 0 from rfl, hv1 r0]
  refine lv_iload C.1 C.2.1 dL_law_897 (lv_at hl2 0 rfl) ?_
  rw [hb9 r0]
  refine lv_i2l C.1 C.2.1 dL_law_899 rfl ?_
  refine W.lcmp C.1 C.2.1 dL_law_900 ?_
  rw [lg_same]
  refine lv_if_eq (tgt := 906) C.1 C.2.1 dL_law_901 (by decide) (fun _ => fin) (fun q => absurd rfl q)
theorem z_quarrel {E : En} {o : Nat} {cL : ClassId} {p : Program} {l : Launch} {e : Env} {s : State} {m : MethodId} {below : List Frame} {meth : Method} {c : Code} {H : Heap} {locs : List Loc} {cells slots : Nat} {Q : State → Prop} {ls : Array Slot} {g : G2} {v : Nat → Int64} {b L i : Nat} {xs : Nat → Int32} {σ : WS} (C : LXw E o cL (Alw s) p l s m #[Value.ref b] c cL_law 7) (hX : va_X b L xs s s.heap) (hbl : b < s.heap.size) (hL : L ≤ 3072) (hi : i + 5 < L) (hP : LPw E o cL g v H) (hS : va_S (Alw s) s.heap H locs) (hC : CR g σ) (hM : MR g σ) (hO : OKs σ) (hl : lv_has ls 7 (lawlv E b o i)) (hcl : cells + 4 ≤ 601024) (hsl : slots + 24 ≤ 7293034) (kn : LNx E o cL b p l e s m below meth c Q (cells + 4) (slots + 24) i) : W p l e room_1 s m #[Value.ref b] below meth c H locs cells slots Q (F0 m 909 ls []) := by
  have hl : lv_has ls 7 [(0, .ref b), (1, .ref (E.1 0)), (2, .ref (E.1 84)), (3, .ref o), (4, .int (nI i))] := hl
  obtain ⟨r, hr⟩ : ∃ r : OR, a1F σ (quaM σ.T σ.F (xs (i + 1)) (xs (i + 2))) = r := ⟨_, rfl⟩
  have hO2 : OKs r.2.2 := by rw [← hr]; exact ok_act hO hO.2.1.qua
  refine lv_aload_n C.1 C.2.1 dL_law_909 rfl (lv_at hl 1 rfl) ?_
  refine l_sc (i := i) (k := 1) C.1 C.2.1 hX hbl hS (lv_at hl 0 rfl) (lv_at hl 4 rfl) dL_law_910 dL_law_911 dL_law_913 (by decide +kernel) dL_law_914 dL_law_915 (by omega) hL ?_
  refine l_sc (i := i) (k := 2) C.1 C.2.1 hX hbl hS (lv_at hl 0 rfl) (lv_at hl 4 rfl) dL_law_916 dL_law_917 dL_law_919 (by decide +kernel) dL_law_920 dL_law_921 (by omega) hL ?_
  refine lv_aload_n C.1 C.2.1 dL_law_922 rfl (lv_at hl 3 rfl) ?_
  refine l_callW (n := 4) (w := wd_quarrel) (As := [.ref 0, .int (xs (i + 1)), .int (xs (i + 2))]) (rest := []) (d' := 60) (Qw := fun k g' v' => k = nI r.1 ∧ CR g' r.2.2 ∧ HF g g' ∧ r.1 ≤ 2 ∧ (r.1 = 0 → v' 0 = r.2.1.toInt64)) C hP hS hl.1 dL_law_923 ll_140 wl_k_quarrel wl_ini wl_s_quarrel (by decide) (by decide +kernel) rfl rfl (Nat.le_of_ble_eq_true rfl) (by show 60 + 1 ≤ 2048; decide) (by show 8 + (5 + 11) + 128 * 60 ≤ 84000; decide) (by show cells + 2 ≤ 601024; omega) (by show slots + 6 * 2 ≤ 7293034; omega) (w_quarrel hC hO (by rw [hr]; exact fun g' v' h1 h2 h3 h4 => ⟨rfl, h1, h2, h3, h4⟩)) (fun k g1 v1 hq H1 locs1 hP1 hS1 => ?_)
  obtain ⟨rfl, hC1, hF1, hle, hv1⟩ := hq
  refine lv_istore C.1 C.2.1 dL_law_926 hl (by decide) rfl (fun ls1 hl1 => ?_)
  have hl1 : lv_has ls1 7 [(5, .int (nI r.1)), (0, .ref b), (1, .ref (E.1 0)), (2, .ref (E.1 84)), (3, .ref o), (4, .int (nI i))] := hl1
  refine lv_aload_n C.1 C.2.1 dL_law_928 rfl (lv_at hl1 3 rfl) ?_
  refine l_sc (i := i) (k := 1) C.1 C.2.1 hX hbl hS1 (lv_at hl1 1 rfl) (lv_at hl1 5 rfl) dL_law_929 dL_law_930 dL_law_932 (by decide +kernel) dL_law_933 dL_law_934 (by omega) hL ?_
  refine l_sc (i := i) (k := 2) C.1 C.2.1 hX hbl hS1 (lv_at hl1 1 rfl) (lv_at hl1 5 rfl) dL_law_935 dL_law_936 dL_law_938 (by decide +kernel) dL_law_939 dL_law_940 (by omega) hL ?_
  refine l_callV (md' := md_X12_quarrel) (As := [.int (xs (i + 1)), .int (xs (i + 2))]) (rest := []) (d' := 60) (a := 84) (Qm := fun w g' => ∃ b9, w = some (.int b9) ∧ MR g' r.2.2 ∧ LF g1 g' ∧ g' 84 2 = nI r.1 ∧ (r.1 = 0 → b9 = r.2.1)) (Xm := fun _ _ => False) C hP1 hS1 hl1.1 dL_law_941 ll_142 lm_X12_quarrel lv_X12_quarrel rfl (by decide) rfl rfl rfl (Nat.le_of_ble_eq_true rfl) (by show 60 + 1 ≤ 2048; decide) (by show 8 + (3 + 11) + 128 * 60 ≤ 84000; decide) (by show cells + 2 + 0 ≤ 601024; omega) (by show slots + 6 * 2 + 6 * 0 ≤ 7293034; omega) (n_quarrel (hM.hf hF1) hO (by rw [hr]; exact fun h b9 h1 h2 h3 h4 => ⟨b9, rfl, h1, h2, h3, h4⟩)) (fun w g2 hw H2 locs2 hP2 hS2 => ?_) (fun Ex g2 hx => hx.elim)
  obtain ⟨b9, rfl, hM2, hF2, h84, hb9⟩ := hw
  refine W.eq (g2 := F0 m 944 ls1 [.int b9]) rfl ?_
  refine lv_istore C.1 C.2.1 dL_law_944 hl1 (by decide) rfl (fun ls2 hl2 => ?_)
  have hl2 : lv_has ls2 7 [(6, .int b9), (5, .int (nI r.1)), (0, .ref b), (1, .ref (E.1 0)), (2, .ref (E.1 84)), (3, .ref o), (4, .int (nI i))] := hl2
  refine lv_aload_n C.1 C.2.1 dL_law_946 rfl (lv_at hl2 4 rfl) ?_
  refine l_callV (md' := md_X12_thrown) (As := []) (rest := []) (d' := 60) (a := 84) (Qm := fun w g' => w = some (.int (nI r.1)) ∧ g' = g2) (Xm := fun _ _ => False) C hP2 hS2 hl2.1 dL_law_947 ll_102 lm_X12_thrown lv_X12_thrown rfl (by decide) rfl rfl rfl (Nat.le_of_ble_eq_true rfl) (by show 60 + 1 ≤ 2048; decide) (by show 8 + (1 + 11) + 128 * 60 ≤ 84000; decide) (by show cells + 2 + 0 + 0 ≤ 601024; omega) (by show slots + 6 * 2 + 6 * 0 + 6 * 0 ≤ 7293034; omega) (c_X12_thrown ⟨by rw [h84], rfl⟩) (fun w g3 hw H3 locs3 hP3 hS3 => ?_) (fun Ex g3 hx => hx.elim)
  obtain ⟨rfl, rfl⟩ := hw
  refine W.eq (g2 := F0 m 950 ls2 [.int (nI r.1)]) rfl ?_
  refine lv_iload C.1 C.2.1 dL_law_950 (lv_at hl2 1 rfl) ?_
  refine lv_icmp_eq (tgt := 957) C.1 C.2.1 dL_law_952 (by decide) (fun _ => ?_) (fun q => absurd rfl q)
  refine lv_iload C.1 C.2.1 dL_law_957 (lv_at hl2 1 rfl) ?_
  have fin : W p l e room_1 s m #[Value.ref b] below meth c H3 locs3 (cells + 2 + 0 + 0) (slots + 6 * 2 + 6 * 0 + 6 * 0) Q (F0 m 974 ls2 []) := by
    refine lv_goto (tgt := 1976) C.1 C.2.1 dL_law_974 (by decide) ?_
    refine W.widen (k := cells + 4) (n := slots + 24) (by show cells + 2 + 0 + 0 ≤ cells + 4; omega) (by show slots + 6 * 2 + 6 * 0 + 6 * 0 ≤ slots + 24; omega) ?_
    exact kn r.2.2 g3 v1 H3 locs3 ls2 hP3 hS3 (hC1.lf hF2) hM2 hO2 (lv_sub hl2 [2, 3, 4, 5, 6] rfl)
  refine lv_if_ne (tgt := 974) C.1 C.2.1 dL_law_959 (by decide) (fun _ => fin) (fun hz => ?_)
  have r0 : r.1 = 0 := nI_inj (b := 0) (by omega) (by decide) hz
  refine lv_aload_n C.1 C.2.1 dL_law_962 rfl (lv_at hl2 5 rfl) ?_
  refine lv_iconst (v := 0) C.1 C.2.1 dL_law_963 (by decide +kernel) ?_
  refine va_lald (D := E.2.1) C.1 C.2.1 C.2.2.2.2.2.1 hP3 NID 3 (wlo_o (E := E) (g := g3) (o := o) (cL := cL) (v := v1)) rfl (by unfold vp_in; decide +kernel) dL_law_964 ?_
  rw [show (0 : Int32).toNatClampNeg = 0 from rfl, hv1 r0]
  refine lv_iload C.1 C.2.1 dL_law_965 (lv_at hl2 0 rfl) ?_
  rw [hb9 r0]
  refine lv_i2l C.1 C.2.1 dL_law_967 rfl ?_
  refine W.lcmp C.1 C.2.1 dL_law_968 ?_
  rw [lg_same]
  refine lv_if_eq (tgt := 974) C.1 C.2.1 dL_law_969 (by decide) (fun _ => fin) (fun q => absurd rfl q)
theorem z_peace {E : En} {o : Nat} {cL : ClassId} {p : Program} {l : Launch} {e : Env} {s : State} {m : MethodId} {below : List Frame} {meth : Method} {c : Code} {H : Heap} {locs : List Loc} {cells slots : Nat} {Q : State → Prop} {ls : Array Slot} {g : G2} {v : Nat → Int64} {b L i : Nat} {xs : Nat → Int32} {σ : WS} (C : LXw E o cL (Alw s) p l s m #[Value.ref b] c cL_law 7) (hX : va_X b L xs s s.heap) (hbl : b < s.heap.size) (hL : L ≤ 3072) (hi : i + 5 < L) (hP : LPw E o cL g v H) (hS : va_S (Alw s) s.heap H locs) (hC : CR g σ) (hM : MR g σ) (hO : OKs σ) (hl : lv_has ls 7 (lawlv E b o i)) (hcl : cells + 4 ≤ 601024) (hsl : slots + 24 ≤ 7293034) (kn : LNx E o cL b p l e s m below meth c Q (cells + 4) (slots + 24) i) : W p l e room_1 s m #[Value.ref b] below meth c H locs cells slots Q (F0 m 977 ls []) := by
  have hl : lv_has ls 7 [(0, .ref b), (1, .ref (E.1 0)), (2, .ref (E.1 84)), (3, .ref o), (4, .int (nI i))] := hl
  obtain ⟨r, hr⟩ : ∃ r : OR, a1F σ (peaM σ.F (xs (i + 1))) = r := ⟨_, rfl⟩
  have hO2 : OKs r.2.2 := by rw [← hr]; exact ok_act hO hO.2.1.pea
  have r0 : r.1 = 0 := by rw [← hr]; exact thr_peace
  refine lv_aload_n C.1 C.2.1 dL_law_977 rfl (lv_at hl 1 rfl) ?_
  refine l_sc (i := i) (k := 1) C.1 C.2.1 hX hbl hS (lv_at hl 0 rfl) (lv_at hl 4 rfl) dL_law_978 dL_law_979 dL_law_981 (by decide +kernel) dL_law_982 dL_law_983 (by omega) hL ?_
  refine l_callV (md' := md_X11_peace) (As := [.int (xs (i + 1))]) (rest := []) (d' := 60) (a := 0) (Qm := fun w g' => w = some (.int r.2.1) ∧ CR g' r.2.2 ∧ HF g g') (Xm := fun _ _ => False) C hP hS hl.1 dL_law_984 ll_143 lm_X11_peace lv_X11_peace rfl (by decide) rfl rfl rfl (Nat.le_of_ble_eq_true rfl) (by show 60 + 1 ≤ 2048; decide) (by show 8 + (3 + 11) + 128 * 60 ≤ 84000; decide) (by show cells + 0 ≤ 601024; omega) (by show slots + 6 * 0 ≤ 7293034; omega) (k_peace hC hO (by rw [hr]; exact ⟨fun h a b _ => ⟨rfl, a, b⟩, fun h a b c => (by rw [r0] at c; cases c), fun h a b c => (by rw [r0] at c; cases c)⟩)) (fun w g1 hw H1 locs1 hP1 hS1 => ?_) (fun Ex g1 hx => hx.elim)
  obtain ⟨rfl, hC1, hF1⟩ := hw
  refine W.eq (g2 := F0 m 987 ls [.int r.2.1]) rfl ?_
  refine lv_aload_n C.1 C.2.1 dL_law_987 rfl (lv_at hl 2 rfl) ?_
  refine l_sc (i := i) (k := 1) C.1 C.2.1 hX hbl hS1 (lv_at hl 0 rfl) (lv_at hl 4 rfl) dL_law_988 dL_law_989 dL_law_991 (by decide +kernel) dL_law_992 dL_law_993 (by omega) hL ?_
  refine l_callV (md' := md_X12_peace) (As := [.int (xs (i + 1))]) (rest := [.int r.2.1]) (d' := 60) (a := 84) (Qm := fun w g' => w = some (.int r.2.1) ∧ MR g' r.2.2 ∧ LF g1 g') (Xm := fun _ _ => False) C hP1 hS1 hl.1 dL_law_994 ll_146 lm_X12_peace lv_X12_peace rfl (by decide) rfl rfl rfl (Nat.le_of_ble_eq_true rfl) (by show 60 + 1 ≤ 2048; decide) (by show 8 + (3 + 11) + 128 * 60 ≤ 84000; decide) (by show cells + 0 + 0 ≤ 601024; omega) (by show slots + 6 * 0 + 6 * 0 ≤ 7293034; omega) (n_peace (hM.hf hF1) hO (by rw [hr]; exact fun h b9 h1 h2 h3 h4 => ⟨by rw [h4 r0], h1, h2⟩)) (fun w g2 hw H2 locs2 hP2 hS2 => ?_) (fun Ex g2 hx => hx.elim)
  obtain ⟨rfl, hM2, hF2⟩ := hw
  refine W.eq (g2 := F0 m 997 ls [.int r.2.1, .int r.2.1]) rfl ?_
  refine lv_icmp_eq (tgt := 1976) C.1 C.2.1 dL_law_997 (by decide) (fun _ => ?_) (fun q => absurd rfl q)
  refine W.widen (k := cells + 4) (n := slots + 24) (by show cells + 0 + 0 ≤ cells + 4; omega) (by show slots + 6 * 0 + 6 * 0 ≤ slots + 24; omega) ?_
  exact kn r.2.2 g2 v H2 locs2 ls hP2 hS2 (hC1.lf hF2) hM2 hO2 (lv_sub hl [0, 1, 2, 3, 4] rfl)
