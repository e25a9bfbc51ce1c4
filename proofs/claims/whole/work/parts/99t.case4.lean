theorem z_when {E : En} {o : Nat} {cL : ClassId} {p : Program} {l : Launch} {e : Env} {s : State} {m : MethodId} {below : List Frame} {meth : Method} {c : Code} {H : Heap} {locs : List Loc} {cells slots : Nat} {Q : State → Prop} {ls : Array Slot} {g : G2} {v : Nat → Int64} {b L i : Nat} {xs : Nat → Int32} {σ : WS} (C : LXw E o cL (Alw s) p l s m #[Value.ref b] c cL_law 7) (hX : va_X b L xs s s.heap) (hbl : b < s.heap.size) (hL : L ≤ 3072) (hi : i + 5 < L) (hP : LPw E o cL g v H) (hS : va_S (Alw s) s.heap H locs) (hC : CR g σ) (hM : MR g σ) (hO : OKs σ) (hl : lv_has ls 7 (lawlv E b o i)) (hcl : cells + 4 ≤ 601024) (hsl : slots + 24 ≤ 7293034) (kn : LNx E o cL b p l e s m below meth c Q (cells + 4) (slots + 24) i) : W p l e room_1 s m #[Value.ref b] below meth c H locs cells slots Q (F0 m 1482 ls []) := by
  have hl : lv_has ls 7 [(0, .ref b), (1, .ref (E.1 0)), (2, .ref (E.1 84)), (3, .ref o), (4, .int (nI i))] := hl
  obtain ⟨r, hr⟩ : ∃ r : OR, q1 σ (wheM σ.T (f_S σ.F) (xs (i + 1)) (xs (i + 2))) = r := ⟨_, rfl⟩
  have hO2 : OKs r.2.2 := by rw [← hr]; exact hO
  refine lv_aload_n C.1 C.2.1 dL_law_1482 rfl (lv_at hl 1 rfl) ?_
  refine l_sc (i := i) (k := 1) C.1 C.2.1 hX hbl hS (lv_at hl 0 rfl) (lv_at hl 4 rfl) dL_law_1483 dL_law_1484 dL_law_1486 (by decide +kernel) dL_law_1487 dL_law_1488 (by omega) hL ?_
  refine l_sc (i := i) (k := 2) C.1 C.2.1 hX hbl hS (lv_at hl 0 rfl) (lv_at hl 4 rfl) dL_law_1489 dL_law_1490 dL_law_1492 (by decide +kernel) dL_law_1493 dL_law_1494 (by omega) hL ?_
  refine lv_aload_n C.1 C.2.1 dL_law_1495 rfl (lv_at hl 3 rfl) ?_
  refine l_callW (n := 4) (w := wd_when) (As := [.ref 0, .int (xs (i + 1)), .int (xs (i + 2))]) (rest := []) (d' := 60) (Qw := fun k g' v' => k = nI r.1 ∧ CR g' r.2.2 ∧ HF g g' ∧ r.1 ≤ 2 ∧ (r.1 = 0 → v' 0 = r.2.1.toInt64)) C hP hS hl.1 dL_law_1496 ll_185 wl_k_when wl_ini wl_s_when (by decide) (by decide +kernel) rfl rfl (Nat.le_of_ble_eq_true rfl) (by show 60 + 1 ≤ 2048; decide) (by show 8 + (5 + 11) + 128 * 60 ≤ 84000; decide) (by show cells + 1 ≤ 601024; omega) (by show slots + 6 * 1 ≤ 7293034; omega) (w_when hC hO (by rw [hr]; exact fun g' v' h1 h2 h3 h4 => ⟨rfl, h1, h2, h3, h4⟩)) (fun k g1 v1 hq H1 locs1 hP1 hS1 => ?_)
  obtain ⟨rfl, hC1, hF1, hle, hv1⟩ := hq
  refine lv_istore C.1 C.2.1 dL_law_1499 hl (by decide) rfl (fun ls1 hl1 => ?_)
  have hl1 : lv_has ls1 7 [(5, .int (nI r.1)), (0, .ref b), (1, .ref (E.1 0)), (2, .ref (E.1 84)), (3, .ref o), (4, .int (nI i))] := hl1
  refine lv_aload_n C.1 C.2.1 dL_law_1501 rfl (lv_at hl1 3 rfl) ?_
  refine l_sc (i := i) (k := 1) C.1 C.2.1 hX hbl hS1 (lv_at hl1 1 rfl) (lv_at hl1 5 rfl) dL_law_1502 dL_law_1503 dL_law_1505 (by decide +kernel) dL_law_1506 dL_law_1507 (by omega) hL ?_
  refine l_sc (i := i) (k := 2) C.1 C.2.1 hX hbl hS1 (lv_at hl1 1 rfl) (lv_at hl1 5 rfl) dL_law_1508 dL_law_1509 dL_law_1511 (by decide +kernel) dL_law_1512 dL_law_1513 (by omega) hL ?_
  refine l_callV (md' := md_X12_when) (As := [.int (xs (i + 1)), .int (xs (i + 2))]) (rest := []) (d' := 60) (a := 84) (Qm := fun w g' => ∃ b9, w = some (.int b9) ∧ MR g' r.2.2 ∧ LF g1 g' ∧ g' 84 2 = nI r.1 ∧ (r.1 = 0 → b9 = r.2.1)) (Xm := fun _ _ => False) C hP1 hS1 hl1.1 dL_law_1514 ll_187 lm_X12_when lv_X12_when rfl (by decide) rfl rfl rfl (Nat.le_of_ble_eq_true rfl) (by show 60 + 1 ≤ 2048; decide) (by show 8 + (5 + 11) + 128 * 60 ≤ 84000; decide) (by show cells + 1 + 0 ≤ 601024; omega) (by show slots + 6 * 1 + 6 * 0 ≤ 7293034; omega) (n_when (hM.hf hF1) hO (by rw [hr]; exact fun h b9 h1 h2 h3 h4 => ⟨b9, rfl, h1, h2, h3, h4⟩)) (fun w g2 hw H2 locs2 hP2 hS2 => ?_) (fun Ex g2 hx => hx.elim)
  obtain ⟨b9, rfl, hM2, hF2, h84, hb9⟩ := hw
  refine W.eq (g2 := F0 m 1517 ls1 [.int b9]) rfl ?_
  refine lv_istore C.1 C.2.1 dL_law_1517 hl1 (by decide) rfl (fun ls2 hl2 => ?_)
  have hl2 : lv_has ls2 7 [(6, .int b9), (5, .int (nI r.1)), (0, .ref b), (1, .ref (E.1 0)), (2, .ref (E.1 84)), (3, .ref o), (4, .int (nI i))] := hl2
  refine lv_aload_n C.1 C.2.1 dL_law_1519 rfl (lv_at hl2 4 rfl) ?_
  refine l_callV (md' := md_X12_thrown) (As := []) (rest := []) (d' := 60) (a := 84) (Qm := fun w g' => w = some (.int (nI r.1)) ∧ g' = g2) (Xm := fun _ _ => False) C hP2 hS2 hl2.1 dL_law_1520 ll_102 lm_X12_thrown lv_X12_thrown rfl (by decide) rfl rfl rfl (Nat.le_of_ble_eq_true rfl) (by show 60 + 1 ≤ 2048; decide) (by show 8 + (1 + 11) + 128 * 60 ≤ 84000; decide) (by show cells + 1 + 0 + 0 ≤ 601024; omega) (by show slots + 6 * 1 + 6 * 0 + 6 * 0 ≤ 7293034; omega) (c_X12_thrown ⟨by rw [h84], rfl⟩) (fun w g3 hw H3 locs3 hP3 hS3 => ?_) (fun Ex g3 hx => hx.elim)
  obtain ⟨rfl, rfl⟩ := hw
  refine W.eq (g2 := F0 m 1523 ls2 [.int (nI r.1)]) rfl ?_
  refine lv_iload C.1 C.2.1 dL_law_1523 (lv_at hl2 1 rfl) ?_
  refine lv_icmp_eq (tgt := 1530) C.1 C.2.1 dL_law_1525 (by decide) (fun _ => ?_) (fun q => absurd rfl q)
  refine lv_iload C.1 C.2.1 dL_law_1530 (lv_at hl2 1 rfl) ?_
  have fin : W p l e room_1 s m #[Value.ref b] below meth c H3 locs3 (cells + 1 + 0 + 0) (slots + 6 * 1 + 6 * 0 + 6 * 0) Q (F0 m 1547 ls2 []) := by
    refine lv_goto (tgt := 1976) C.1 C.2.1 dL_law_1547 (by decide) ?_
    refine W.widen (k := cells + 4) (n := slots + 24) (by show cells + 1 + 0 + 0 ≤ cells + 4; omega) (by show slots + 6 * 1 + 6 * 0 + 6 * 0 ≤ slots + 24; omega) ?_
    exact kn r.2.2 g3 v1 H3 locs3 ls2 hP3 hS3 (hC1.lf hF2) hM2 hO2 (lv_sub hl2 [2, 3, 4, 5, 6] rfl)
  refine lv_if_ne (tgt := 1547) C.1 C.2.1 dL_law_1532 (by decide) (fun _ => fin) (fun hz => ?_)
  have r0 : r.1 = 0 := nI_inj (b := 0) (by omega) (by decide) hz
  refine lv_aload_n C.1 C.2.1 dL_law_1535 rfl (lv_at hl2 5 rfl) ?_
  refine lv_iconst (v := 0) C.1 C.2.1 dL_law_1536 (by decide +kernel) ?_
  refine va_lald (D := E.2.1) C.1 C.2.1 C.2.2.2.2.2.1 hP3 NID 3 (wlo_o (E := E) (g := g3) (o := o) (cL := cL) (v := v1)) rfl (by unfold vp_in; decide +kernel) dL_law_1537 ?_
  rw [show (0 : Int32).toNatClampNeg = 0 from rfl, hv1 r0]
  refine lv_iload C.1 C.2.1 dL_law_1538 (lv_at hl2 0 rfl) ?_
  rw [hb9 r0]
  refine lv_i2l C.1 C.2.1 dL_law_1540 rfl ?_
  refine W.lcmp C.1 C.2.1 dL_law_1541 ?_
  rw [lg_same]
  refine lv_if_eq (tgt := 1547) C.1 C.2.1 dL_law_1542 (by decide) (fun _ => fin) (fun q => absurd rfl q)
theorem z_quiet {E : En} {o : Nat} {cL : ClassId} {p : Program} {l : Launch} {e : Env} {s : State} {m : MethodId} {below : List Frame} {meth : Method} {c : Code} {H : Heap} {locs : List Loc} {cells slots : Nat} {Q : State → Prop} {ls : Array Slot} {g : G2} {v : Nat → Int64} {b L i : Nat} {xs : Nat → Int32} {σ : WS} (C : LXw E o cL (Alw s) p l s m #[Value.ref b] c cL_law 7) (hX : va_X b L xs s s.heap) (hbl : b < s.heap.size) (hL : L ≤ 3072) (hi : i + 5 < L) (hP : LPw E o cL g v H) (hS : va_S (Alw s) s.heap H locs) (hC : CR g σ) (hM : MR g σ) (hO : OKs σ) (hl : lv_has ls 7 (lawlv E b o i)) (hcl : cells + 4 ≤ 601024) (hsl : slots + 24 ≤ 7293034) (kn : LNx E o cL b p l e s m below meth c Q (cells + 4) (slots + 24) i) : W p l e room_1 s m #[Value.ref b] below meth c H locs cells slots Q (F0 m 1550 ls []) := by
  have hl : lv_has ls 7 [(0, .ref b), (1, .ref (E.1 0)), (2, .ref (E.1 84)), (3, .ref o), (4, .int (nI i))] := hl
  obtain ⟨r, hr⟩ : ∃ r : OR, q1 σ (quiM σ.T (f_S σ.F) (xs (i + 1))) = r := ⟨_, rfl⟩
  have hO2 : OKs r.2.2 := by rw [← hr]; exact hO
  refine lv_aload_n C.1 C.2.1 dL_law_1550 rfl (lv_at hl 1 rfl) ?_
  refine l_sc (i := i) (k := 1) C.1 C.2.1 hX hbl hS (lv_at hl 0 rfl) (lv_at hl 4 rfl) dL_law_1551 dL_law_1552 dL_law_1554 (by decide +kernel) dL_law_1555 dL_law_1556 (by omega) hL ?_
  refine lv_aload_n C.1 C.2.1 dL_law_1557 rfl (lv_at hl 3 rfl) ?_
  refine l_callW (n := 3) (w := wd_quiet) (As := [.ref 0, .int (xs (i + 1))]) (rest := []) (d' := 60) (Qw := fun k g' v' => k = nI r.1 ∧ CR g' r.2.2 ∧ HF g g' ∧ r.1 ≤ 2 ∧ (r.1 = 0 → v' 0 = r.2.1.toInt64)) C hP hS hl.1 dL_law_1558 ll_188 wl_k_quiet wl_ini wl_s_quiet (by decide) (by decide +kernel) rfl rfl (Nat.le_of_ble_eq_true rfl) (by show 60 + 1 ≤ 2048; decide) (by show 8 + (4 + 11) + 128 * 60 ≤ 84000; decide) (by show cells + 1 ≤ 601024; omega) (by show slots + 6 * 1 ≤ 7293034; omega) (w_quiet hC hO (by rw [hr]; exact fun g' v' h1 h2 h3 h4 => ⟨rfl, h1, h2, h3, h4⟩)) (fun k g1 v1 hq H1 locs1 hP1 hS1 => ?_)
  obtain ⟨rfl, hC1, hF1, hle, hv1⟩ := hq
  refine lv_istore C.1 C.2.1 dL_law_1561 hl (by decide) rfl (fun ls1 hl1 => ?_)
  have hl1 : lv_has ls1 7 [(5, .int (nI r.1)), (0, .ref b), (1, .ref (E.1 0)), (2, .ref (E.1 84)), (3, .ref o), (4, .int (nI i))] := hl1
  refine lv_aload_n C.1 C.2.1 dL_law_1563 rfl (lv_at hl1 3 rfl) ?_
  refine l_sc (i := i) (k := 1) C.1 C.2.1 hX hbl hS1 (lv_at hl1 1 rfl) (lv_at hl1 5 rfl) dL_law_1564 dL_law_1565 dL_law_1567 (by decide +kernel) dL_law_1568 dL_law_1569 (by omega) hL ?_
  refine l_callV (md' := md_X12_quiet) (As := [.int (xs (i + 1))]) (rest := []) (d' := 60) (a := 84) (Qm := fun w g' => ∃ b9, w = some (.int b9) ∧ MR g' r.2.2 ∧ LF g1 g' ∧ g' 84 2 = nI r.1 ∧ (r.1 = 0 → b9 = r.2.1)) (Xm := fun _ _ => False) C hP1 hS1 hl1.1 dL_law_1570 ll_190 lm_X12_quiet lv_X12_quiet rfl (by decide) rfl rfl rfl (Nat.le_of_ble_eq_true rfl) (by show 60 + 1 ≤ 2048; decide) (by show 8 + (6 + 11) + 128 * 60 ≤ 84000; decide) (by show cells + 1 + 0 ≤ 601024; omega) (by show slots + 6 * 1 + 6 * 0 ≤ 7293034; omega) (n_quiet (hM.hf hF1) hO (by rw [hr]; exact fun h b9 h1 h2 h3 h4 => ⟨b9, rfl, h1, h2, h3, h4⟩)) (fun w g2 hw H2 locs2 hP2 hS2 => ?_) (fun Ex g2 hx => hx.elim)
  obtain ⟨b9, rfl, hM2, hF2, h84, hb9⟩ := hw
  refine W.eq (g2 := F0 m 1573 ls1 [.int b9]) rfl ?_
  refine lv_istore C.1 C.2.1 dL_law_1573 hl1 (by decide) rfl (fun ls2 hl2 => ?_)
  have hl2 : lv_has ls2 7 [(6, .int b9), (5, .int (nI r.1)), (0, .ref b), (1, .ref (E.1 0)), (2, .ref (E.1 84)), (3, .ref o), (4, .int (nI i))] := hl2
  refine lv_aload_n C.1 C.2.1 dL_law_1575 rfl (lv_at hl2 4 rfl) ?_
  refine l_callV (md' := md_X12_thrown) (As := []) (rest := []) (d' := 60) (a := 84) (Qm := fun w g' => w = some (.int (nI r.1)) ∧ g' = g2) (Xm := fun _ _ => False) C hP2 hS2 hl2.1 dL_law_1576 ll_102 lm_X12_thrown lv_X12_thrown rfl (by decide) rfl rfl rfl (Nat.le_of_ble_eq_true rfl) (by show 60 + 1 ≤ 2048; decide) (by show 8 + (1 + 11) + 128 * 60 ≤ 84000; decide) (by show cells + 1 + 0 + 0 ≤ 601024; omega) (by show slots + 6 * 1 + 6 * 0 + 6 * 0 ≤ 7293034; omega) (c_X12_thrown ⟨by rw [h84], rfl⟩) (fun w g3 hw H3 locs3 hP3 hS3 => ?_) (fun Ex g3 hx => hx.elim)
  obtain ⟨rfl, rfl⟩ := hw
  refine W.eq (g2 := F0 m 1579 ls2 [.int (nI r.1)]) rfl ?_
  refine lv_iload C.1 C.2.1 dL_law_1579 (lv_at hl2 1 rfl) ?_
  refine lv_icmp_eq (tgt := 1586) C.1 C.2.1 dL_law_1581 (by decide) (fun _ => ?_) (fun q => absurd rfl q)
  refine lv_iload C.1 C.2.1 dL_law_1586 (lv_at hl2 1 rfl) ?_
  have fin : W p l e room_1 s m #[Value.ref b] below meth c H3 locs3 (cells + 1 + 0 + 0) (slots + 6 * 1 + 6 * 0 + 6 * 0) Q (F0 m 1603 ls2 []) := by
    refine lv_goto (tgt := 1976) C.1 C.2.1 dL_law_1603 (by decide) ?_
    refine W.widen (k := cells + 4) (n := slots + 24) (by show cells + 1 + 0 + 0 ≤ cells + 4; omega) (by show slots + 6 * 1 + 6 * 0 + 6 * 0 ≤ slots + 24; omega) ?_
    exact kn r.2.2 g3 v1 H3 locs3 ls2 hP3 hS3 (hC1.lf hF2) hM2 hO2 (lv_sub hl2 [2, 3, 4, 5, 6] rfl)
  refine lv_if_ne (tgt := 1603) C.1 C.2.1 dL_law_1588 (by decide) (fun _ => fin) (fun hz => ?_)
  have r0 : r.1 = 0 := nI_inj (b := 0) (by omega) (by decide) hz
  refine lv_aload_n C.1 C.2.1 dL_law_1591 rfl (lv_at hl2 5 rfl) ?_
  refine lv_iconst (v := 0) C.1 C.2.1 dL_law_1592 (by decide +kernel) ?_
  refine va_lald (D := E.2.1) C.1 C.2.1 C.2.2.2.2.2.1 hP3 NID 3 (wlo_o (E := E) (g := g3) (o := o) (cL := cL) (v := v1)) rfl (by unfold vp_in; decide +kernel) dL_law_1593 ?_
  rw [show (0 : Int32).toNatClampNeg = 0 from rfl, hv1 r0]
  refine lv_iload C.1 C.2.1 dL_law_1594 (lv_at hl2 0 rfl) ?_
  rw [hb9 r0]
  refine lv_i2l C.1 C.2.1 dL_law_1596 rfl ?_
  refine W.lcmp C.1 C.2.1 dL_law_1597 ?_
  rw [lg_same]
  refine lv_if_eq (tgt := 1603) C.1 C.2.1 dL_law_1598 (by decide) (fun _ => fin) (fun q => absurd rfl q)
theorem z_match {E : En} {o : Nat} {cL : ClassId} {p : Program} {l : Launch} {e : Env} {s : State} {m : MethodId} {below : List Frame} {meth : Method} {c : Code} {H : Heap} {locs : List Loc} {cells slots : Nat} {Q : State → Prop} {ls : Array Slot} {g : G2} {v : Nat → Int64} {b L i : Nat} {xs : Nat → Int32} {σ : WS} (C : LXw E o cL (Alw s) p l s m #[Value.ref b] c cL_law 7) (hX : va_X b L xs s s.heap) (hbl : b < s.heap.size) (hL : L ≤ 3072) (hi : i + 5 < L) (hP : LPw E o cL g v H) (hS : va_S (Alw s) s.heap H locs) (hC : CR g σ) (hM : MR g σ) (hO : OKs σ) (hl : lv_has ls 7 (lawlv E b o i)) (hcl : cells + 4 ≤ 601024) (hsl : slots + 24 ≤ 7293034) (kn : LNx E o cL b p l e s m below meth c Q (cells + 4) (slots + 24) i) : W p l e room_1 s m #[Value.ref b] below meth c H locs cells slots Q (F0 m 1606 ls []) := by
  have hl : lv_has ls 7 [(0, .ref b), (1, .ref (E.1 0)), (2, .ref (E.1 84)), (3, .ref o), (4, .int (nI i))] := hl
  obtain ⟨r, hr⟩ : ∃ r : OR, ((0, (mtO σ.T (f_S σ.F) (t_n σ.T)).1, σ) : OR) = r := ⟨_, rfl⟩
  have hO2 : OKs r.2.2 := by rw [← hr]; exact hO
  have r0 : r.1 = 0 := by rw [← hr]
  refine lv_aload_n C.1 C.2.1 dL_law_1606 rfl (lv_at hl 1 rfl) ?_
  refine l_callV (md' := md_X11_match) (As := []) (rest := []) (d' := 60) (a := 0) (Qm := fun w g' => w = some (.int r.2.1) ∧ CR g' r.2.2 ∧ HF g g') (Xm := fun _ _ => False) C hP hS hl.1 dL_law_1607 ll_191 lm_X11_match lv_X11_match rfl (by decide) rfl rfl rfl (Nat.le_of_ble_eq_true rfl) (by show 60 + 1 ≤ 2048; decide) (by show 8 + (6 + 11) + 128 * 60 ≤ 84000; decide) (by show cells + 0 ≤ 601024; omega) (by show slots + 6 * 0 ≤ 7293034; omega) (k_match hC hO (fun h a b => by rw [← hr]; exact ⟨rfl, a, b⟩)) (fun w g1 hw H1 locs1 hP1 hS1 => ?_) (fun Ex g1 hx => hx.elim)
  obtain ⟨rfl, hC1, hF1⟩ := hw
  refine W.eq (g2 := F0 m 1610 ls [.int r.2.1]) rfl ?_
  refine lv_aload_n C.1 C.2.1 dL_law_1610 rfl (lv_at hl 2 rfl) ?_
  refine l_callV (md' := md_X12_match) (As := []) (rest := [.int r.2.1]) (d' := 60) (a := 84) (Qm := fun w g' => w = some (.int r.2.1) ∧ MR g' r.2.2 ∧ LF g1 g') (Xm := fun _ _ => False) C hP1 hS1 hl.1 dL_law_1611 ll_194 lm_X12_match lv_X12_match rfl (by decide) rfl rfl rfl (Nat.le_of_ble_eq_true rfl) (by show 60 + 1 ≤ 2048; decide) (by show 8 + (6 + 11) + 128 * 60 ≤ 84000; decide) (by show cells + 0 + 0 ≤ 601024; omega) (by show slots + 6 * 0 + 6 * 0 ≤ 7293034; omega) (n_match (hM.hf hF1) hO (fun h a b => by rw [← hr]; exact ⟨rfl, a, b⟩)) (fun w g2 hw H2 locs2 hP2 hS2 => ?_) (fun Ex g2 hx => hx.elim)
  obtain ⟨rfl, hM2, hF2⟩ := hw
  refine W.eq (g2 := F0 m 1614 ls [.int r.2.1, .int r.2.1]) rfl ?_
  refine lv_icmp_eq (tgt := 1976) C.1 C.2.1 dL_law_1614 (by decide) (fun _ => ?_) (fun q => absurd rfl q)
  refine W.widen (k := cells + 4) (n := slots + 24) (by show cells + 0 + 0 ≤ cells + 4; omega) (by show slots + 6 * 0 + 6 * 0 ≤ slots + 24; omega) ?_
  exact kn r.2.2 g2 v H2 locs2 ls hP2 hS2 (hC1.lf hF2) hM2 hO2 (lv_sub hl [0, 1, 2, 3, 4] rfl)
theorem z_hear {E : En} {o : Nat} {cL : ClassId} {p : Program} {l : Launch} {e : Env} {s : State} {m : MethodId} {below : List Frame} {meth : Method} {c : Code} {H : Heap} {locs : List Loc} {cells slots : Nat} {Q : State → Prop} {ls : Array Slot} {g : G2} {v : Nat → Int64} {b L i : Nat} {xs : Nat → Int32} {σ : WS} (C : LXw E o cL (Alw s) p l s m #[Value.ref b] c cL_law 7) (hX : va_X b L xs s s.heap) (hbl : b < s.heap.size) (hL : L ≤ 3072) (hi : i + 5 < L) (hP : LPw E o cL g v H) (hS : va_S (Alw s) s.heap H locs) (hC : CR g σ) (hM : MR g σ) (hO : OKs σ) (hl : lv_has ls 7 (lawlv E b o i)) (hcl : cells + 4 ≤ 601024) (hsl : slots + 24 ≤ 7293034) (kn : LNx E o cL b p l e s m below meth c Q (cells + 4) (slots + 24) i) : W p l e room_1 s m #[Value.ref b] below meth c H locs cells slots Q (F0 m 1619 ls []) := by
  have hl : lv_has ls 7 [(0, .ref b), (1, .ref (E.1 0)), (2, .ref (E.1 84)), (3, .ref o), (4, .int (nI i))] := hl
  obtain ⟨r, hr⟩ : ∃ r : OR, a1F σ (heaM σ.F (xs (i + 1)) (xs (i + 2))) = r := ⟨_, rfl⟩
  have hO2 : OKs r.2.2 := by rw [← hr]; exact ok_act hO hO.2.1.hea
  have r0 : r.1 = 0 := by rw [← hr]; exact thr_hear
  refine lv_aload_n C.1 C.2.1 dL_law_1619 rfl (lv_at hl 1 rfl) ?_
  refine l_sc (i := i) (k := 1) C.1 C.2.1 hX hbl hS (lv_at hl 0 rfl) (lv_at hl 4 rfl) dL_law_1620 dL_law_1621 dL_law_1623 (by decide +kernel) dL_law_1624 dL_law_1625 (by omega) hL ?_
  refine l_sc (i := i) (k := 2) C.1 C.2.1 hX hbl hS (lv_at hl 0 rfl) (lv_at hl 4 rfl) dL_law_1626 dL_law_1627 dL_law_1629 (by decide +kernel) dL_law_1630 dL_law_1631 (by omega) hL ?_
  refine l_callV (md' := md_X11_hear) (As := [.int (xs (i + 1)), .int (xs (i + 2))]) (rest := []) (d' := 60) (a := 0) (Qm := fun w g' => w = some (.int r.2.1) ∧ CR g' r.2.2 ∧ HF g g') (Xm := fun _ _ => False) C hP hS hl.1 dL_law_1632 ll_195 lm_X11_hear lv_X11_hear rfl (by decide) rfl rfl rfl (Nat.le_of_ble_eq_true rfl) (by show 60 + 1 ≤ 2048; decide) (by show 8 + (4 + 11) + 128 * 60 ≤ 84000; decide) (by show cells + 0 ≤ 601024; omega) (by show slots + 6 * 0 ≤ 7293034; omega) (k_hear hC hO (by rw [hr]; exact ⟨fun h a b _ => ⟨rfl, a, b⟩, fun h a b c => (by rw [r0] at c; cases c), fun h a b c => (by rw [r0] at c; cases c)⟩)) (fun w g1 hw H1 locs1 hP1 hS1 => ?_) (fun Ex g1 hx => hx.elim)
  obtain ⟨rfl, hC1, hF1⟩ := hw
  refine W.eq (g2 := F0 m 1635 ls [.int r.2.1]) rfl ?_
  refine lv_aload_n C.1 C.2.1 dL_law_1635 rfl (lv_at hl 2 rfl) ?_
  refine l_sc (i := i) (k := 1) C.1 C.2.1 hX hbl hS1 (lv_at hl 0 rfl) (lv_at hl 4 rfl) dL_law_1636 dL_law_1637 dL_law_1639 (by decide +kernel) dL_law_1640 dL_law_1641 (by omega) hL ?_
  refine l_sc (i := i) (k := 2) C.1 C.2.1 hX hbl hS1 (lv_at hl 0 rfl) (lv_at hl 4 rfl) dL_law_1642 dL_law_1643 dL_law_1645 (by decide +kernel) dL_law_1646 dL_law_1647 (by omega) hL ?_
  refine l_callV (md' := md_X12_hear) (As := [.int (xs (i + 1)), .int (xs (i + 2))]) (rest := [.int r.2.1]) (d' := 60) (a := 84) (Qm := fun w g' => w = some (.int r.2.1) ∧ MR g' r.2.2 ∧ LF g1 g') (Xm := fun _ _ => False) C hP1 hS1 hl.1 dL_law_1648 ll_198 lm_X12_hear lv_X12_hear rfl (by decide) rfl rfl rfl (Nat.le_of_ble_eq_true rfl) (by show 60 + 1 ≤ 2048; decide) (by show 8 + (3 + 11) + 128 * 60 ≤ 84000; decide) (by show cells + 0 + 0 ≤ 601024; omega) (by show slots + 6 * 0 + 6 * 0 ≤ 7293034; omega) (n_hear (hM.hf hF1) hO (by rw [hr]; exact fun h b9 h1 h2 h3 h4 => ⟨by rw [h4 r0], h1, h2⟩)) (fun w g2 hw H2 locs2 hP2 hS2 => ?_) (fun Ex g2 hx => hx.elim)
  obtain ⟨rfl, hM2, hF2⟩ := hw
  refine W.eq (g2 := F0 m 1651 ls [.int r.2.1, .int r.2.1]) rfl ?_
  refine lv_icmp_eq (tgt := 1976) C.1 C.2.1 dL_law_1651 (by decide) (fun _ => ?_) (fun q => absurd rfl q)
  refine W.widen (k := cells + 4) (n := slots + 24) (by show cells + 0 + 0 ≤ cells + 4; omega) (by show slots + 6 * 0 + 6 * 0 ≤ slots + 24; omega) ?_
  exact kn r.2.2 g2 v H2 locs2 ls hP2 hS2 (hC1.lf hF2) hM2 hO2 (lv_sub hl [0, 1, 2, 3, 4] rfl)
theorem z_spy {E : En} {o : Nat} {cL : ClassId} {p : Program} {l : Launch} {e : Env} {s : State} {m : MethodId} {below : List Frame} {meth : Method} {c : Code} {H : Heap} {locs : List Loc} {cells slots : Nat} {Q : State → Prop} {ls : Array Slot} {g : G2} {v : Nat → Int64} {b L i : Nat} {xs : Nat → Int32} {σ : WS} (C : LXw E o cL (Alw s) p l s m #[Value.ref b] c cL_law 7) (hX : va_X b L xs s s.heap) (hbl : b < s.heap.size) (hL : L ≤ 3072) (hi : i + 5 < L) (hP : LPw E o cL g v H) (hS : va_S (Alw s) s.heap H locs) (hC : CR g σ) (hM : MR g σ) (hO : OKs σ) (hl : lv_has ls 7 (lawlv E b o i)) (hcl : cells + 4 ≤ 601024) (hsl : slots + 24 ≤ 7293034) (kn : LNx E o cL b p l e s m below meth c Q (cells + 4) (slots + 24) i) : W p l e room_1 s m #[Value.ref b] below meth c H locs cells slots Q (F0 m 1656 ls []) := by
  have hl : lv_has ls 7 [(0, .ref b), (1, .ref (E.1 0)), (2, .ref (E.1 84)), (3, .ref o), (4, .int (nI i))] := hl
  obtain ⟨r, hr⟩ : ∃ r : OR, q1 σ (spyM σ.T σ.F (xs (i + 1))) = r := ⟨_, rfl⟩
  have hO2 : OKs r.2.2 := by rw [← hr]; exact hO
  refine lv_aload_n C.1 C.2.1 dL_law_1656 rfl (lv_at hl 1 rfl) ?_
  refine l_sc (i := i) (k := 1) C.1 C.2.1 hX hbl hS (lv_at hl 0 rfl) (lv_at hl 4 rfl) dL_law_1657 dL_law_1658 dL_law_1660 (by decide +kernel) dL_law_1661 dL_law_1662 (by omega) hL ?_
  refine lv_aload_n C.1 C.2.1 dL_law_1663 rfl (lv_at hl 3 rfl) ?_
  refine l_callW (n := 3) (w := wd_spy) (As := [.ref 0, .int (xs (i + 1))]) (rest := []) (d' := 60) (Qw := fun k g' v' => k = nI r.1 ∧ CR g' r.2.2 ∧ HF g g' ∧ r.1 ≤ 2 ∧ (r.1 = 0 → v' 0 = r.2.1.toInt64)) C hP hS hl.1 dL_law_1664 ll_199 wl_k_spy wl_ini wl_s_spy (by decide) (by decide +kernel) rfl rfl (Nat.le_of_ble_eq_true rfl) (by show 60 + 1 ≤ 2048; decide) (by show 8 + (4 + 11) + 128 * 60 ≤ 84000; decide) (by show cells + 1 ≤ 601024; omega) (by show slots + 6 * 1 ≤ 7293034; omega) (w_spy hC hO (by rw [hr]; exact fun g' v' h1 h2 h3 h4 => ⟨rfl, h1, h2, h3, h4⟩)) (fun k g1 v1 hq H1 locs1 hP1 hS1 => ?_)
  obtain ⟨rfl, hC1, hF1, hle, hv1⟩ := hq
  refine lv_istore C.1 C.2.1 dL_law_1667 hl (by decide) rfl (fun ls1 hl1 => ?_)
  have hl1 : lv_has ls1 7 [(5, .int (nI r.1)), (0, .ref b), (1, .ref (E.1 0)), (2, .ref (E.1 84)), (3, .ref o), (4, .int (nI i))] := hl1
  refine lv_aload_n C.1 C.2.1 dL_law_1669 rfl (lv_at hl1 3 rfl) ?_
  refine l_sc (i := i) (k := 1) C.1 C.2.1 hX hbl hS1 (lv_at hl1 1 rfl) (lv_at hl1 5 rfl) dL_law_1670 dL_law_1671 dL_law_1673 (by decide +kernel) dL_law_1674 dL_law_1675 (by omega) hL ?_
  refine l_callV (md' := md_X12_spy) (As := [.int (xs (i + 1))]) (rest := []) (d' := 60) (a := 84) (Qm := fun w g' => ∃ b9, w = some (.int b9) ∧ MR g' r.2.2 ∧ LF g1 g' ∧ g' 84 2 = nI r.1 ∧ (r.1 = 0 → b9 = r.2.1)) (Xm := fun _ _ => False) C hP1 hS1 hl1.1 dL_law_1676 ll_201 lm_X12_spy lv_X12_spy rfl (by decide) rfl rfl rfl (Nat.le_of_ble_eq_true rfl) (by show 60 + 1 ≤ 2048; decide) (by show 8 + (4 + 11) + 128 * 60 ≤ 84000; decide) (by show cells + 1 + 0 ≤ 601024; omega) (by show slots + 6 * 1 + 6 * 0 ≤ 7293034; omega) (n_spy (hM.hf hF1) hO (by rw [hr]; exact fun h b9 h1 h2 h3 h4 => ⟨b9, rfl, h1, h2, h3, h4⟩)) (fun w g2 hw H2 locs2 hP2 hS2 => ?_) (fun Ex g2 hx => hx.elim)
  obtain ⟨b9, rfl, hM2, hF2, h84, hb9⟩ := hw
  refine W.eq (g2 := F0 m 1679 ls1 [.int b9]) rfl ?_
  refine lv_istore C.1 C.2.1 dL_law_1679 hl1 (by decide) rfl (fun ls2 hl2 => ?_)
  have hl2 : lv_has ls2 7 [(6, .int b9), (5, .int (nI r.1)), (0, .ref b), (1, .ref (E.1 0)), (2, .ref (E.1 84)), (3, .ref o), (4, .int (nI i))] := hl2
  refine lv_aload_n C.1 C.2.1 dL_law_1681 rfl (lv_at hl2 4 rfl) ?_
  refine l_callV (md' := md_X12_thrown) (As := []) (rest := []) (d' := 60) (a := 84) (Qm := fun w g' => w = some (.int (nI r.1)) ∧ g' = g2) (Xm := fun _ _ => False) C hP2 hS2 hl2.1 dL_law_1682 ll_102 lm_X12_thrown lv_X12_thrown rfl (by decide) rfl rfl rfl (Nat.le_of_ble_eq_true rfl) (by show 60 + 1 ≤ 2048; decide) (by show 8 + (1 + 11) + 128 * 60 ≤ 84000; decide) (by show cells + 1 + 0 + 0 ≤ 601024; omega) (by show slots + 6 * 1 + 6 * 0 + 6 * 0 ≤ 7293034; omega) (c_X12_thrown ⟨by rw [h84], rfl⟩) (fun w g3 hw H3 locs3 hP3 hS3 => ?_) (fun Ex g3 hx => hx.elim)
  obtain ⟨rfl, rfl⟩ := hw
  refine W.eq (g2 := F0 m 1685 ls2 [.int (nI r.1)]) rfl ?_
  refine lv_iload C.1 C.2.1 dL_law_1685 (lv_at hl2 1 rfl) ?_
  refine lv_icmp_eq (tgt := 1692) C.1 C.2.1 dL_law_1687 (by decide) (fun _ => ?_) (fun q => absurd rfl q)
  refine lv_iload C.1 C.2.1 dL_law_1692 (lv_at hl2 1 rfl) ?_
  have fin : W p l e room_1 s m #[Value.ref b] below meth c H3 locs3 (cells + 1 + 0 + 0) (slots + 6 * 1 + 6 * 0 + 6 * 0) Q (F0 m 1709 ls2 []) := by
    refine lv_goto (tgt := 1976) C.1 C.2.1 dL_law_1709 (by decide) ?_
    refine W.widen (k := cells + 4) (n := slots + 24) (by show cells + 1 + 0 + 0 ≤ cells + 4; omega) (by show slots + 6 * 1 + 6 * 0 + 6 * 0 ≤ slots + 24; omega) ?_
    exact kn r.2.2 g3 v1 H3 locs3 ls2 hP3 hS3 (hC1.lf hF2) hM2 hO2 (lv_sub hl2 [2, 3, 4, 5, 6] rfl)
  refine lv_if_ne (tgt := 1709) C.1 C.2.1 dL_law_1694 (by decide) (fun _ => fin) (fun hz => ?_)
  have r0 : r.1 = 0 := nI_inj (b := 0) (by omega) (by decide) hz
  refine lv_aload_n C.1 C.2.1 dL_law_1697 rfl (lv_at hl2 5 rfl) ?_
  refine lv_iconst (v := 0) C.1 C.2.1 dL_law_1698 (by decide +kernel) ?_
  refine va_lald (D := E.2.1) C.1 C.2.1 C.2.2.2.2.2.1 hP3 NID 3 (wlo_o (E := E) (g := g3) (o := o) (cL := cL) (v := v1)) rfl (by unfold vp_in; decide +kernel) dL_law_1699 ?_
  rw [show (0 : Int32).toNatClampNeg = 0 from rfl, hv1 r0]
  refine lv_iload C.1 C.2.1 dL_law_1700 (lv_at hl2 0 rfl) ?_
  rw [hb9 r0]
  refine lv_i2l C.1 C.2.1 dL_law_1702 rfl ?_
  refine W.lcmp C.1 C.2.1 dL_law_1703 ?_
  rw [lg_same]
  refine lv_if_eq (tgt := 1709) C.1 C.2.1 dL_law_1704 (by decide) (fun _ => fin) (fun q => absurd rfl q)
theorem z_listen {E : En} {o : Nat} {cL : ClassId} {p : Program} {l : Launch} {e : Env} {s : State} {m : MethodId} {below : List Frame} {meth : Method} {c : Code} {H : Heap} {locs : List Loc} {cells slots : Nat} {Q : State → Prop} {ls : Array Slot} {g : G2} {v : Nat → Int64} {b L i : Nat} {xs : Nat → Int32} {σ : WS} (C : LXw E o cL (Alw s) p l s m #[Value.ref b] c cL_law 7) (hX : va_X b L xs s s.heap) (hbl : b < s.heap.size) (hL : L ≤ 3072) (hi : i + 5 < L) (hP : LPw E o cL g v H) (hS : va_S (Alw s) s.heap H locs) (hC : CR g σ) (hM : MR g σ) (hO : OKs σ) (hl : lv_has ls 7 (lawlv E b o i)) (hcl : cells + 4 ≤ 601024) (hsl : slots + 24 ≤ 7293034) (kn : LNx E o cL b p l e s m below meth c Q (cells + 4) (slots + 24) i) : W p l e room_1 s m #[Value.ref b] below meth c H locs cells slots Q (F0 m 1712 ls []) := by
  have hl : lv_has ls 7 [(0, .ref b), (1, .ref (E.1 0)), (2, .ref (E.1 84)), (3, .ref o), (4, .int (nI i))] := hl
  obtain ⟨r, hr⟩ : ∃ r : OR, q1 σ (lisM σ.T σ.F (xs (i + 1))) = r := ⟨_, rfl⟩
  have hO2 : OKs r.2.2 := by rw [← hr]; exact hO
  refine lv_aload_n C.1 C.2.1 dL_law_1712 rfl (lv_at hl 1 rfl) ?_
  refine l_sc (i := i) (k := 1) C.1 C.2.1 hX hbl hS (lv_at hl 0 rfl) (lv_at hl 4 rfl) dL_law_1713 dL_law_1714 dL_law_1716 (by decide +kernel) dL_law_1717 dL_law_1718 (by omega) hL ?_
  refine lv_aload_n C.1 C.2.1 dL_law_1719 rfl (lv_at hl 3 rfl) ?_
  refine l_callW (n := 3) (w := wd_listen) (As := [.ref 0, .int (xs (i + 1))]) (rest := []) (d' := 60) (Qw := fun k g' v' => k = nI r.1 ∧ CR g' r.2.2 ∧ HF g g' ∧ r.1 ≤ 2 ∧ (r.1 = 0 → v' 0 = r.2.1.toInt64)) C hP hS hl.1 dL_law_1720 ll_202 wl_k_listen wl_ini wl_s_listen (by decide) (by decide +kernel) rfl rfl (Nat.le_of_ble_eq_true rfl) (by show 60 + 1 ≤ 2048; decide) (by show 8 + (4 + 11) + 128 * 60 ≤ 84000; decide) (by show cells + 1 ≤ 601024; omega) (by show slots + 6 * 1 ≤ 7293034; omega) (w_listen hC hO (by rw [hr]; exact fun g' v' h1 h2 h3 h4 => ⟨rfl, h1, h2, h3, h4⟩)) (fun k g1 v1 hq H1 locs1 hP1 hS1 => ?_)
  obtain ⟨rfl, hC1, hF1, hle, hv1⟩ := hq
  refine lv_istore C.1 C.2.1 dL_law_1723 hl (by decide) rfl (fun ls1 hl1 => ?_)
  have hl1 : lv_has ls1 7 [(5, .int (nI r.1)), (0, .ref b), (1, .ref (E.1 0)), (2, .ref (E.1 84)), (3, .ref o), (4, .int (nI i))] := hl1
  refine lv_aload_n C.1 C.2.1 dL_law_1725 rfl (lv_at hl1 3 rfl) ?_
  refine l_sc (i := i) (k := 1) C.1 C.2.1 hX hbl hS1 (lv_at hl1 1 rfl) (lv_at hl1 5 rfl) dL_law_1726 dL_law_1727 dL_law_1729 (by decide +kernel) dL_law_1730 dL_law_1731 (by omega) hL ?_
  refine l_callV (md' := md_X12_listen) (As := [.int (xs (i + 1))]) (rest := []) (d' := 60) (a := 84) (Qm := fun w g' => ∃ b9, w = some (.int b9) ∧ MR g' r.2.2 ∧ LF g1 g' ∧ g' 84 2 = nI r.1 ∧ (r.1 = 0 → b9 = r.2.1)) (Xm := fun _ _ => False) C hP1 hS1 hl1.1 dL_law_1732 ll_204 lm_X12_listen lv_X12_listen rfl (by decide) rfl rfl rfl (Nat.le_of_ble_eq_true rfl) (by show 60 + 1 ≤ 2048; decide) (by show 8 + (5 + 11) + 128 * 60 ≤ 84000; decide) (by show cells + 1 + 0 ≤ 601024; omega) (by show slots + 6 * 1 + 6 * 0 ≤ 7293034; omega) (n_listen (hM.hf hF1) hO (by rw [hr]; exact fun h b9 h1 h2 h3 h4 => ⟨b9, rfl, h1, h2, h3, h4⟩)) (fun w g2 hw H2 locs2 hP2 hS2 => ?_) (fun Ex g2 hx => hx.elim)
  obtain ⟨b9, rfl, hM2, hF2, h84, hb9⟩ := hw
  refine W.eq (g2 := F0 m 1735 ls1 [.int b9]) rfl ?_
  refine lv_istore C.1 C.2.1 dL_law_1735 hl1 (by decide) rfl (fun ls2 hl2 => ?_)
  have hl2 : lv_has ls2 7 [(6, .int b9), (5, .int (nI r.1)), (0, .ref b), (1, .ref (E.1 0)), (2, .ref (E.1 84)), (3, .ref o), (4, .int (nI i))] := hl2
  refine lv_aload_n C.1 C.2.1 dL_law_1737 rfl (lv_at hl2 4 rfl) ?_
  refine l_callV (md' := md_X12_thrown) (As := []) (rest := []) (d' := 60) (a := 84) (Qm := fun w g' => w = some (.int (nI r.1)) ∧ g' = g2) (Xm := fun _ _ => False) C hP2 hS2 hl2.1 dL_law_1738 ll_102 lm_X12_thrown lv_X12_thrown rfl (by decide) rfl rfl rfl (Nat.le_of_ble_eq_true rfl) (by show 60 + 1 ≤ 2048; decide) (by show 8 + (1 + 11) + 128 * 60 ≤ 84000; decide) (by show cells + 1 + 0 + 0 ≤ 601024; omega) (by show slots + 6 * 1 + 6 * 0 + 6 * 0 ≤ 7293034; omega) (c_X12_thrown ⟨by rw [h84], rfl⟩) (fun w g3 hw H3 locs3 hP3 hS3 => ?_) (fun Ex g3 hx => hx.elim)
  obtain ⟨rfl, rfl⟩ := hw
  refine W.eq (g2 := F0 m 1741 ls2 [.int (nI r.1)]) rfl ?_
  refine lv_iload C.1 C.2.1 dL_law_1741 (lv_at hl2 1 rfl) ?_
  refine lv_icmp_eq (tgt := 1748) C.1 C.2.1 dL_law_1743 (by decide) (fun _ => ?_) (fun q => absurd rfl q)
  refine lv_iload C.1 C.2.1 dL_law_1748 (lv_at hl2 1 rfl) ?_
  have fin : W p l e room_1 s m #[Value.ref b] below meth c H3 locs3 (cells + 1 + 0 + 0) (slots + 6 * 1 + 6 * 0 + 6 * 0) Q (F0 m 1765 ls2 []) := by
    refine lv_goto (tgt := 1976) C.1 C.2.1 dL_law_1765 (by decide) ?_
    refine W.widen (k := cells + 4) (n := slots + 24) (by show cells + 1 + 0 + 0 ≤ cells + 4; omega) (by show slots + 6 * 1 + 6 * 0 + 6 * 0 ≤ slots + 24; omega) ?_
    exact kn r.2.2 g3 v1 H3 locs3 ls2 hP3 hS3 (hC1.lf hF2) hM2 hO2 (lv_sub hl2 [2, 3, 4, 5, 6] rfl)
  refine lv_if_ne (tgt := 1765) C.1 C.2.1 dL_law_1750 (by decide) (fun _ => fin) (fun hz => ?_)
  have r0 : r.1 = 0 := nI_inj (b := 0) (by omega) (by decide) hz
  refine lv_aload_n C.1 C.2.1 dL_law_1753 rfl (lv_at hl2 5 rfl) ?_
  refine lv_iconst (v := 0) C.1 C.2.1 dL_law_1754 (by decide +kernel) ?_
  refine va_lald (D := E.2.1) C.1 C.2.1 C.2.2.2.2.2.1 hP3 NID 3 (wlo_o (E := E) (g := g3) (o := o) (cL := cL) (v := v1)) rfl (by unfold vp_in; decide +kernel) dL_law_1755 ?_
  rw [show (0 : Int32).toNatClampNeg = 0 from rfl, hv1 r0]
  refine lv_iload C.1 C.2.1 dL_law_1756 (lv_at hl2 0 rfl) ?_
  rw [hb9 r0]
  refine lv_i2l C.1 C.2.1 dL_law_1758 rfl ?_
  refine W.lcmp C.1 C.2.1 dL_law_1759 ?_
  rw [lg_same]
  refine lv_if_eq (tgt := 1765) C.1 C.2.1 dL_law_1760 (by decide) (fun _ => fin) (fun q => absurd rfl q)
theorem z_vote {E : En} {o : Nat} {cL : ClassId} {p : Program} {l : Launch} {e : Env} {s : State} {m : MethodId} {below : List Frame} {meth : Method} {c : Code} {H : Heap} {locs : List Loc} {cells slots : Nat} {Q : State → Prop} {ls : Array Slot} {g : G2} {v : Nat → Int64} {b L i : Nat} {xs : Nat → Int32} {σ : WS} (C : LXw E o cL (Alw s) p l s m #[Value.ref b] c cL_law 7) (hX : va_X b L xs s s.heap) (hbl : b < s.heap.size) (hL : L ≤ 3072) (hi : i + 5 < L) (hP : LPw E o cL g v H) (hS : va_S (Alw s) s.heap H locs) (hC : CR g σ) (hM : MR g σ) (hO : OKs σ) (hl : lv_has ls 7 (lawlv E b o i)) (hcl : cells + 4 ≤ 601024) (hsl : slots + 24 ≤ 7293034) (kn : LNx E o cL b p l e s m below meth c Q (cells + 4) (slots + 24) i) : W p l e room_1 s m #[Value.ref b] below meth c H locs cells slots Q (F0 m 1779 ls []) := by
  have hl : lv_has ls 7 [(0, .ref b), (1, .ref (E.1 0)), (2, .ref (E.1 84)), (3, .ref o), (4, .int (nI i))] := hl
  obtain ⟨r, hr⟩ : ∃ r : OR, ((0, voM σ.T (f_S σ.F) (t_n σ.T), σ) : OR) = r := ⟨_, rfl⟩
  have hO2 : OKs r.2.2 := by rw [← hr]; exact hO
  have r0 : r.1 = 0 := by rw [← hr]
  refine lv_aload_n C.1 C.2.1 dL_law_1779 rfl (lv_at hl 1 rfl) ?_
  refine l_callV (md' := md_X11_vote) (As := []) (rest := []) (d' := 60) (a := 0) (Qm := fun w g' => w = some (.int r.2.1) ∧ CR g' r.2.2 ∧ HF g g') (Xm := fun _ _ => False) C hP hS hl.1 dL_law_1780 ll_209 lm_X11_vote lv_X11_vote rfl (by decide) rfl rfl rfl (Nat.le_of_ble_eq_true rfl) (by show 60 + 1 ≤ 2048; decide) (by show 8 + (7 + 11) + 128 * 60 ≤ 84000; decide) (by show cells + 0 ≤ 601024; omega) (by show slots + 6 * 0 ≤ 7293034; omega) (k_vote hC hO (by rw [← hr]; exact ⟨rfl, hC, fun _ _ => rfl⟩)) (fun w g1 hw H1 locs1 hP1 hS1 => ?_) (fun Ex g1 hx => hx.elim)
  obtain ⟨rfl, hC1, hF1⟩ := hw
  refine W.eq (g2 := F0 m 1783 ls [.int r.2.1]) rfl ?_
  refine lv_aload_n C.1 C.2.1 dL_law_1783 rfl (lv_at hl 2 rfl) ?_
  refine l_callV (md' := md_X12_vote) (As := []) (rest := [.int r.2.1]) (d' := 60) (a := 84) (Qm := fun w g' => w = some (.int r.2.1) ∧ MR g' r.2.2 ∧ LF g1 g') (Xm := fun _ _ => False) C hP1 hS1 hl.1 dL_law_1784 ll_212 lm_X12_vote lv_X12_vote rfl (by decide) rfl rfl rfl (Nat.le_of_ble_eq_true rfl) (by show 60 + 1 ≤ 2048; decide) (by show 8 + (3 + 11) + 128 * 60 ≤ 84000; decide) (by show cells + 0 + 0 ≤ 601024; omega) (by show slots + 6 * 0 + 6 * 0 ≤ 7293034; omega) (n_vote (hM.hf hF1) hO (fun h a b => by rw [← hr]; exact ⟨rfl, a, b⟩)) (fun w g2 hw H2 locs2 hP2 hS2 => ?_) (fun Ex g2 hx => hx.elim)
  obtain ⟨rfl, hM2, hF2⟩ := hw
  refine W.eq (g2 := F0 m 1787 ls [.int r.2.1, .int r.2.1]) rfl ?_
  refine lv_icmp_eq (tgt := 1976) C.1 C.2.1 dL_law_1787 (by decide) (fun _ => ?_) (fun q => absurd rfl q)
  refine W.widen (k := cells + 4) (n := slots + 24) (by show cells + 0 + 0 ≤ cells + 4; omega) (by show slots + 6 * 0 + 6 * 0 ≤ slots + 24; omega) ?_
  exact kn r.2.2 g2 v H2 locs2 ls hP2 hS2 (hC1.lf hF2) hM2 hO2 (lv_sub hl [0, 1, 2, 3, 4] rfl)
theorem z_game {E : En} {o : Nat} {cL : ClassId} {p : Program} {l : Launch} {e : Env} {s : State} {m : MethodId} {below : List Frame} {meth : Method} {c : Code} {H : Heap} {locs : List Loc} {cells slots : Nat} {Q : State → Prop} {ls : Array Slot} {g : G2} {v : Nat → Int64} {b L i : Nat} {xs : Nat → Int32} {σ : WS} (C : LXw E o cL (Alw s) p l s m #[Value.ref b] c cL_law 7) (hX : va_X b L xs s s.heap) (hbl : b < s.heap.size) (hL : L ≤ 3072) (hi : i + 5 < L) (hP : LPw E o cL g v H) (hS : va_S (Alw s) s.heap H locs) (hC : CR g σ) (hM : MR g σ) (hO : OKs σ) (hl : lv_has ls 7 (lawlv E b o i)) (hcl : cells + 4 ≤ 601024) (hsl : slots + 24 ≤ 7293034) (kn : LNx E o cL b p l e s m below meth c Q (cells + 4) (slots + 24) i) : W p l e room_1 s m #[Value.ref b] below meth c H locs cells slots Q (F0 m 1792 ls []) := by
  have hl : lv_has ls 7 [(0, .ref b), (1, .ref (E.1 0)), (2, .ref (E.1 84)), (3, .ref o), (4, .int (nI i))] := hl
  obtain ⟨r, hr⟩ : ∃ r : OR, q1 σ (gamM σ.T (f_S σ.F) (xs (i + 1)) (xs (i + 2)) (xs (i + 3))) = r := ⟨_, rfl⟩
  have hO2 : OKs r.2.2 := by rw [← hr]; exact hO
  refine lv_aload_n C.1 C.2.1 dL_law_1792 rfl (lv_at hl 1 rfl) ?_
  refine l_sc (i := i) (k := 1) C.1 C.2.1 hX hbl hS (lv_at hl 0 rfl) (lv_at hl 4 rfl) dL_law_1793 dL_law_1794 dL_law_1796 (by decide +kernel) dL_law_1797 dL_law_1798 (by omega) hL ?_
  refine l_sc (i := i) (k := 2) C.1 C.2.1 hX hbl hS (lv_at hl 0 rfl) (lv_at hl 4 rfl) dL_law_1799 dL_law_1800 dL_law_1802 (by decide +kernel) dL_law_1803 dL_law_1804 (by omega) hL ?_
  refine l_sc (i := i) (k := 3) C.1 C.2.1 hX hbl hS (lv_at hl 0 rfl) (lv_at hl 4 rfl) dL_law_1805 dL_law_1806 dL_law_1808 (by decide +kernel) dL_law_1809 dL_law_1810 (by omega) hL ?_
  refine lv_aload_n C.1 C.2.1 dL_law_1811 rfl (lv_at hl 3 rfl) ?_
  refine l_callW (n := 5) (w := wd_game) (As := [.ref 0, .int (xs (i + 1)), .int (xs (i + 2)), .int (xs (i + 3))]) (rest := []) (d' := 60) (Qw := fun k g' v' => k = nI r.1 ∧ CR g' r.2.2 ∧ HF g g' ∧ r.1 ≤ 2 ∧ (r.1 = 0 → v' 0 = r.2.1.toInt64)) C hP hS hl.1 dL_law_1812 ll_213 wl_k_game wl_ini wl_s_game (by decide) (by decide +kernel) rfl rfl (Nat.le_of_ble_eq_true rfl) (by show 60 + 1 ≤ 2048; decide) (by show 8 + (6 + 11) + 128 * 60 ≤ 84000; decide) (by show cells + 2 ≤ 601024; omega) (by show slots + 6 * 2 ≤ 7293034; omega) (w_game hC hO (by rw [hr]; exact fun g' v' h1 h2 h3 h4 => ⟨rfl, h1, h2, h3, h4⟩)) (fun k g1 v1 hq H1 locs1 hP1 hS1 => ?_)
  obtain ⟨rfl, hC1, hF1, hle, hv1⟩ := hq
  refine lv_istore C.1 C.2.1 dL_law_1815 hl (by decide) rfl (fun ls1 hl1 => ?_)
  have hl1 : lv_has ls1 7 [(5, .int (nI r.1)), (0, .ref b), (1, .ref (E.1 0)), (2, .ref (E.1 84)), (3, .ref o), (4, .int (nI i))] := hl1
  refine lv_aload_n C.1 C.2.1 dL_law_1817 rfl (lv_at hl1 3 rfl) ?_
  refine l_sc (i := i) (k := 1) C.1 C.2.1 hX hbl hS1 (lv_at hl1 1 rfl) (lv_at hl1 5 rfl) dL_law_1818 dL_law_1819 dL_law_1821 (by decide +kernel) dL_law_1822 dL_law_1823 (by omega) hL ?_
  refine l_sc (i := i) (k := 2) C.1 C.2.1 hX hbl hS1 (lv_at hl1 1 rfl) (lv_at hl1 5 rfl) dL_law_1824 dL_law_1825 dL_law_1827 (by decide +kernel) dL_law_1828 dL_law_1829 (by omega) hL ?_
  refine l_sc (i := i) (k := 3) C.1 C.2.1 hX hbl hS1 (lv_at hl1 1 rfl) (lv_at hl1 5 rfl) dL_law_1830 dL_law_1831 dL_law_1833 (by decide +kernel) dL_law_1834 dL_law_1835 (by omega) hL ?_
  refine l_callV (md' := md_X12_game) (As := [.int (xs (i + 1)), .int (xs (i + 2)), .int (xs (i + 3))]) (rest := []) (d' := 60) (a := 84) (Qm := fun w g' => ∃ b9, w = some (.int b9) ∧ MR g' r.2.2 ∧ LF g1 g' ∧ g' 84 2 = nI r.1 ∧ (r.1 = 0 → b9 = r.2.1)) (Xm := fun _ _ => False) C hP1 hS1 hl1.1 dL_law_1836 ll_215 lm_X12_game lv_X12_game rfl (by decide) rfl rfl rfl (Nat.le_of_ble_eq_true rfl) (by show 60 + 1 ≤ 2048; decide) (by show 8 + (8 + 11) + 128 * 60 ≤ 84000; decide) (by show cells + 2 + 0 ≤ 601024; omega) (by show slots + 6 * 2 + 6 * 0 ≤ 7293034; omega) (n_game (hM.hf hF1) hO (by rw [hr]; exact fun h b9 h1 h2 h3 h4 => ⟨b9, rfl, h1, h2, h3, h4⟩)) (fun w g2 hw H2 locs2 hP2 hS2 => ?_) (fun Ex g2 hx => hx.elim)
  obtain ⟨b9, rfl, hM2, hF2, h84, hb9⟩ := hw
  refine W.eq (g2 := F0 m 1839 ls1 [.int b9]) rfl ?_
  refine lv_istore C.1 C.2.1 dL_law_1839 hl1 (by decide) rfl (fun ls2 hl2 => ?_)
  have hl2 : lv_has ls2 7 [(6, .int b9), (5, .int (nI r.1)), (0, .ref b), (1, .ref (E.1 0)), (2, .ref (E.1 84)), (3, .ref o), (4, .int (nI i))] := hl2
  refine lv_aload_n C.1 C.2.1 dL_law_1841 rfl (lv_at hl2 4 rfl) ?_
  refine l_callV (md' := md_X12_thrown) (As := []) (rest := []) (d' := 60) (a := 84) (Qm := fun w g' => w = some (.int (nI r.1)) ∧ g' = g2) (Xm := fun _ _ => False) C hP2 hS2 hl2.1 dL_law_1842 ll_102 lm_X12_thrown lv_X12_thrown rfl (by decide) rfl rfl rfl (Nat.le_of_ble_eq_true rfl) (by show 60 + 1 ≤ 2048; decide) (by show 8 + (1 + 11) + 128 * 60 ≤ 84000; decide) (by show cells + 2 + 0 + 0 ≤ 601024; omega) (by show slots + 6 * 2 + 6 * 0 + 6 * 0 ≤ 7293034; omega) (c_X12_thrown ⟨by rw [h84], rfl⟩) (fun w g3 hw H3 locs3 hP3 hS3 => ?_) (fun Ex g3 hx => hx.elim)
  obtain ⟨rfl, rfl⟩ := hw
  refine W.eq (g2 := F0 m 1845 ls2 [.int (nI r.1)]) rfl ?_
  refine lv_iload C.1 C.2.1 dL_law_1845 (lv_at hl2 1 rfl) ?_
  refine lv_icmp_eq (tgt := 1852) C.1 C.2.1 dL_law_1847 (by decide) (fun _ => ?_) (fun q => absurd rfl q)
  refine lv_iload C.1 C.2.1 dL_law_1852 (lv_at hl2 1 rfl) ?_
  have fin : W p l e room_1 s m #[Value.ref b] below meth c H3 locs3 (cells + 2 + 0 + 0) (slots + 6 * 2 + 6 * 0 + 6 * 0) Q (F0 m 1869 ls2 []) := by
    refine lv_goto (tgt := 1976) C.1 C.2.1 dL_law_1869 (by decide) ?_
    refine W.widen (k := cells + 4) (n := slots + 24) (by show cells + 2 + 0 + 0 ≤ cells + 4; omega) (by show slots + 6 * 2 + 6 * 0 + 6 * 0 ≤ slots + 24; omega) ?_
    exact kn r.2.2 g3 v1 H3 locs3 ls2 hP3 hS3 (hC1.lf hF2) hM2 hO2 (lv_sub hl2 [2, 3, 4, 5, 6] rfl)
  refine lv_if_ne (tgt := 1869) C.1 C.2.1 dL_law_1854 (by decide) (fun _ => fin) (fun hz => ?_)
  have r0 : r.1 = 0 := nI_inj (b := 0) (by omega) (by decide) hz
  refine lv_aload_n C.1 C.2.1 dL_law_1857 rfl (lv_at hl2 5 rfl) ?_
  refine lv_iconst (v := 0) C.1 C.2.1 dL_law_1858 (by decide +kernel) ?_
  refine va_lald (D := E.2.1) C.1 C.2.1 C.2.2.2.2.2.1 hP3 NID 3 (wlo_o (E := E) (g := g3) (o := o) (cL := cL) (v := v1)) rfl (by unfold vp_in; decide +kernel) dL_law_1859 ?_
  rw [show (0 : Int32).toNatClampNeg = 0 from rfl, hv1 r0]
  refine lv_iload C.1 C.2.1 dL_law_1860 (lv_at hl2 0 rfl) ?_
  rw [hb9 r0]
  refine lv_i2l C.1 C.2.1 dL_law_1862 rfl ?_
  refine W.lcmp C.1 C.2.1 dL_law_1863 ?_
  rw [lg_same]
  refine lv_if_eq (tgt := 1869) C.1 C.2.1 dL_law_1864 (by decide) (fun _ => fin) (fun q => absurd rfl q)
theorem z_century {E : En} {o : Nat} {cL : ClassId} {p : Program} {l : Launch} {e : Env} {s : State} {m : MethodId} {below : List Frame} {meth : Method} {c : Code} {H : Heap} {locs : List Loc} {cells slots : Nat} {Q : State → Prop} {ls : Array Slot} {g : G2} {v : Nat → Int64} {b L i : Nat} {xs : Nat → Int32} {σ : WS} (C : LXw E o cL (Alw s) p l s m #[Value.ref b] c cL_law 7) (hX : va_X b L xs s s.heap) (hbl : b < s.heap.size) (hL : L ≤ 3072) (hi : i + 5 < L) (hP : LPw E o cL g v H) (hS : va_S (Alw s) s.heap H locs) (hC : CR g σ) (hM : MR g σ) (hO : OKs σ) (hl : lv_has ls 7 (lawlv E b o i)) (hcl : cells + 4 ≤ 601024) (hsl : slots + 24 ≤ 7293034) (kn : LNx E o cL b p l e s m below meth c Q (cells + 4) (slots + 24) i) : W p l e room_1 s m #[Value.ref b] below meth c H locs cells slots Q (F0 m 1872 ls []) := by
  have hl : lv_has ls 7 [(0, .ref b), (1, .ref (E.1 0)), (2, .ref (E.1 84)), (3, .ref o), (4, .int (nI i))] := hl
  obtain ⟨r, hr⟩ : ∃ r : OR, q1 σ (cenM σ.T (f_S σ.F) (xs (i + 1)) (xs (i + 2)) (xs (i + 3))) = r := ⟨_, rfl⟩
  have hO2 : OKs r.2.2 := by rw [← hr]; exact hO
  refine lv_aload_n C.1 C.2.1 dL_law_1872 rfl (lv_at hl 1 rfl) ?_
  refine l_sc (i := i) (k := 1) C.1 C.2.1 hX hbl hS (lv_at hl 0 rfl) (lv_at hl 4 rfl) dL_law_1873 dL_law_1874 dL_law_1876 (by decide +kernel) dL_law_1877 dL_law_1878 (by omega) hL ?_
  refine l_sc (i := i) (k := 2) C.1 C.2.1 hX hbl hS (lv_at hl 0 rfl) (lv_at hl 4 rfl) dL_law_1879 dL_law_1880 dL_law_1882 (by decide +kernel) dL_law_1883 dL_law_1884 (by omega) hL ?_
  refine l_sc (i := i) (k := 3) C.1 C.2.1 hX hbl hS (lv_at hl 0 rfl) (lv_at hl 4 rfl) dL_law_1885 dL_law_1886 dL_law_1888 (by decide +kernel) dL_law_1889 dL_law_1890 (by omega) hL ?_
  refine lv_aload_n C.1 C.2.1 dL_law_1891 rfl (lv_at hl 3 rfl) ?_
  refine l_callW (n := 5) (w := wd_century) (As := [.ref 0, .int (xs (i + 1)), .int (xs (i + 2)), .int (xs (i + 3))]) (rest := []) (d' := 60) (Qw := fun k g' v' => k = nI r.1 ∧ CR g' r.2.2 ∧ HF g g' ∧ r.1 ≤ 2 ∧ (r.1 = 0 → v' 0 = r.2.1.toInt64)) C hP hS hl.1 dL_law_1892 ll_216 wl_k_century wl_ini wl_s_century (by decide) (by decide +kernel) rfl rfl (Nat.le_of_ble_eq_true rfl) (by show 60 + 1 ≤ 2048; decide) (by show 8 + (6 + 11) + 128 * 60 ≤ 84000; decide) (by show cells + 2 ≤ 601024; omega) (by show slots + 6 * 2 ≤ 7293034; omega) (w_century hC hO (by rw [hr]; exact fun g' v' h1 h2 h3 h4 => ⟨rfl, h1, h2, h3, h4⟩)) (fun k g1 v1 hq H1 locs1 hP1 hS1 => ?_)
  obtain ⟨rfl, hC1, hF1, hle, hv1⟩ := hq
  refine lv_istore C.1 C.2.1 dL_law_1895 hl (by decide) rfl (fun ls1 hl1 => ?_)
  have hl1 : lv_has ls1 7 [(5, .int (nI r.1)), (0, .ref b), (1, .ref (E.1 0)), (2, .ref (E.1 84)), (3, .ref o), (4, .int (nI i))] := hl1
  refine lv_aload_n C.1 C.2.1 dL_law_1897 rfl (lv_at hl1 3 rfl) ?_
  refine l_sc (i := i) (k := 1) C.1 C.2.1 hX hbl hS1 (lv_at hl1 1 rfl) (lv_at hl1 5 rfl) dL_law_1898 dL_law_1899 dL_law_1901 (by decide +kernel) dL_law_1902 dL_law_1903 (by omega) hL ?_
  refine l_sc (i := i) (k := 2) C.1 C.2.1 hX hbl hS1 (lv_at hl1 1 rfl) (lv_at hl1 5 rfl) dL_law_1904 dL_law_1905 dL_law_1907 (by decide +kernel) dL_law_1908 dL_law_1909 (by omega) hL ?_
  refine l_sc (i := i) (k := 3) C.1 C.2.1 hX hbl hS1 (lv_at hl1 1 rfl) (lv_at hl1 5 rfl) dL_law_1910 dL_law_1911 dL_law_1913 (by decide +kernel) dL_law_1914 dL_law_1915 (by omega) hL ?_
  refine l_callV (md' := md_X12_century) (As := [.int (xs (i + 1)), .int (xs (i + 2)), .int (xs (i + 3))]) (rest := []) (d' := 60) (a := 84) (Qm := fun w g' => ∃ b9, w = some (.int b9) ∧ MR g' r.2.2 ∧ LF g1 g' ∧ g' 84 2 = nI r.1 ∧ (r.1 = 0 → b9 = r.2.1)) (Xm := fun _ _ => False) C hP1 hS1 hl1.1 dL_law_1916 ll_218 lm_X12_century lv_X12_century rfl (by decide) rfl rfl rfl (Nat.le_of_ble_eq_true rfl) (by show 60 + 1 ≤ 2048; decide) (by show 8 + (5 + 11) + 128 * 60 ≤ 84000; decide) (by show cells + 2 + 0 ≤ 601024; omega) (by show slots + 6 * 2 + 6 * 0 ≤ 7293034; omega) (n_century (hM.hf hF1) hO (by rw [hr]; exact fun h b9 h1 h2 h3 h4 => ⟨b9, rfl, h1, h2, h3, h4⟩)) (fun w g2 hw H2 locs2 hP2 hS2 => ?_) (fun Ex g2 hx => hx.elim)
  obtain ⟨b9, rfl, hM2, hF2, h84, hb9⟩ := hw
  refine W.eq (g2 := F0 m 1919 ls1 [.int b9]) rfl ?_
  refine lv_istore C.1 C.2.1 dL_law_1919 hl1 (by decide) rfl (fun ls2 hl2 => ?_)
  have hl2 : lv_has ls2 7 [(6, .int b9), (5, .int (nI r.1)), (0, .ref b), (1, .ref (E.1 0)), (2, .ref (E.1 84)), (3, .ref o), (4, .int (nI i))] := hl2
  refine lv_aload_n C.1 C.2.1 dL_law_1921 rfl (lv_at hl2 4 rfl) ?_
  refine l_callV (md' := md_X12_thrown) (As := []) (rest := []) (d' := 60) (a := 84) (Qm := fun w g' => w = some (.int (nI r.1)) ∧ g' = g2) (Xm := fun _ _ => False) C hP2 hS2 hl2.1 dL_law_1922 ll_102 lm_X12_thrown lv_X12_thrown rfl (by decide) rfl rfl rfl (Nat.le_of_ble_eq_true rfl) (by show 60 + 1 ≤ 2048; decide) (by show 8 + (1 + 11) + 128 * 60 ≤ 84000; decide) (by show cells + 2 + 0 + 0 ≤ 601024; omega) (by show slots + 6 * 2 + 6 * 0 + 6 * 0 ≤ 7293034; omega) (c_X12_thrown ⟨by rw [h84], rfl⟩) (fun w g3 hw H3 locs3 hP3 hS3 => ?_) (fun Ex g3 hx => hx.elim)
  obtain ⟨rfl, rfl⟩ := hw
  refine W.eq (g2 := F0 m 1925 ls2 [.int (nI r.1)]) rfl ?_
  refine lv_iload C.1 C.2.1 dL_law_1925 (lv_at hl2 1 rfl) ?_
  refine lv_icmp_eq (tgt := 1932) C.1 C.2.1 dL_law_1927 (by decide) (fun _ => ?_) (fun q => absurd rfl q)
  refine lv_iload C.1 C.2.1 dL_law_1932 (lv_at hl2 1 rfl) ?_
  have fin : W p l e room_1 s m #[Value.ref b] below meth c H3 locs3 (cells + 2 + 0 + 0) (slots + 6 * 2 + 6 * 0 + 6 * 0) Q (F0 m 1949 ls2 []) := by
    refine lv_goto (tgt := 1976) C.1 C.2.1 dL_law_1949 (by decide) ?_
    refine W.widen (k := cells + 4) (n := slots + 24) (by show cells + 2 + 0 + 0 ≤ cells + 4; omega) (by show slots + 6 * 2 + 6 * 0 + 6 * 0 ≤ slots + 24; omega) ?_
    exact kn r.2.2 g3 v1 H3 locs3 ls2 hP3 hS3 (hC1.lf hF2) hM2 hO2 (lv_sub hl2 [2, 3, 4, 5, 6] rfl)
  refine lv_if_ne (tgt := 1949) C.1 C.2.1 dL_law_1934 (by decide) (fun _ => fin) (fun hz => ?_)
  have r0 : r.1 = 0 := nI_inj (b := 0) (by omega) (by decide) hz
  refine lv_aload_n C.1 C.2.1 dL_law_1937 rfl (lv_at hl2 5 rfl) ?_
  refine lv_iconst (v := 0) C.1 C.2.1 dL_law_1938 (by decide +kernel) ?_
  refine va_lald (D := E.2.1) C.1 C.2.1 C.2.2.2.2.2.1 hP3 NID 3 (wlo_o (E := E) (g := g3) (o := o) (cL := cL) (v := v1)) rfl (by unfold vp_in; decide +kernel) dL_law_1939 ?_
  rw [show (0 : Int32).toNatClampNeg = 0 from rfl, hv1 r0]
  refine lv_iload C.1 C.2.1 dL_law_1940 (lv_at hl2 0 rfl) ?_
  rw [hb9 r0]
  refine lv_i2l C.1 C.2.1 dL_law_1942 rfl ?_
  refine W.lcmp C.1 C.2.1 dL_law_1943 ?_
  rw [lg_same]
  refine lv_if_eq (tgt := 1949) C.1 C.2.1 dL_law_1944 (by decide) (fun _ => fin) (fun q => absurd rfl q)
theorem z_image {E : En} {o : Nat} {cL : ClassId} {p : Program} {l : Launch} {e : Env} {s : State} {m : MethodId} {below : List Frame} {meth : Method} {c : Code} {H : Heap} {locs : List Loc} {cells slots : Nat} {Q : State → Prop} {ls : Array Slot} {g : G2} {v : Nat → Int64} {b L i : Nat} {xs : Nat → Int32} {σ : WS} (C : LXw E o cL (Alw s) p l s m #[Value.ref b] c cL_law 7) (hX : va_X b L xs s s.heap) (hbl : b < s.heap.size) (hL : L ≤ 3072) (hi : i + 5 < L) (hP : LPw E o cL g v H) (hS : va_S (Alw s) s.heap H locs) (hC : CR g σ) (hM : MR g σ) (hO : OKs σ) (hl : lv_has ls 7 (lawlv E b o i)) (hcl : cells + 4 ≤ 601024) (hsl : slots + 24 ≤ 7293034) (kn : LNx E o cL b p l e s m below meth c Q (cells + 4) (slots + 24) i) : W p l e room_1 s m #[Value.ref b] below meth c H locs cells slots Q (F0 m 1952 ls []) := by
  have hl : lv_has ls 7 [(0, .ref b), (1, .ref (E.1 0)), (2, .ref (E.1 84)), (3, .ref o), (4, .int (nI i))] := hl
  have hO2 : OKs (imgS σ) := ok_image hO
  refine lv_aload_n C.1 C.2.1 dL_law_1952 rfl (lv_at hl 1 rfl) ?_
  refine l_callV (md' := md_X11_image) (As := []) (rest := []) (d' := 60) (a := 0) (Qm := fun w g' => w = none ∧ CR g' (imgS σ) ∧ HF g g') (Xm := fun _ _ => False) C hP hS hl.1 dL_law_1953 ll_219 lm_X11_image lv_X11_image rfl (by decide) rfl rfl rfl (Nat.le_of_ble_eq_true rfl) (by show 60 + 1 ≤ 2048; decide) (by show 8 + (1 + 11) + 128 * 60 ≤ 84000; decide) (by show cells + 0 ≤ 601024; omega) (by show slots + 6 * 0 ≤ 7293034; omega) (k_image hC hO (fun h a b => ⟨rfl, a, b⟩)) (fun w g1 hw H1 locs1 hP1 hS1 => ?_) (fun Ex g1 hx => hx.elim)
  obtain ⟨rfl, hC1, hF1⟩ := hw
  refine W.eq (g2 := F0 m 1956 ls []) rfl ?_
  refine lv_aload_n C.1 C.2.1 dL_law_1956 rfl (lv_at hl 2 rfl) ?_
  refine l_callV (md' := md_X12_image) (As := []) (rest := []) (d' := 60) (a := 84) (Qm := fun w g' => w = none ∧ MR g' (imgS σ) ∧ LF g1 g') (Xm := fun _ _ => False) C hP1 hS1 hl.1 dL_law_1957 ll_222 lm_X12_image lv_X12_image rfl (by decide) rfl rfl rfl (Nat.le_of_ble_eq_true rfl) (by show 60 + 1 ≤ 2048; decide) (by show 8 + (1 + 11) + 128 * 60 ≤ 84000; decide) (by show cells + 0 + 0 ≤ 601024; omega) (by show slots + 6 * 0 + 6 * 0 ≤ 7293034; omega) (n_image (hM.hf hF1) hO (fun h a b => ⟨rfl, a, b⟩)) (fun w g2 hw H2 locs2 hP2 hS2 => ?_) (fun Ex g2 hx => hx.elim)
  obtain ⟨rfl, hM2, hF2⟩ := hw
  refine W.eq (g2 := F0 m 1960 ls []) rfl ?_
  refine lv_goto (tgt := 1976) C.1 C.2.1 dL_law_1960 (by decide) ?_
  refine W.widen (k := cells + 4) (n := slots + 24) (by show cells + 0 + 0 ≤ cells + 4; omega) (by show slots + 6 * 0 + 6 * 0 ≤ slots + 24; omega) ?_
  exact kn (imgS σ) g2 v H2 locs2 ls hP2 hS2 (hC1.lf hF2) hM2 hO2 (lv_sub hl [0, 1, 2, 3, 4] rfl)
theorem z_restore {E : En} {o : Nat} {cL : ClassId} {p : Program} {l : Launch} {e : Env} {s : State} {m : MethodId} {below : List Frame} {meth : Method} {c : Code} {H : Heap} {locs : List Loc} {cells slots : Nat} {Q : State → Prop} {ls : Array Slot} {g : G2} {v : Nat → Int64} {b L i : Nat} {xs : Nat → Int32} {σ : WS} (C : LXw E o cL (Alw s) p l s m #[Value.ref b] c cL_law 7) (hX : va_X b L xs s s.heap) (hbl : b < s.heap.size) (hL : L ≤ 3072) (hi : i + 5 < L) (hP : LPw E o cL g v H) (hS : va_S (Alw s) s.heap H locs) (hC : CR g σ) (hM : MR g σ) (hO : OKs σ) (hl : lv_has ls 7 (lawlv E b o i)) (hcl : cells + 4 ≤ 601024) (hsl : slots + 24 ≤ 7293034) (kn : LNx E o cL b p l e s m below meth c Q (cells + 4) (slots + 24) i) : W p l e room_1 s m #[Value.ref b] below meth c H locs cells slots Q (F0 m 1963 ls []) := by
  have hl : lv_has ls 7 [(0, .ref b), (1, .ref (E.1 0)), (2, .ref (E.1 84)), (3, .ref o), (4, .int (nI i))] := hl
  obtain ⟨r, hr⟩ : ∃ r : OR, resO σ = r := ⟨_, rfl⟩
  have hO2 : OKs r.2.2 := by rw [← hr]; exact ok_restore hO
  have r0 : r.1 = 0 := by rw [← hr]; exact z0_restore
  refine lv_aload_n C.1 C.2.1 dL_law_1963 rfl (lv_at hl 1 rfl) ?_
  refine l_callV (md' := md_X11_restore) (As := []) (rest := []) (d' := 60) (a := 0) (Qm := fun w g' => w = some (.int r.2.1) ∧ CR g' r.2.2 ∧ HF g g') (Xm := fun _ _ => False) C hP hS hl.1 dL_law_1964 ll_223 lm_X11_restore lv_X11_restore rfl (by decide) rfl rfl rfl (Nat.le_of_ble_eq_true rfl) (by show 60 + 1 ≤ 2048; decide) (by show 8 + (1 + 11) + 128 * 60 ≤ 84000; decide) (by show cells + 0 ≤ 601024; omega) (by show slots + 6 * 0 ≤ 7293034; omega) (k_restore hC hO (by rw [hr]; exact ⟨fun h a b _ => ⟨rfl, a, b⟩, fun h a b c => (by rw [r0] at c; cases c), fun h a b c => (by rw [r0] at c; cases c)⟩)) (fun w g1 hw H1 locs1 hP1 hS1 => ?_) (fun Ex g1 hx => hx.elim)
  obtain ⟨rfl, hC1, hF1⟩ := hw
  refine W.eq (g2 := F0 m 1967 ls [.int r.2.1]) rfl ?_
  refine lv_aload_n C.1 C.2.1 dL_law_1967 rfl (lv_at hl 2 rfl) ?_
  refine l_callV (md' := md_X12_restore) (As := []) (rest := [.int r.2.1]) (d' := 60) (a := 84) (Qm := fun w g' => w = some (.int r.2.1) ∧ MR g' r.2.2 ∧ LF g1 g') (Xm := fun _ _ => False) C hP1 hS1 hl.1 dL_law_1968 ll_227 lm_X12_restore lv_X12_restore rfl (by decide) rfl rfl rfl (Nat.le_of_ble_eq_true rfl) (by show 60 + 1 ≤ 2048; decide) (by show 8 + (1 + 11) + 128 * 60 ≤ 84000; decide) (by show cells + 0 + 0 ≤ 601024; omega) (by show slots + 6 * 0 + 6 * 0 ≤ 7293034; omega) (n_restore (hM.hf hF1) hO (by rw [hr]; exact fun h b9 h1 h2 h3 h4 => ⟨by rw [h4 r0], h1, h2⟩)) (fun w g2 hw H2 locs2 hP2 hS2 => ?_) (fun Ex g2 hx => hx.elim)
  obtain ⟨rfl, hM2, hF2⟩ := hw
  refine W.eq (g2 := F0 m 1971 ls [.int r.2.1, .int r.2.1]) rfl ?_
  refine lv_icmp_eq (tgt := 1976) C.1 C.2.1 dL_law_1971 (by decide) (fun _ => ?_) (fun q => absurd rfl q)
  refine W.widen (k := cells + 4) (n := slots + 24) (by show cells + 0 + 0 ≤ cells + 4; omega) (by show slots + 6 * 0 + 6 * 0 ≤ slots + 24; omega) ?_
  exact kn r.2.2 g2 v H2 locs2 ls hP2 hS2 (hC1.lf hF2) hM2 hO2 (lv_sub hl [0, 1, 2, 3, 4] rfl)
