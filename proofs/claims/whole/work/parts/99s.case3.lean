theorem z_undo {E : En} {o : Nat} {cL : ClassId} {p : Program} {l : Launch} {e : Env} {s : State} {m : MethodId} {below : List Frame} {meth : Method} {c : Code} {H : Heap} {locs : List Loc} {cells slots : Nat} {Q : State → Prop} {ls : Array Slot} {g : G2} {v : Nat → Int64} {b L i : Nat} {xs : Nat → Int32} {σ : WS} (C : LXw E o cL (Alw s) p l s m #[Value.ref b] c cL_law 7) (hX : va_X b L xs s s.heap) (hbl : b < s.heap.size) (hL : L ≤ 3072) (hi : i + 5 < L) (hP : LPw E o cL g v H) (hS : va_S (Alw s) s.heap H locs) (hC : CR g σ) (hM : MR g σ) (hO : OKs σ) (hl : lv_has ls 7 (lawlv E b o i)) (hcl : cells + 4 ≤ 601024) (hsl : slots + 24 ≤ 7293034) (kn : LNx E o cL b p l e s m below meth c Q (cells + 4) (slots + 24) i) : W p l e room_1 s m #[Value.ref b] below meth c H locs cells slots Q (F0 m 1002 ls []) := by
  have hl : lv_has ls 7 [(0, .ref b), (1, .ref (E.1 0)), (2, .ref (E.1 84)), (3, .ref o), (4, .int (nI i))] := hl
  obtain ⟨r, hr⟩ : ∃ r : OR, a1F σ (undM σ.F) = r := ⟨_, rfl⟩
  have hO2 : OKs r.2.2 := by rw [← hr]; exact ok_act hO hO.2.1.und
  have r0 : r.1 = 0 := by rw [← hr]; exact thr_undo
  refine lv_aload_n C.1 C.2.1 dL_law_1002 rfl (lv_at hl 1 rfl) ?_
  refine l_callV (md' := md_X11_undo) (As := []) (rest := []) (d' := 60) (a := 0) (Qm := fun w g' => w = some (.int r.2.1) ∧ CR g' r.2.2 ∧ HF g g') (Xm := fun _ _ => False) C hP hS hl.1 dL_law_1003 ll_147 lm_X11_undo lv_X11_undo rfl (by decide) rfl rfl rfl (Nat.le_of_ble_eq_true rfl) (by show 60 + 1 ≤ 2048; decide) (by show 8 + (1 + 11) + 128 * 60 ≤ 84000; decide) (by show cells + 0 ≤ 601024; omega) (by show slots + 6 * 0 ≤ 7293034; omega) (k_undo hC hO (by rw [hr]; exact ⟨fun h a b _ => ⟨rfl, a, b⟩, fun h a b c => (by rw [r0] at c; cases c), fun h a b c => (by rw [r0] at c; cases c)⟩)) (fun w g1 hw H1 locs1 hP1 hS1 => ?_) (fun Ex g1 hx => hx.elim)
  obtain ⟨rfl, hC1, hF1⟩ := hw
  refine W.eq (g2 := F0 m 1006 ls [.int r.2.1]) rfl ?_
  refine lv_aload_n C.1 C.2.1 dL_law_1006 rfl (lv_at hl 2 rfl) ?_
  refine l_callV (md' := md_X12_undo) (As := []) (rest := [.int r.2.1]) (d' := 60) (a := 84) (Qm := fun w g' => w = some (.int r.2.1) ∧ MR g' r.2.2 ∧ LF g1 g') (Xm := fun _ _ => False) C hP1 hS1 hl.1 dL_law_1007 ll_150 lm_X12_undo lv_X12_undo rfl (by decide) rfl rfl rfl (Nat.le_of_ble_eq_true rfl) (by show 60 + 1 ≤ 2048; decide) (by show 8 + (1 + 11) + 128 * 60 ≤ 84000; decide) (by show cells + 0 + 0 ≤ 601024; omega) (by show slots + 6 * 0 + 6 * 0 ≤ 7293034; omega) (n_undo (hM.hf hF1) hO (by rw [hr]; exact fun h b9 h1 h2 h3 h4 => ⟨by rw [h4 r0], h1, h2⟩)) (fun w g2 hw H2 locs2 hP2 hS2 => ?_) (fun Ex g2 hx => hx.elim)
  obtain ⟨rfl, hM2, hF2⟩ := hw
  refine W.eq (g2 := F0 m 1010 ls [.int r.2.1, .int r.2.1]) rfl ?_
  refine lv_icmp_eq (tgt := 1976) C.1 C.2.1 dL_law_1010 (by decide) (fun _ => ?_) (fun q => absurd rfl q)
  refine W.widen (k := cells + 4) (n := slots + 24) (by show cells + 0 + 0 ≤ cells + 4; omega) (by show slots + 6 * 0 + 6 * 0 ≤ slots + 24; omega) ?_
  exact kn r.2.2 g2 v H2 locs2 ls hP2 hS2 (hC1.lf hF2) hM2 hO2 (lv_sub hl [0, 1, 2, 3, 4] rfl)
theorem z_found {E : En} {o : Nat} {cL : ClassId} {p : Program} {l : Launch} {e : Env} {s : State} {m : MethodId} {below : List Frame} {meth : Method} {c : Code} {H : Heap} {locs : List Loc} {cells slots : Nat} {Q : State → Prop} {ls : Array Slot} {g : G2} {v : Nat → Int64} {b L i : Nat} {xs : Nat → Int32} {σ : WS} (C : LXw E o cL (Alw s) p l s m #[Value.ref b] c cL_law 7) (hX : va_X b L xs s s.heap) (hbl : b < s.heap.size) (hL : L ≤ 3072) (hi : i + 5 < L) (hP : LPw E o cL g v H) (hS : va_S (Alw s) s.heap H locs) (hC : CR g σ) (hM : MR g σ) (hO : OKs σ) (hl : lv_has ls 7 (lawlv E b o i)) (hcl : cells + 4 ≤ 601024) (hsl : slots + 24 ≤ 7293034) (kn : LNx E o cL b p l e s m below meth c Q (cells + 4) (slots + 24) i) : W p l e room_1 s m #[Value.ref b] below meth c H locs cells slots Q (F0 m 1015 ls []) := by
  have hl : lv_has ls 7 [(0, .ref b), (1, .ref (E.1 0)), (2, .ref (E.1 84)), (3, .ref o), (4, .int (nI i))] := hl
  obtain ⟨r, hr⟩ : ∃ r : OR, q1 σ (fouM (f_S σ.F) (xs (i + 1)) (xs (i + 2)) (xs (i + 3))) = r := ⟨_, rfl⟩
  have hO2 : OKs r.2.2 := by rw [← hr]; exact hO
  refine lv_aload_n C.1 C.2.1 dL_law_1015 rfl (lv_at hl 1 rfl) ?_
  refine l_sc (i := i) (k := 1) C.1 C.2.1 hX hbl hS (lv_at hl 0 rfl) (lv_at hl 4 rfl) dL_law_1016 dL_law_1017 dL_law_1019 (by decide +kernel) dL_law_1020 dL_law_1021 (by omega) hL ?_
  refine l_sc (i := i) (k := 2) C.1 C.2.1 hX hbl hS (lv_at hl 0 rfl) (lv_at hl 4 rfl) dL_law_1022 dL_law_1023 dL_law_1025 (by decide +kernel) dL_law_1026 dL_law_1027 (by omega) hL ?_
  refine l_sc (i := i) (k := 3) C.1 C.2.1 hX hbl hS (lv_at hl 0 rfl) (lv_at hl 4 rfl) dL_law_1028 dL_law_1029 dL_law_1031 (by decide +kernel) dL_law_1032 dL_law_1033 (by omega) hL ?_
  refine lv_aload_n C.1 C.2.1 dL_law_1034 rfl (lv_at hl 3 rfl) ?_
  refine l_callW (n := 5) (w := wd_found) (As := [.ref 0, .int (xs (i + 1)), .int (xs (i + 2)), .int (xs (i + 3))]) (rest := []) (d' := 60) (Qw := fun k g' v' => k = nI r.1 ∧ CR g' r.2.2 ∧ HF g g' ∧ r.1 ≤ 2 ∧ (r.1 = 0 → v' 0 = r.2.1.toInt64)) C hP hS hl.1 dL_law_1035 ll_151 wl_k_found wl_ini wl_s_found (by decide) (by decide +kernel) rfl rfl (Nat.le_of_ble_eq_true rfl) (by show 60 + 1 ≤ 2048; decide) (by show 8 + (6 + 11) + 128 * 60 ≤ 84000; decide) (by show cells + 2 ≤ 601024; omega) (by show slots + 6 * 2 ≤ 7293034; omega) (w_found hC hO (by rw [hr]; exact fun g' v' h1 h2 h3 h4 => ⟨rfl, h1, h2, h3, h4⟩)) (fun k g1 v1 hq H1 locs1 hP1 hS1 => ?_)
  obtain ⟨rfl, hC1, hF1, hle, hv1⟩ := hq
  refine lv_istore C.1 C.2.1 dL_law_1038 hl (by decide) rfl (fun ls1 hl1 => ?_)
  have hl1 : lv_has ls1 7 [(5, .int (nI r.1)), (0, .ref b), (1, .ref (E.1 0)), (2, .ref (E.1 84)), (3, .ref o), (4, .int (nI i))] := hl1
  refine lv_aload_n C.1 C.2.1 dL_law_1040 rfl (lv_at hl1 3 rfl) ?_
  refine l_sc (i := i) (k := 1) C.1 C.2.1 hX hbl hS1 (lv_at hl1 1 rfl) (lv_at hl1 5 rfl) dL_law_1041 dL_law_1042 dL_law_1044 (by decide +kernel) dL_law_1045 dL_law_1046 (by omega) hL ?_
  refine l_sc (i := i) (k := 2) C.1 C.2.1 hX hbl hS1 (lv_at hl1 1 rfl) (lv_at hl1 5 rfl) dL_law_1047 dL_law_1048 dL_law_1050 (by decide +kernel) dL_law_1051 dL_law_1052 (by omega) hL ?_
  refine l_sc (i := i) (k := 3) C.1 C.2.1 hX hbl hS1 (lv_at hl1 1 rfl) (lv_at hl1 5 rfl) dL_law_1053 dL_law_1054 dL_law_1056 (by decide +kernel) dL_law_1057 dL_law_1058 (by omega) hL ?_
  refine l_callV (md' := md_X12_found) (As := [.int (xs (i + 1)), .int (xs (i + 2)), .int (xs (i + 3))]) (rest := []) (d' := 60) (a := 84) (Qm := fun w g' => ∃ b9, w = some (.int b9) ∧ MR g' r.2.2 ∧ LF g1 g' ∧ g' 84 2 = nI r.1 ∧ (r.1 = 0 → b9 = r.2.1)) (Xm := fun _ _ => False) C hP1 hS1 hl1.1 dL_law_1059 ll_154 lm_X12_found lv_X12_found rfl (by decide) rfl rfl rfl (Nat.le_of_ble_eq_true rfl) (by show 60 + 1 ≤ 2048; decide) (by show 8 + (6 + 11) + 128 * 60 ≤ 84000; decide) (by show cells + 2 + 0 ≤ 601024; omega) (by show slots + 6 * 2 + 6 * 0 ≤ 7293034; omega) (n_found (hM.hf hF1) hO (by rw [hr]; exact fun h b9 h1 h2 h3 h4 => ⟨b9, rfl, h1, h2, h3, h4⟩)) (fun w g2 hw H2 locs2 hP2 hS2 => ?_) (fun Ex g2 hx => hx.elim)
  obtain ⟨b9, rfl, hM2, hF2, h84, hb9⟩ := hw
  refine W.eq (g2 := F0 m 1062 ls1 [.int b9]) rfl ?_
  refine lv_istore C.1 C.2.1 dL_law_1062 hl1 (by decide) rfl (fun ls2 hl2 => ?_)
  have hl2 : lv_has ls2 7 [(6, .int b9), (5, .int (nI r.1)), (0, .ref b), (1, .ref (E.1 0)), (2, .ref (E.1 84)), (3, .ref o), (4, .int (nI i))] := hl2
  refine lv_aload_n C.1 C.2.1 dL_law_1064 rfl (lv_at hl2 4 rfl) ?_
  refine l_callV (md' := md_X12_thrown) (As := []) (rest := []) (d' := 60) (a := 84) (Qm := fun w g' => w = some (.int (nI r.1)) ∧ g' = g2) (Xm := fun _ _ => False) C hP2 hS2 hl2.1 dL_law_1065 ll_102 lm_X12_thrown lv_X12_thrown rfl (by decide) rfl rfl rfl (Nat.le_of_ble_eq_true rfl) (by show 60 + 1 ≤ 2048; decide) (by show 8 + (1 + 11) + 128 * 60 ≤ 84000; decide) (by show cells + 2 + 0 + 0 ≤ 601024; omega) (by show slots + 6 * 2 + 6 * 0 + 6 * 0 ≤ 7293034; omega) (c_X12_thrown ⟨by rw [h84], rfl⟩) (fun w g3 hw H3 locs3 hP3 hS3 => ?_) (fun Ex g3 hx => hx.elim)
  obtain ⟨rfl, rfl⟩ := hw
  refine W.eq (g2 := F0 m 1068 ls2 [.int (nI r.1)]) rfl ?_
  refine lv_iload C.1 C.2.1 dL_law_1068 (lv_at hl2 1 rfl) ?_
  refine lv_icmp_eq (tgt := 1075) C.1 C.2.1 dL_law_1070 (by decide) (fun _ => ?_) (fun q => absurd rfl q)
  refine lv_iload C.1 C.2.1 dL_law_1075 (lv_at hl2 1 rfl) ?_
  have fin : W p l e room_1 s m #[Value.ref b] below meth c H3 locs3 (cells + 2 + 0 + 0) (slots + 6 * 2 + 6 * 0 + 6 * 0) Q (F0 m 1092 ls2 []) := by
    refine lv_goto (tgt := 1976) C.1 C.2.1 dL_law_1092 (by decide) ?_
    refine W.widen (k := cells + 4) (n := slots + 24) (by show cells + 2 + 0 + 0 ≤ cells + 4; omega) (by show slots + 6 * 2 + 6 * 0 + 6 * 0 ≤ slots + 24; omega) ?_
    exact kn r.2.2 g3 v1 H3 locs3 ls2 hP3 hS3 (hC1.lf hF2) hM2 hO2 (lv_sub hl2 [2, 3, 4, 5, 6] rfl)
  refine lv_if_ne (tgt := 1092) C.1 C.2.1 dL_law_1077 (by decide) (fun _ => fin) (fun hz => ?_)
  have r0 : r.1 = 0 := nI_inj (b := 0) (by omega) (by decide) hz
  refine lv_aload_n C.1 C.2.1 dL_law_1080 rfl (lv_at hl2 5 rfl) ?_
  refine lv_iconst (v := 0) C.1 C.2.1 dL_law_1081 (by decide +kernel) ?_
  refine va_lald (D := E.2.1) C.1 C.2.1 C.2.2.2.2.2.1 hP3 NID 3 (wlo_o (E := E) (g := g3) (o := o) (cL := cL) (v := v1)) rfl (by unfold vp_in; decide +kernel) dL_law_1082 ?_
  rw [show (0 : Int32).toNatClampNeg = 0 from rfl, hv1 r0]
  refine lv_iload C.1 C.2.1 dL_law_1083 (lv_at hl2 0 rfl) ?_
  rw [hb9 r0]
  refine lv_i2l C.1 C.2.1 dL_law_1085 rfl ?_
  refine W.lcmp C.1 C.2.1 dL_law_1086 ?_
  rw [lg_same]
  refine lv_if_eq (tgt := 1092) C.1 C.2.1 dL_law_1087 (by decide) (fun _ => fin) (fun q => absurd rfl q)
theorem z_again {E : En} {o : Nat} {cL : ClassId} {p : Program} {l : Launch} {e : Env} {s : State} {m : MethodId} {below : List Frame} {meth : Method} {c : Code} {H : Heap} {locs : List Loc} {cells slots : Nat} {Q : State → Prop} {ls : Array Slot} {g : G2} {v : Nat → Int64} {b L i : Nat} {xs : Nat → Int32} {σ : WS} (C : LXw E o cL (Alw s) p l s m #[Value.ref b] c cL_law 7) (hX : va_X b L xs s s.heap) (hbl : b < s.heap.size) (hL : L ≤ 3072) (hi : i + 5 < L) (hP : LPw E o cL g v H) (hS : va_S (Alw s) s.heap H locs) (hC : CR g σ) (hM : MR g σ) (hO : OKs σ) (hl : lv_has ls 7 (lawlv E b o i)) (hcl : cells + 4 ≤ 601024) (hsl : slots + 24 ≤ 7293034) (kn : LNx E o cL b p l e s m below meth c Q (cells + 4) (slots + 24) i) : W p l e room_1 s m #[Value.ref b] below meth c H locs cells slots Q (F0 m 1095 ls []) := by
  have hl : lv_has ls 7 [(0, .ref b), (1, .ref (E.1 0)), (2, .ref (E.1 84)), (3, .ref o), (4, .int (nI i))] := hl
  obtain ⟨r, hr⟩ : ∃ r : OR, q1 σ (agaM (f_S σ.F) (xs (i + 1))) = r := ⟨_, rfl⟩
  have hO2 : OKs r.2.2 := by rw [← hr]; exact hO
  refine lv_aload_n C.1 C.2.1 dL_law_1095 rfl (lv_at hl 1 rfl) ?_
  refine l_sc (i := i) (k := 1) C.1 C.2.1 hX hbl hS (lv_at hl 0 rfl) (lv_at hl 4 rfl) dL_law_1096 dL_law_1097 dL_law_1099 (by decide +kernel) dL_law_1100 dL_law_1101 (by omega) hL ?_
  refine lv_aload_n C.1 C.2.1 dL_law_1102 rfl (lv_at hl 3 rfl) ?_
  refine l_callW (n := 3) (w := wd_again) (As := [.ref 0, .int (xs (i + 1))]) (rest := []) (d' := 60) (Qw := fun k g' v' => k = nI r.1 ∧ CR g' r.2.2 ∧ HF g g' ∧ r.1 ≤ 2 ∧ (r.1 = 0 → v' 0 = r.2.1.toInt64)) C hP hS hl.1 dL_law_1103 ll_155 wl_k_again wl_ini wl_s_again (by decide) (by decide +kernel) rfl rfl (Nat.le_of_ble_eq_true rfl) (by show 60 + 1 ≤ 2048; decide) (by show 8 + (4 + 11) + 128 * 60 ≤ 84000; decide) (by show cells + 1 ≤ 601024; omega) (by show slots + 6 * 1 ≤ 7293034; omega) (w_again hC hO (by rw [hr]; exact fun g' v' h1 h2 h3 h4 => ⟨rfl, h1, h2, h3, h4⟩)) (fun k g1 v1 hq H1 locs1 hP1 hS1 => ?_)
  obtain ⟨rfl, hC1, hF1, hle, hv1⟩ := hq
  refine lv_istore C.1 C.2.1 dL_law_1106 hl (by decide) rfl (fun ls1 hl1 => ?_)
  have hl1 : lv_has ls1 7 [(5, .int (nI r.1)), (0, .ref b), (1, .ref (E.1 0)), (2, .ref (E.1 84)), (3, .ref o), (4, .int (nI i))] := hl1
  refine lv_aload_n C.1 C.2.1 dL_law_1108 rfl (lv_at hl1 3 rfl) ?_
  refine l_sc (i := i) (k := 1) C.1 C.2.1 hX hbl hS1 (lv_at hl1 1 rfl) (lv_at hl1 5 rfl) dL_law_1109 dL_law_1110 dL_law_1112 (by decide +kernel) dL_law_1113 dL_law_1114 (by omega) hL ?_
  refine l_callV (md' := md_X12_again) (As := [.int (xs (i + 1))]) (rest := []) (d' := 60) (a := 84) (Qm := fun w g' => ∃ b9, w = some (.int b9) ∧ MR g' r.2.2 ∧ LF g1 g' ∧ g' 84 2 = nI r.1 ∧ (r.1 = 0 → b9 = r.2.1)) (Xm := fun _ _ => False) C hP1 hS1 hl1.1 dL_law_1115 ll_157 lm_X12_again lv_X12_again rfl (by decide) rfl rfl rfl (Nat.le_of_ble_eq_true rfl) (by show 60 + 1 ≤ 2048; decide) (by show 8 + (2 + 11) + 128 * 60 ≤ 84000; decide) (by show cells + 1 + 0 ≤ 601024; omega) (by show slots + 6 * 1 + 6 * 0 ≤ 7293034; omega) (n_again (hM.hf hF1) hO (by rw [hr]; exact fun h b9 h1 h2 h3 h4 => ⟨b9, rfl, h1, h2, h3, h4⟩)) (fun w g2 hw H2 locs2 hP2 hS2 => ?_) (fun Ex g2 hx => hx.elim)
  obtain ⟨b9, rfl, hM2, hF2, h84, hb9⟩ := hw
  refine W.eq (g2 := F0 m 1118 ls1 [.int b9]) rfl ?_
  refine lv_istore C.1 C.2.1 dL_law_1118 hl1 (by decide) rfl (fun ls2 hl2 => ?_)
  have hl2 : lv_has ls2 7 [(6, .int b9), (5, .int (nI r.1)), (0, .ref b), (1, .ref (E.1 0)), (2, .ref (E.1 84)), (3, .ref o), (4, .int (nI i))] := hl2
  refine lv_aload_n C.1 C.2.1 dL_law_1120 rfl (lv_at hl2 4 rfl) ?_
  refine l_callV (md' := md_X12_thrown) (As := []) (rest := []) (d' := 60) (a := 84) (Qm := fun w g' => w = some (.int (nI r.1)) ∧ g' = g2) (Xm := fun _ _ => False) C hP2 hS2 hl2.1 dL_law_1121 ll_102 lm_X12_thrown lv_X12_thrown rfl (by decide) rfl rfl rfl (Nat.le_of_ble_eq_true rfl) (by show 60 + 1 ≤ 2048; decide) (by show 8 + (1 + 11) + 128 * 60 ≤ 84000; decide) (by show cells + 1 + 0 + 0 ≤ 601024; omega) (by show slots + 6 * 1 + 6 * 0 + 6 * 0 ≤ 7293034; omega) (c_X12_thrown ⟨by rw [h84], rfl⟩) (fun w g3 hw H3 locs3 hP3 hS3 => ?_) (fun Ex g3 hx => hx.elim)
  obtain ⟨rfl, rfl⟩ := hw
  refine W.eq (g2 := F0 m 1124 ls2 [.int (nI r.1)]) rfl ?_
  refine lv_iload C.1 C.2.1 dL_law_1124 (lv_at hl2 1 rfl) ?_
  refine lv_icmp_eq (tgt := 1131) C.1 C.2.1 dL_law_1126 (by decide) (fun _ => ?_) (fun q => absurd rfl q)
  refine lv_iload C.1 C.2.1 dL_law_1131 (lv_at hl2 1 rfl) ?_
  have fin : W p l e room_1 s m #[Value.ref b] below meth c H3 locs3 (cells + 1 + 0 + 0) (slots + 6 * 1 + 6 * 0 + 6 * 0) Q (F0 m 1148 ls2 []) := by
    refine lv_goto (tgt := 1976) C.1 C.2.1 dL_law_1148 (by decide) ?_
    refine W.widen (k := cells + 4) (n := slots + 24) (by show cells + 1 + 0 + 0 ≤ cells + 4; omega) (by show slots + 6 * 1 + 6 * 0 + 6 * 0 ≤ slots + 24; omega) ?_
    exact kn r.2.2 g3 v1 H3 locs3 ls2 hP3 hS3 (hC1.lf hF2) hM2 hO2 (lv_sub hl2 [2, 3, 4, 5, 6] rfl)
  refine lv_if_ne (tgt := 1148) C.1 C.2.1 dL_law_1133 (by decide) (fun _ => fin) (fun hz => ?_)
  have r0 : r.1 = 0 := nI_inj (b := 0) (by omega) (by decide) hz
  refine lv_aload_n C.1 C.2.1 dL_law_1136 rfl (lv_at hl2 5 rfl) ?_
  refine lv_iconst (v := 0) C.1 C.2.1 dL_law_1137 (by decide +kernel) ?_
  refine va_lald (D := E.2.1) C.1 C.2.1 C.2.2.2.2.2.1 hP3 NID 3 (wlo_o (E := E) (g := g3) (o := o) (cL := cL) (v := v1)) rfl (by unfold vp_in; decide +kernel) dL_law_1138 ?_
  rw [show (0 : Int32).toNatClampNeg = 0 from rfl, hv1 r0]
  refine lv_iload C.1 C.2.1 dL_law_1139 (lv_at hl2 0 rfl) ?_
  rw [hb9 r0]
  refine lv_i2l C.1 C.2.1 dL_law_1141 rfl ?_
  refine W.lcmp C.1 C.2.1 dL_law_1142 ?_
  rw [lg_same]
  refine lv_if_eq (tgt := 1148) C.1 C.2.1 dL_law_1143 (by decide) (fun _ => fin) (fun q => absurd rfl q)
theorem z_tritones {E : En} {o : Nat} {cL : ClassId} {p : Program} {l : Launch} {e : Env} {s : State} {m : MethodId} {below : List Frame} {meth : Method} {c : Code} {H : Heap} {locs : List Loc} {cells slots : Nat} {Q : State → Prop} {ls : Array Slot} {g : G2} {v : Nat → Int64} {b L i : Nat} {xs : Nat → Int32} {σ : WS} (C : LXw E o cL (Alw s) p l s m #[Value.ref b] c cL_law 7) (hX : va_X b L xs s s.heap) (hbl : b < s.heap.size) (hL : L ≤ 3072) (hi : i + 5 < L) (hP : LPw E o cL g v H) (hS : va_S (Alw s) s.heap H locs) (hC : CR g σ) (hM : MR g σ) (hO : OKs σ) (hl : lv_has ls 7 (lawlv E b o i)) (hcl : cells + 4 ≤ 601024) (hsl : slots + 24 ≤ 7293034) (kn : LNx E o cL b p l e s m below meth c Q (cells + 4) (slots + 24) i) : W p l e room_1 s m #[Value.ref b] below meth c H locs cells slots Q (F0 m 1151 ls []) := by
  have hl : lv_has ls 7 [(0, .ref b), (1, .ref (E.1 0)), (2, .ref (E.1 84)), (3, .ref o), (4, .int (nI i))] := hl
  obtain ⟨r, hr⟩ : ∃ r : OR, ((0, triV σ, σ) : OR) = r := ⟨_, rfl⟩
  have hO2 : OKs r.2.2 := by rw [← hr]; exact hO
  have r0 : r.1 = 0 := by rw [← hr]
  refine lv_aload_n C.1 C.2.1 dL_law_1151 rfl (lv_at hl 1 rfl) ?_
  refine l_callV (md' := md_X11_tritones) (As := []) (rest := []) (d' := 60) (a := 0) (Qm := fun w g' => w = some (.int r.2.1) ∧ CR g' r.2.2 ∧ HF g g') (Xm := fun _ _ => False) C hP hS hl.1 dL_law_1152 ll_158 lm_X11_tritones lv_X11_tritones rfl (by decide) rfl rfl rfl (Nat.le_of_ble_eq_true rfl) (by show 60 + 1 ≤ 2048; decide) (by show 8 + (1 + 11) + 128 * 60 ≤ 84000; decide) (by show cells + 0 ≤ 601024; omega) (by show slots + 6 * 0 ≤ 7293034; omega) (k_tritones hC (by rw [← hr]; exact ⟨rfl, hC, fun _ _ => rfl⟩)) (fun w g1 hw H1 locs1 hP1 hS1 => ?_) (fun Ex g1 hx => hx.elim)
  obtain ⟨rfl, hC1, hF1⟩ := hw
  refine W.eq (g2 := F0 m 1155 ls [.int r.2.1]) rfl ?_
  refine lv_aload_n C.1 C.2.1 dL_law_1155 rfl (lv_at hl 2 rfl) ?_
  refine l_callV (md' := md_X12_tritones) (As := []) (rest := [.int r.2.1]) (d' := 60) (a := 84) (Qm := fun w g' => w = some (.int r.2.1) ∧ MR g' r.2.2 ∧ LF g1 g') (Xm := fun _ _ => False) C hP1 hS1 hl.1 dL_law_1156 ll_161 lm_X12_tritones lv_X12_tritones rfl (by decide) rfl rfl rfl (Nat.le_of_ble_eq_true rfl) (by show 60 + 1 ≤ 2048; decide) (by show 8 + (1 + 11) + 128 * 60 ≤ 84000; decide) (by show cells + 0 + 0 ≤ 601024; omega) (by show slots + 6 * 0 + 6 * 0 ≤ 7293034; omega) (n_tritones (hM.hf hF1) hO (fun h a b => by rw [← hr]; exact ⟨rfl, a, b⟩)) (fun w g2 hw H2 locs2 hP2 hS2 => ?_) (fun Ex g2 hx => hx.elim)
  obtain ⟨rfl, hM2, hF2⟩ := hw
  refine W.eq (g2 := F0 m 1159 ls [.int r.2.1, .int r.2.1]) rfl ?_
  refine lv_icmp_eq (tgt := 1976) C.1 C.2.1 dL_law_1159 (by decide) (fun _ => ?_) (fun q => absurd rfl q)
  refine W.widen (k := cells + 4) (n := slots + 24) (by show cells + 0 + 0 ≤ cells + 4; omega) (by show slots + 6 * 0 + 6 * 0 ≤ slots + 24; omega) ?_
  exact kn r.2.2 g2 v H2 locs2 ls hP2 hS2 (hC1.lf hF2) hM2 hO2 (lv_sub hl [0, 1, 2, 3, 4] rfl)
theorem z_interval {E : En} {o : Nat} {cL : ClassId} {p : Program} {l : Launch} {e : Env} {s : State} {m : MethodId} {below : List Frame} {meth : Method} {c : Code} {H : Heap} {locs : List Loc} {cells slots : Nat} {Q : State → Prop} {ls : Array Slot} {g : G2} {v : Nat → Int64} {b L i : Nat} {xs : Nat → Int32} {σ : WS} (C : LXw E o cL (Alw s) p l s m #[Value.ref b] c cL_law 7) (hX : va_X b L xs s s.heap) (hbl : b < s.heap.size) (hL : L ≤ 3072) (hi : i + 5 < L) (hP : LPw E o cL g v H) (hS : va_S (Alw s) s.heap H locs) (hC : CR g σ) (hM : MR g σ) (hO : OKs σ) (hl : lv_has ls 7 (lawlv E b o i)) (hcl : cells + 4 ≤ 601024) (hsl : slots + 24 ≤ 7293034) (kn : LNx E o cL b p l e s m below meth c Q (cells + 4) (slots + 24) i) : W p l e room_1 s m #[Value.ref b] below meth c H locs cells slots Q (F0 m 1164 ls []) := by
  have hl : lv_has ls 7 [(0, .ref b), (1, .ref (E.1 0)), (2, .ref (E.1 84)), (3, .ref o), (4, .int (nI i))] := hl
  obtain ⟨r, hr⟩ : ∃ r : OR, q1 σ (itvM (f_S σ.F) (xs (i + 1))) = r := ⟨_, rfl⟩
  have hO2 : OKs r.2.2 := by rw [← hr]; exact hO
  refine lv_aload_n C.1 C.2.1 dL_law_1164 rfl (lv_at hl 1 rfl) ?_
  refine l_sc (i := i) (k := 1) C.1 C.2.1 hX hbl hS (lv_at hl 0 rfl) (lv_at hl 4 rfl) dL_law_1165 dL_law_1166 dL_law_1168 (by decide +kernel) dL_law_1169 dL_law_1170 (by omega) hL ?_
  refine lv_aload_n C.1 C.2.1 dL_law_1171 rfl (lv_at hl 3 rfl) ?_
  refine l_callW (n := 3) (w := wd_interval) (As := [.ref 0, .int (xs (i + 1))]) (rest := []) (d' := 60) (Qw := fun k g' v' => k = nI r.1 ∧ CR g' r.2.2 ∧ HF g g' ∧ r.1 ≤ 2 ∧ (r.1 = 0 → v' 0 = r.2.1.toInt64)) C hP hS hl.1 dL_law_1172 ll_162 wl_k_interval wl_ini wl_s_interval (by decide) (by decide +kernel) rfl rfl (Nat.le_of_ble_eq_true rfl) (by show 60 + 1 ≤ 2048; decide) (by show 8 + (4 + 11) + 128 * 60 ≤ 84000; decide) (by show cells + 1 ≤ 601024; omega) (by show slots + 6 * 1 ≤ 7293034; omega) (w_interval hC hO (by rw [hr]; exact fun g' v' h1 h2 h3 h4 => ⟨rfl, h1, h2, h3, h4⟩)) (fun k g1 v1 hq H1 locs1 hP1 hS1 => ?_)
  obtain ⟨rfl, hC1, hF1, hle, hv1⟩ := hq
  refine lv_istore C.1 C.2.1 dL_law_1175 hl (by decide) rfl (fun ls1 hl1 => ?_)
  have hl1 : lv_has ls1 7 [(5, .int (nI r.1)), (0, .ref b), (1, .ref (E.1 0)), (2, .ref (E.1 84)), (3, .ref o), (4, .int (nI i))] := hl1
  refine lv_aload_n C.1 C.2.1 dL_law_1177 rfl (lv_at hl1 3 rfl) ?_
  refine l_sc (i := i) (k := 1) C.1 C.2.1 hX hbl hS1 (lv_at hl1 1 rfl) (lv_at hl1 5 rfl) dL_law_1178 dL_law_1179 dL_law_1181 (by decide +kernel) dL_law_1182 dL_law_1183 (by omega) hL ?_
  refine l_callV (md' := md_X12_interval) (As := [.int (xs (i + 1))]) (rest := []) (d' := 60) (a := 84) (Qm := fun w g' => ∃ b9, w = some (.int b9) ∧ MR g' r.2.2 ∧ LF g1 g' ∧ g' 84 2 = nI r.1 ∧ (r.1 = 0 → b9 = r.2.1)) (Xm := fun _ _ => False) C hP1 hS1 hl1.1 dL_law_1184 ll_164 lm_X12_interval lv_X12_interval rfl (by decide) rfl rfl rfl (Nat.le_of_ble_eq_true rfl) (by show 60 + 1 ≤ 2048; decide) (by show 8 + (4 + 11) + 128 * 60 ≤ 84000; decide) (by show cells + 1 + 0 ≤ 601024; omega) (by show slots + 6 * 1 + 6 * 0 ≤ 7293034; omega) (n_interval (hM.hf hF1) hO (by rw [hr]; exact fun h b9 h1 h2 h3 h4 => ⟨b9, rfl, h1, h2, h3, h4⟩)) (fun w g2 hw H2 locs2 hP2 hS2 => ?_) (fun Ex g2 hx => hx.elim)
  obtain ⟨b9, rfl, hM2, hF2, h84, hb9⟩ := hw
  refine W.eq (g2 := F0 m 1187 ls1 [.int b9]) rfl ?_
  refine lv_istore C.1 C.2.1 dL_law_1187 hl1 (by decide) rfl (fun ls2 hl2 => ?_)
  have hl2 : lv_has ls2 7 [(6, .int b9), (5, .int (nI r.1)), (0, .ref b), (1, .ref (E.1 0)), (2, .ref (E.1 84)), (3, .ref o), (4, .int (nI i))] := hl2
  refine lv_aload_n C.1 C.2.1 dL_law_1189 rfl (lv_at hl2 4 rfl) ?_
  refine l_callV (md' := md_X12_thrown) (As := []) (rest := []) (d' := 60) (a := 84) (Qm := fun w g' => w = some (.int (nI r.1)) ∧ g' = g2) (Xm := fun _ _ => False) C hP2 hS2 hl2.1 dL_law_1190 ll_102 lm_X12_thrown lv_X12_thrown rfl (by decide) rfl rfl rfl (Nat.le_of_ble_eq_true rfl) (by show 60 + 1 ≤ 2048; decide) (by show 8 + (1 + 11) + 128 * 60 ≤ 84000; decide) (by show cells + 1 + 0 + 0 ≤ 601024; omega) (by show slots + 6 * 1 + 6 * 0 + 6 * 0 ≤ 7293034; omega) (c_X12_thrown ⟨by rw [h84], rfl⟩) (fun w g3 hw H3 locs3 hP3 hS3 => ?_) (fun Ex g3 hx => hx.elim)
  obtain ⟨rfl, rfl⟩ := hw
  refine W.eq (g2 := F0 m 1193 ls2 [.int (nI r.1)]) rfl ?_
  refine lv_iload C.1 C.2.1 dL_law_1193 (lv_at hl2 1 rfl) ?_
  refine lv_icmp_eq (tgt := 1200) C.1 C.2.1 dL_law_1195 (by decide) (fun _ => ?_) (fun q => absurd rfl q)
  refine lv_iload C.1 C.2.1 dL_law_1200 (lv_at hl2 1 rfl) ?_
  have fin : W p l e room_1 s m #[Value.ref b] below meth c H3 locs3 (cells + 1 + 0 + 0) (slots + 6 * 1 + 6 * 0 + 6 * 0) Q (F0 m 1217 ls2 []) := by
    refine lv_goto (tgt := 1976) C.1 C.2.1 dL_law_1217 (by decide) ?_
    refine W.widen (k := cells + 4) (n := slots + 24) (by show cells + 1 + 0 + 0 ≤ cells + 4; omega) (by show slots + 6 * 1 + 6 * 0 + 6 * 0 ≤ slots + 24; omega) ?_
    exact kn r.2.2 g3 v1 H3 locs3 ls2 hP3 hS3 (hC1.lf hF2) hM2 hO2 (lv_sub hl2 [2, 3, 4, 5, 6] rfl)
  refine lv_if_ne (tgt := 1217) C.1 C.2.1 dL_law_1202 (by decide) (fun _ => fin) (fun hz => ?_)
  have r0 : r.1 = 0 := nI_inj (b := 0) (by omega) (by decide) hz
  refine lv_aload_n C.1 C.2.1 dL_law_1205 rfl (lv_at hl2 5 rfl) ?_
  refine lv_iconst (v := 0) C.1 C.2.1 dL_law_1206 (by decide +kernel) ?_
  refine va_lald (D := E.2.1) C.1 C.2.1 C.2.2.2.2.2.1 hP3 NID 3 (wlo_o (E := E) (g := g3) (o := o) (cL := cL) (v := v1)) rfl (by unfold vp_in; decide +kernel) dL_law_1207 ?_
  rw [show (0 : Int32).toNatClampNeg = 0 from rfl, hv1 r0]
  refine lv_iload C.1 C.2.1 dL_law_1208 (lv_at hl2 0 rfl) ?_
  rw [hb9 r0]
  refine lv_i2l C.1 C.2.1 dL_law_1210 rfl ?_
  refine W.lcmp C.1 C.2.1 dL_law_1211 ?_
  rw [lg_same]
  refine lv_if_eq (tgt := 1217) C.1 C.2.1 dL_law_1212 (by decide) (fun _ => fin) (fun q => absurd rfl q)
theorem z_own {E : En} {o : Nat} {cL : ClassId} {p : Program} {l : Launch} {e : Env} {s : State} {m : MethodId} {below : List Frame} {meth : Method} {c : Code} {H : Heap} {locs : List Loc} {cells slots : Nat} {Q : State → Prop} {ls : Array Slot} {g : G2} {v : Nat → Int64} {b L i : Nat} {xs : Nat → Int32} {σ : WS} (C : LXw E o cL (Alw s) p l s m #[Value.ref b] c cL_law 7) (hX : va_X b L xs s s.heap) (hbl : b < s.heap.size) (hL : L ≤ 3072) (hi : i + 5 < L) (hP : LPw E o cL g v H) (hS : va_S (Alw s) s.heap H locs) (hC : CR g σ) (hM : MR g σ) (hO : OKs σ) (hl : lv_has ls 7 (lawlv E b o i)) (hcl : cells + 4 ≤ 601024) (hsl : slots + 24 ≤ 7293034) (kn : LNx E o cL b p l e s m below meth c Q (cells + 4) (slots + 24) i) : W p l e room_1 s m #[Value.ref b] below meth c H locs cells slots Q (F0 m 1220 ls []) := by
  have hl : lv_has ls 7 [(0, .ref b), (1, .ref (E.1 0)), (2, .ref (E.1 84)), (3, .ref o), (4, .int (nI i))] := hl
  obtain ⟨r, hr⟩ : ∃ r : OR, q1 σ (ownM σ.T (f_S σ.F) (xs (i + 1)) (xs (i + 2))) = r := ⟨_, rfl⟩
  have hO2 : OKs r.2.2 := by rw [← hr]; exact hO
  refine lv_aload_n C.1 C.2.1 dL_law_1220 rfl (lv_at hl 1 rfl) ?_
  refine l_sc (i := i) (k := 1) C.1 C.2.1 hX hbl hS (lv_at hl 0 rfl) (lv_at hl 4 rfl) dL_law_1221 dL_law_1222 dL_law_1224 (by decide +kernel) dL_law_1225 dL_law_1226 (by omega) hL ?_
  refine l_sc (i := i) (k := 2) C.1 C.2.1 hX hbl hS (lv_at hl 0 rfl) (lv_at hl 4 rfl) dL_law_1227 dL_law_1228 dL_law_1230 (by decide +kernel) dL_law_1231 dL_law_1232 (by omega) hL ?_
  refine lv_aload_n C.1 C.2.1 dL_law_1233 rfl (lv_at hl 3 rfl) ?_
  refine l_callW (n := 4) (w := wd_own) (As := [.ref 0, .int (xs (i + 1)), .int (xs (i + 2))]) (rest := []) (d' := 60) (Qw := fun k g' v' => k = nI r.1 ∧ CR g' r.2.2 ∧ HF g g' ∧ r.1 ≤ 2 ∧ (r.1 = 0 → v' 0 = r.2.1.toInt64)) C hP hS hl.1 dL_law_1234 ll_165 wl_k_own wl_ini wl_s_own (by decide) (by decide +kernel) rfl rfl (Nat.le_of_ble_eq_true rfl) (by show 60 + 1 ≤ 2048; decide) (by show 8 + (5 + 11) + 128 * 60 ≤ 84000; decide) (by show cells + 2 ≤ 601024; omega) (by show slots + 6 * 2 ≤ 7293034; omega) (w_own hC hO (by rw [hr]; exact fun g' v' h1 h2 h3 h4 => ⟨rfl, h1, h2, h3, h4⟩)) (fun k g1 v1 hq H1 locs1 hP1 hS1 => ?_)
  obtain ⟨rfl, hC1, hF1, hle, hv1⟩ := hq
  refine lv_istore C.1 C.2.1 dL_law_1237 hl (by decide) rfl (fun ls1 hl1 => ?_)
  have hl1 : lv_has ls1 7 [(5, .int (nI r.1)), (0, .ref b), (1, .ref (E.1 0)), (2, .ref (E.1 84)), (3, .ref o), (4, .int (nI i))] := hl1
  refine lv_aload_n C.1 C.2.1 dL_law_1239 rfl (lv_at hl1 3 rfl) ?_
  refine l_sc (i := i) (k := 1) C.1 C.2.1 hX hbl hS1 (lv_at hl1 1 rfl) (lv_at hl1 5 rfl) dL_law_1240 dL_law_1241 dL_law_1243 (by decide +kernel) dL_law_1244 dL_law_1245 (by omega) hL ?_
  refine l_sc (i := i) (k := 2) C.1 C.2.1 hX hbl hS1 (lv_at hl1 1 rfl) (lv_at hl1 5 rfl) dL_law_1246 dL_law_1247 dL_law_1249 (by decide +kernel) dL_law_1250 dL_law_1251 (by omega) hL ?_
  refine l_callV (md' := md_X12_own) (As := [.int (xs (i + 1)), .int (xs (i + 2))]) (rest := []) (d' := 60) (a := 84) (Qm := fun w g' => ∃ b9, w = some (.int b9) ∧ MR g' r.2.2 ∧ LF g1 g' ∧ g' 84 2 = nI r.1 ∧ (r.1 = 0 → b9 = r.2.1)) (Xm := fun _ _ => False) C hP1 hS1 hl1.1 dL_law_1252 ll_167 lm_X12_own lv_X12_own rfl (by decide) rfl rfl rfl (Nat.le_of_ble_eq_true rfl) (by show 60 + 1 ≤ 2048; decide) (by show 8 + (5 + 11) + 128 * 60 ≤ 84000; decide) (by show cells + 2 + 0 ≤ 601024; omega) (by show slots + 6 * 2 + 6 * 0 ≤ 7293034; omega) (n_own (hM.hf hF1) hO (by rw [hr]; exact fun h b9 h1 h2 h3 h4 => ⟨b9, rfl, h1, h2, h3, h4⟩)) (fun w g2 hw H2 locs2 hP2 hS2 => ?_) (fun Ex g2 hx => hx.elim)
  obtain ⟨b9, rfl, hM2, hF2, h84, hb9⟩ := hw
  refine W.eq (g2 := F0 m 1255 ls1 [.int b9]) rfl ?_
  refine lv_istore C.1 C.2.1 dL_law_1255 hl1 (by decide) rfl (fun ls2 hl2 => ?_)
  have hl2 : lv_has ls2 7 [(6, .int b9), (5, .int (nI r.1)), (0, .ref b), (1, .ref (E.1 0)), (2, .ref (E.1 84)), (3, .ref o), (4, .int (nI i))] := hl2
  refine lv_aload_n C.1 C.2.1 dL_law_1257 rfl (lv_at hl2 4 rfl) ?_
  refine l_callV (md' := md_X12_thrown) (As := []) (rest := []) (d' := 60) (a := 84) (Qm := fun w g' => w = some (.int (nI r.1)) ∧ g' = g2) (Xm := fun _ _ => False) C hP2 hS2 hl2.1 dL_law_1258 ll_102 lm_X12_thrown lv_X12_thrown rfl (by decide) rfl rfl rfl (Nat.le_of_ble_eq_true rfl) (by show 60 + 1 ≤ 2048; decide) (by show 8 + (1 + 11) + 128 * 60 ≤ 84000; decide) (by show cells + 2 + 0 + 0 ≤ 601024; omega) (by show slots + 6 * 2 + 6 * 0 + 6 * 0 ≤ 7293034; omega) (c_X12_thrown ⟨by rw [h84], rfl⟩) (fun w g3 hw H3 locs3 hP3 hS3 => ?_) (fun Ex g3 hx => hx.elim)
  obtain ⟨rfl, rfl⟩ := hw
  refine W.eq (g2 := F0 m 1261 ls2 [.int (nI r.1)]) rfl ?_
  refine lv_iload C.1 C.2.1 dL_law_1261 (lv_at hl2 1 rfl) ?_
  refine lv_icmp_eq (tgt := 1268) C.1 C.2.1 dL_law_1263 (by decide) (fun _ => ?_) (fun q => absurd rfl q)
  refine lv_iload C.1 C.2.1 dL_law_1268 (lv_at hl2 1 rfl) ?_
  have fin : W p l e room_1 s m #[Value.ref b] below meth c H3 locs3 (cells + 2 + 0 + 0) (slots + 6 * 2 + 6 * 0 + 6 * 0) Q (F0 m 1285 ls2 []) := by
    refine lv_goto (tgt := 1976) C.1 C.2.1 dL_law_1285 (by decide) ?_
    refine W.widen (k := cells + 4) (n := slots + 24) (by show cells + 2 + 0 + 0 ≤ cells + 4; omega) (by show slots + 6 * 2 + 6 * 0 + 6 * 0 ≤ slots + 24; omega) ?_
    exact kn r.2.2 g3 v1 H3 locs3 ls2 hP3 hS3 (hC1.lf hF2) hM2 hO2 (lv_sub hl2 [2, 3, 4, 5, 6] rfl)
  refine lv_if_ne (tgt := 1285) C.1 C.2.1 dL_law_1270 (by decide) (fun _ => fin) (fun hz => ?_)
  have r0 : r.1 = 0 := nI_inj (b := 0) (by omega) (by decide) hz
  refine lv_aload_n C.1 C.2.1 dL_law_1273 rfl (lv_at hl2 5 rfl) ?_
  refine lv_iconst (v := 0) C.1 C.2.1 dL_law_1274 (by decide +kernel) ?_
  refine va_lald (D := E.2.1) C.1 C.2.1 C.2.2.2.2.2.1 hP3 NID 3 (wlo_o (E := E) (g := g3) (o := o) (cL := cL) (v := v1)) rfl (by unfold vp_in; decide +kernel) dL_law_1275 ?_
  rw [show (0 : Int32).toNatClampNeg = 0 from rfl, hv1 r0]
  refine lv_iload C.1 C.2.1 dL_law_1276 (lv_at hl2 0 rfl) ?_
  rw [hb9 r0]
  refine lv_i2l C.1 C.2.1 dL_law_1278 rfl ?_
  refine W.lcmp C.1 C.2.1 dL_law_1279 ?_
  rw [lg_same]
  refine lv_if_eq (tgt := 1285) C.1 C.2.1 dL_law_1280 (by decide) (fun _ => fin) (fun q => absurd rfl q)
theorem z_breath {E : En} {o : Nat} {cL : ClassId} {p : Program} {l : Launch} {e : Env} {s : State} {m : MethodId} {below : List Frame} {meth : Method} {c : Code} {H : Heap} {locs : List Loc} {cells slots : Nat} {Q : State → Prop} {ls : Array Slot} {g : G2} {v : Nat → Int64} {b L i : Nat} {xs : Nat → Int32} {σ : WS} (C : LXw E o cL (Alw s) p l s m #[Value.ref b] c cL_law 7) (hX : va_X b L xs s s.heap) (hbl : b < s.heap.size) (hL : L ≤ 3072) (hi : i + 5 < L) (hP : LPw E o cL g v H) (hS : va_S (Alw s) s.heap H locs) (hC : CR g σ) (hM : MR g σ) (hO : OKs σ) (hl : lv_has ls 7 (lawlv E b o i)) (hcl : cells + 4 ≤ 601024) (hsl : slots + 24 ≤ 7293034) (kn : LNx E o cL b p l e s m below meth c Q (cells + 4) (slots + 24) i) : W p l e room_1 s m #[Value.ref b] below meth c H locs cells slots Q (F0 m 1288 ls []) := by
  have hl : lv_has ls 7 [(0, .ref b), (1, .ref (E.1 0)), (2, .ref (E.1 84)), (3, .ref o), (4, .int (nI i))] := hl
  obtain ⟨r, hr⟩ : ∃ r : OR, q1 σ (breM (f_S σ.F) (xs (i + 1))) = r := ⟨_, rfl⟩
  have hO2 : OKs r.2.2 := by rw [← hr]; exact hO
  refine lv_aload_n C.1 C.2.1 dL_law_1288 rfl (lv_at hl 1 rfl) ?_
  refine l_sc (i := i) (k := 1) C.1 C.2.1 hX hbl hS (lv_at hl 0 rfl) (lv_at hl 4 rfl) dL_law_1289 dL_law_1290 dL_law_1292 (by decide +kernel) dL_law_1293 dL_law_1294 (by omega) hL ?_
  refine lv_aload_n C.1 C.2.1 dL_law_1295 rfl (lv_at hl 3 rfl) ?_
  refine l_callW (n := 3) (w := wd_breath) (As := [.ref 0, .int (xs (i + 1))]) (rest := []) (d' := 60) (Qw := fun k g' v' => k = nI r.1 ∧ CR g' r.2.2 ∧ HF g g' ∧ r.1 ≤ 2 ∧ (r.1 = 0 → v' 0 = r.2.1.toInt64)) C hP hS hl.1 dL_law_1296 ll_168 wl_k_breath wl_ini wl_s_breath (by decide) (by decide +kernel) rfl rfl (Nat.le_of_ble_eq_true rfl) (by show 60 + 1 ≤ 2048; decide) (by show 8 + (4 + 11) + 128 * 60 ≤ 84000; decide) (by show cells + 1 ≤ 601024; omega) (by show slots + 6 * 1 ≤ 7293034; omega) (w_breath hC hO (by rw [hr]; exact fun g' v' h1 h2 h3 h4 => ⟨rfl, h1, h2, h3, h4⟩)) (fun k g1 v1 hq H1 locs1 hP1 hS1 => ?_)
  obtain ⟨rfl, hC1, hF1, hle, hv1⟩ := hq
  refine lv_istore C.1 C.2.1 dL_law_1299 hl (by decide) rfl (fun ls1 hl1 => ?_)
  have hl1 : lv_has ls1 7 [(5, .int (nI r.1)), (0, .ref b), (1, .ref (E.1 0)), (2, .ref (E.1 84)), (3, .ref o), (4, .int (nI i))] := hl1
  refine lv_aload_n C.1 C.2.1 dL_law_1301 rfl (lv_at hl1 3 rfl) ?_
  refine l_sc (i := i) (k := 1) C.1 C.2.1 hX hbl hS1 (lv_at hl1 1 rfl) (lv_at hl1 5 rfl) dL_law_1302 dL_law_1303 dL_law_1305 (by decide +kernel) dL_law_1306 dL_law_1307 (by omega) hL ?_
  refine l_callV (md' := md_X12_breath) (As := [.int (xs (i + 1))]) (rest := []) (d' := 60) (a := 84) (Qm := fun w g' => ∃ b9, w = some (.int b9) ∧ MR g' r.2.2 ∧ LF g1 g' ∧ g' 84 2 = nI r.1 ∧ (r.1 = 0 → b9 = r.2.1)) (Xm := fun _ _ => False) C hP1 hS1 hl1.1 dL_law_1308 ll_170 lm_X12_breath lv_X12_breath rfl (by decide) rfl rfl rfl (Nat.le_of_ble_eq_true rfl) (by show 60 + 1 ≤ 2048; decide) (by show 8 + (6 + 11) + 128 * 60 ≤ 84000; decide) (by show cells + 1 + 0 ≤ 601024; omega) (by show slots + 6 * 1 + 6 * 0 ≤ 7293034; omega) (n_breath (hM.hf hF1) hO (by rw [hr]; exact fun h b9 h1 h2 h3 h4 => ⟨b9, rfl, h1, h2, h3, h4⟩)) (fun w g2 hw H2 locs2 hP2 hS2 => ?_) (fun Ex g2 hx => hx.elim)
  obtain ⟨b9, rfl, hM2, hF2, h84, hb9⟩ := hw
  refine W.eq (g2 := F0 m 1311 ls1 [.int b9]) rfl ?_
  refine lv_istore C.1 C.2.1 dL_law_1311 hl1 (by decide) rfl (fun ls2 hl2 => ?_)
  have hl2 : lv_has ls2 7 [(6, .int b9), (5, .int (nI r.1)), (0, .ref b), (1, .ref (E.1 0)), (2, .ref (E.1 84)), (3, .ref o), (4, .int (nI i))] := hl2
  refine lv_aload_n C.1 C.2.1 dL_law_1313 rfl (lv_at hl2 4 rfl) ?_
  refine l_callV (md' := md_X12_thrown) (As := []) (rest := []) (d' := 60) (a := 84) (Qm := fun w g' => w = some (.int (nI r.1)) ∧ g' = g2) (Xm := fun _ _ => False) C hP2 hS2 hl2.1 dL_law_1314 ll_102 lm_X12_thrown lv_X12_thrown rfl (by decide) rfl rfl rfl (Nat.le_of_ble_eq_true rfl) (by show 60 + 1 ≤ 2048; decide) (by show 8 + (1 + 11) + 128 * 60 ≤ 84000; decide) (by show cells + 1 + 0 + 0 ≤ 601024; omega) (by show slots + 6 * 1 + 6 * 0 + 6 * 0 ≤ 7293034; omega) (c_X12_thrown ⟨by rw [h84], rfl⟩) (fun w g3 hw H3 locs3 hP3 hS3 => ?_) (fun Ex g3 hx => hx.elim)
  obtain ⟨rfl, rfl⟩ := hw
  refine W.eq (g2 := F0 m 1317 ls2 [.int (nI r.1)]) rfl ?_
  refine lv_iload C.1 C.2.1 dL_law_1317 (lv_at hl2 1 rfl) ?_
  refine lv_icmp_eq (tgt := 1324) C.1 C.2.1 dL_law_1319 (by decide) (fun _ => ?_) (fun q => absurd rfl q)
  refine lv_iload C.1 C.2.1 dL_law_1324 (lv_at hl2 1 rfl) ?_
  have fin : W p l e room_1 s m #[Value.ref b] below meth c H3 locs3 (cells + 1 + 0 + 0) (slots + 6 * 1 + 6 * 0 + 6 * 0) Q (F0 m 1341 ls2 []) := by
    refine lv_goto (tgt := 1976) C.1 C.2.1 dL_law_1341 (by decide) ?_
    refine W.widen (k := cells + 4) (n := slots + 24) (by show cells + 1 + 0 + 0 ≤ cells + 4; omega) (by show slots + 6 * 1 + 6 * 0 + 6 * 0 ≤ slots + 24; omega) ?_
    exact kn r.2.2 g3 v1 H3 locs3 ls2 hP3 hS3 (hC1.lf hF2) hM2 hO2 (lv_sub hl2 [2, 3, 4, 5, 6] rfl)
  refine lv_if_ne (tgt := 1341) C.1 C.2.1 dL_law_1326 (by decide) (fun _ => fin) (fun hz => ?_)
  have r0 : r.1 = 0 := nI_inj (b := 0) (by omega) (by decide) hz
  refine lv_aload_n C.1 C.2.1 dL_law_1329 rfl (lv_at hl2 5 rfl) ?_
  refine lv_iconst (v := 0) C.1 C.2.1 dL_law_1330 (by decide +kernel) ?_
  refine va_lald (D := E.2.1) C.1 C.2.1 C.2.2.2.2.2.1 hP3 NID 3 (wlo_o (E := E) (g := g3) (o := o) (cL := cL) (v := v1)) rfl (by unfold vp_in; decide +kernel) dL_law_1331 ?_
  rw [show (0 : Int32).toNatClampNeg = 0 from rfl, hv1 r0]
  refine lv_iload C.1 C.2.1 dL_law_1332 (lv_at hl2 0 rfl) ?_
  rw [hb9 r0]
  refine lv_i2l C.1 C.2.1 dL_law_1334 rfl ?_
  refine W.lcmp C.1 C.2.1 dL_law_1335 ?_
  rw [lg_same]
  refine lv_if_eq (tgt := 1341) C.1 C.2.1 dL_law_1336 (by decide) (fun _ => fin) (fun q => absurd rfl q)
theorem z_palindrome {E : En} {o : Nat} {cL : ClassId} {p : Program} {l : Launch} {e : Env} {s : State} {m : MethodId} {below : List Frame} {meth : Method} {c : Code} {H : Heap} {locs : List Loc} {cells slots : Nat} {Q : State → Prop} {ls : Array Slot} {g : G2} {v : Nat → Int64} {b L i : Nat} {xs : Nat → Int32} {σ : WS} (C : LXw E o cL (Alw s) p l s m #[Value.ref b] c cL_law 7) (hX : va_X b L xs s s.heap) (hbl : b < s.heap.size) (hL : L ≤ 3072) (hi : i + 5 < L) (hP : LPw E o cL g v H) (hS : va_S (Alw s) s.heap H locs) (hC : CR g σ) (hM : MR g σ) (hO : OKs σ) (hl : lv_has ls 7 (lawlv E b o i)) (hcl : cells + 4 ≤ 601024) (hsl : slots + 24 ≤ 7293034) (kn : LNx E o cL b p l e s m below meth c Q (cells + 4) (slots + 24) i) : W p l e room_1 s m #[Value.ref b] below meth c H locs cells slots Q (F0 m 1344 ls []) := by
  have hl : lv_has ls 7 [(0, .ref b), (1, .ref (E.1 0)), (2, .ref (E.1 84)), (3, .ref o), (4, .int (nI i))] := hl
  obtain ⟨r, hr⟩ : ∃ r : OR, ((0, pldV σ, σ) : OR) = r := ⟨_, rfl⟩
  have hO2 : OKs r.2.2 := by rw [← hr]; exact hO
  have r0 : r.1 = 0 := by rw [← hr]
  refine lv_aload_n C.1 C.2.1 dL_law_1344 rfl (lv_at hl 1 rfl) ?_
  refine l_callV (md' := md_X11_palindrome) (As := []) (rest := []) (d' := 60) (a := 0) (Qm := fun w g' => w = some (.int r.2.1) ∧ CR g' r.2.2 ∧ HF g g') (Xm := fun _ _ => False) C hP hS hl.1 dL_law_1345 ll_171 lm_X11_palindrome lv_X11_palindrome rfl (by decide) rfl rfl rfl (Nat.le_of_ble_eq_true rfl) (by show 60 + 1 ≤ 2048; decide) (by show 8 + (3 + 11) + 128 * 60 ≤ 84000; decide) (by show cells + 0 ≤ 601024; omega) (by show slots + 6 * 0 ≤ 7293034; omega) (k_palindrome hC (by rw [← hr]; exact ⟨rfl, hC, fun _ _ => rfl⟩)) (fun w g1 hw H1 locs1 hP1 hS1 => ?_) (fun Ex g1 hx => hx.elim)
  obtain ⟨rfl, hC1, hF1⟩ := hw
  refine W.eq (g2 := F0 m 1348 ls [.int r.2.1]) rfl ?_
  refine lv_aload_n C.1 C.2.1 dL_law_1348 rfl (lv_at hl 2 rfl) ?_
  refine l_callV (md' := md_X12_palindrome) (As := []) (rest := [.int r.2.1]) (d' := 60) (a := 84) (Qm := fun w g' => w = some (.int r.2.1) ∧ MR g' r.2.2 ∧ LF g1 g') (Xm := fun _ _ => False) C hP1 hS1 hl.1 dL_law_1349 ll_174 lm_X12_palindrome lv_X12_palindrome rfl (by decide) rfl rfl rfl (Nat.le_of_ble_eq_true rfl) (by show 60 + 1 ≤ 2048; decide) (by show 8 + (3 + 11) + 128 * 60 ≤ 84000; decide) (by show cells + 0 + 0 ≤ 601024; omega) (by show slots + 6 * 0 + 6 * 0 ≤ 7293034; omega) (n_palindrome (hM.hf hF1) (fun h a b => by rw [← hr]; exact ⟨rfl, a, b⟩)) (fun w g2 hw H2 locs2 hP2 hS2 => ?_) (fun Ex g2 hx => hx.elim)
  obtain ⟨rfl, hM2, hF2⟩ := hw
  refine W.eq (g2 := F0 m 1352 ls [.int r.2.1, .int r.2.1]) rfl ?_
  refine lv_icmp_eq (tgt := 1976) C.1 C.2.1 dL_law_1352 (by decide) (fun _ => ?_) (fun q => absurd rfl q)
  refine W.widen (k := cells + 4) (n := slots + 24) (by show cells + 0 + 0 ≤ cells + 4; omega) (by show slots + 6 * 0 + 6 * 0 ≤ slots + 24; omega) ?_
  exact kn r.2.2 g2 v H2 locs2 ls hP2 hS2 (hC1.lf hF2) hM2 hO2 (lv_sub hl [0, 1, 2, 3, 4] rfl)
theorem z_tonic {E : En} {o : Nat} {cL : ClassId} {p : Program} {l : Launch} {e : Env} {s : State} {m : MethodId} {below : List Frame} {meth : Method} {c : Code} {H : Heap} {locs : List Loc} {cells slots : Nat} {Q : State → Prop} {ls : Array Slot} {g : G2} {v : Nat → Int64} {b L i : Nat} {xs : Nat → Int32} {σ : WS} (C : LXw E o cL (Alw s) p l s m #[Value.ref b] c cL_law 7) (hX : va_X b L xs s s.heap) (hbl : b < s.heap.size) (hL : L ≤ 3072) (hi : i + 5 < L) (hP : LPw E o cL g v H) (hS : va_S (Alw s) s.heap H locs) (hC : CR g σ) (hM : MR g σ) (hO : OKs σ) (hl : lv_has ls 7 (lawlv E b o i)) (hcl : cells + 4 ≤ 601024) (hsl : slots + 24 ≤ 7293034) (kn : LNx E o cL b p l e s m below meth c Q (cells + 4) (slots + 24) i) : W p l e room_1 s m #[Value.ref b] below meth c H locs cells slots Q (F0 m 1357 ls []) := by
  have hl : lv_has ls 7 [(0, .ref b), (1, .ref (E.1 0)), (2, .ref (E.1 84)), (3, .ref o), (4, .int (nI i))] := hl
  obtain ⟨r, hr⟩ : ∃ r : OR, ((0, tonV σ, σ) : OR) = r := ⟨_, rfl⟩
  have hO2 : OKs r.2.2 := by rw [← hr]; exact hO
  have r0 : r.1 = 0 := by rw [← hr]
  refine lv_aload_n C.1 C.2.1 dL_law_1357 rfl (lv_at hl 1 rfl) ?_
  refine l_callV (md' := md_X11_tonic) (As := []) (rest := []) (d' := 60) (a := 0) (Qm := fun w g' => w = some (.int r.2.1) ∧ CR g' r.2.2 ∧ HF g g') (Xm := fun _ _ => False) C hP hS hl.1 dL_law_1358 ll_175 lm_X11_tonic lv_X11_tonic rfl (by decide) rfl rfl rfl (Nat.le_of_ble_eq_true rfl) (by show 60 + 1 ≤ 2048; decide) (by show 8 + (5 + 11) + 128 * 60 ≤ 84000; decide) (by show cells + 0 ≤ 601024; omega) (by show slots + 6 * 0 ≤ 7293034; omega) (k_tonic hC (by rw [← hr]; exact ⟨rfl, hC, fun _ _ => rfl⟩)) (fun w g1 hw H1 locs1 hP1 hS1 => ?_) (fun Ex g1 hx => hx.elim)
  obtain ⟨rfl, hC1, hF1⟩ := hw
  refine W.eq (g2 := F0 m 1361 ls [.int r.2.1]) rfl ?_
  refine lv_aload_n C.1 C.2.1 dL_law_1361 rfl (lv_at hl 2 rfl) ?_
  refine l_callV (md' := md_X12_tonic) (As := []) (rest := [.int r.2.1]) (d' := 60) (a := 84) (Qm := fun w g' => w = some (.int r.2.1) ∧ MR g' r.2.2 ∧ LF g1 g') (Xm := fun _ _ => False) C hP1 hS1 hl.1 dL_law_1362 ll_178 lm_X12_tonic lv_X12_tonic rfl (by decide) rfl rfl rfl (Nat.le_of_ble_eq_true rfl) (by show 60 + 1 ≤ 2048; decide) (by show 8 + (4 + 11) + 128 * 60 ≤ 84000; decide) (by show cells + 0 + 0 ≤ 601024; omega) (by show slots + 6 * 0 + 6 * 0 ≤ 7293034; omega) (n_tonic (hM.hf hF1) (fun h a b => by rw [← hr]; exact ⟨rfl, a, b⟩)) (fun w g2 hw H2 locs2 hP2 hS2 => ?_) (fun Ex g2 hx => hx.elim)
  obtain ⟨rfl, hM2, hF2⟩ := hw
  refine W.eq (g2 := F0 m 1365 ls [.int r.2.1, .int r.2.1]) rfl ?_
  refine lv_icmp_eq (tgt := 1976) C.1 C.2.1 dL_law_1365 (by decide) (fun _ => ?_) (fun q => absurd rfl q)
  refine W.widen (k := cells + 4) (n := slots + 24) (by show cells + 0 + 0 ≤ cells + 4; omega) (by show slots + 6 * 0 + 6 * 0 ≤ slots + 24; omega) ?_
  exact kn r.2.2 g2 v H2 locs2 ls hP2 hS2 (hC1.lf hF2) hM2 hO2 (lv_sub hl [0, 1, 2, 3, 4] rfl)
theorem z_like {E : En} {o : Nat} {cL : ClassId} {p : Program} {l : Launch} {e : Env} {s : State} {m : MethodId} {below : List Frame} {meth : Method} {c : Code} {H : Heap} {locs : List Loc} {cells slots : Nat} {Q : State → Prop} {ls : Array Slot} {g : G2} {v : Nat → Int64} {b L i : Nat} {xs : Nat → Int32} {σ : WS} (C : LXw E o cL (Alw s) p l s m #[Value.ref b] c cL_law 7) (hX : va_X b L xs s s.heap) (hbl : b < s.heap.size) (hL : L ≤ 3072) (hi : i + 5 < L) (hP : LPw E o cL g v H) (hS : va_S (Alw s) s.heap H locs) (hC : CR g σ) (hM : MR g σ) (hO : OKs σ) (hl : lv_has ls 7 (lawlv E b o i)) (hcl : cells + 4 ≤ 601024) (hsl : slots + 24 ≤ 7293034) (kn : LNx E o cL b p l e s m below meth c Q (cells + 4) (slots + 24) i) : W p l e room_1 s m #[Value.ref b] below meth c H locs cells slots Q (F0 m 1370 ls []) := by
  have hl : lv_has ls 7 [(0, .ref b), (1, .ref (E.1 0)), (2, .ref (E.1 84)), (3, .ref o), (4, .int (nI i))] := hl
  obtain ⟨r, hr⟩ : ∃ r : OR, q1 σ (likM σ.T (f_S σ.F) (xs (i + 1))) = r := ⟨_, rfl⟩
  have hO2 : OKs r.2.2 := by rw [← hr]; exact hO
  refine lv_aload_n C.1 C.2.1 dL_law_1370 rfl (lv_at hl 1 rfl) ?_
  refine l_sc (i := i) (k := 1) C.1 C.2.1 hX hbl hS (lv_at hl 0 rfl) (lv_at hl 4 rfl) dL_law_1371 dL_law_1372 dL_law_1374 (by decide +kernel) dL_law_1375 dL_law_1376 (by omega) hL ?_
  refine lv_aload_n C.1 C.2.1 dL_law_1377 rfl (lv_at hl 3 rfl) ?_
  refine l_callW (n := 3) (w := wd_like) (As := [.ref 0, .int (xs (i + 1))]) (rest := []) (d' := 60) (Qw := fun k g' v' => k = nI r.1 ∧ CR g' r.2.2 ∧ HF g g' ∧ r.1 ≤ 2 ∧ (r.1 = 0 → v' 0 = r.2.1.toInt64)) C hP hS hl.1 dL_law_1378 ll_179 wl_k_like wl_ini wl_s_like (by decide) (by decide +kernel) rfl rfl (Nat.le_of_ble_eq_true rfl) (by show 60 + 1 ≤ 2048; decide) (by show 8 + (4 + 11) + 128 * 60 ≤ 84000; decide) (by show cells + 1 ≤ 601024; omega) (by show slots + 6 * 1 ≤ 7293034; omega) (w_like hC hO (by rw [hr]; exact fun g' v' h1 h2 h3 h4 => ⟨rfl, h1, h2, h3, h4⟩)) (fun k g1 v1 hq H1 locs1 hP1 hS1 => ?_)
  obtain ⟨rfl, hC1, hF1, hle, hv1⟩ := hq
  refine lv_istore C.1 C.2.1 dL_law_1381 hl (by decide) rfl (fun ls1 hl1 => ?_)
  have hl1 : lv_has ls1 7 [(5, .int (nI r.1)), (0, .ref b), (1, .ref (E.1 0)), (2, .ref (E.1 84)), (3, .ref o), (4, .int (nI i))] := hl1
  refine lv_aload_n C.1 C.2.1 dL_law_1383 rfl (lv_at hl1 3 rfl) ?_
  refine l_sc (i := i) (k := 1) C.1 C.2.1 hX hbl hS1 (lv_at hl1 1 rfl) (lv_at hl1 5 rfl) dL_law_1384 dL_law_1385 dL_law_1387 (by decide +kernel) dL_law_1388 dL_law_1389 (by omega) hL ?_
  refine l_callV (md' := md_X12_like) (As := [.int (xs (i + 1))]) (rest := []) (d' := 60) (a := 84) (Qm := fun w g' => ∃ b9, w = some (.int b9) ∧ MR g' r.2.2 ∧ LF g1 g' ∧ g' 84 2 = nI r.1 ∧ (r.1 = 0 → b9 = r.2.1)) (Xm := fun _ _ => False) C hP1 hS1 hl1.1 dL_law_1390 ll_181 lm_X12_like lv_X12_like rfl (by decide) rfl rfl rfl (Nat.le_of_ble_eq_true rfl) (by show 60 + 1 ≤ 2048; decide) (by show 8 + (2 + 11) + 128 * 60 ≤ 84000; decide) (by show cells + 1 + 0 ≤ 601024; omega) (by show slots + 6 * 1 + 6 * 0 ≤ 7293034; omega) (n_like (hM.hf hF1) hO (by rw [hr]; exact fun h b9 h1 h2 h3 h4 => ⟨b9, rfl, h1, h2, h3, h4⟩)) (fun w g2 hw H2 locs2 hP2 hS2 => ?_) (fun Ex g2 hx => hx.elim)
  obtain ⟨b9, rfl, hM2, hF2, h84, hb9⟩ := hw
  refine W.eq (g2 := F0 m 1393 ls1 [.int b9]) rfl ?_
  refine lv_istore C.1 C.2.1 dL_law_1393 hl1 (by decide) rfl (fun ls2 hl2 => ?_)
  have hl2 : lv_has ls2 7 [(6, .int b9), (5, .int (nI r.1)), (0, .ref b), (1, .ref (E.1 0)), (2, .ref (E.1 84)), (3, .ref o), (4, .int (nI i))] := hl2
  refine lv_aload_n C.1 C.2.1 dL_law_1395 rfl (lv_at hl2 4 rfl) ?_
  refine l_callV (md' := md_X12_thrown) (As := []) (rest := []) (d' := 60) (a := 84) (Qm := fun w g' => w = some (.int (nI r.1)) ∧ g' = g2) (Xm := fun _ _ => False) C hP2 hS2 hl2.1 dL_law_1396 ll_102 lm_X12_thrown lv_X12_thrown rfl (by decide) rfl rfl rfl (Nat.le_of_ble_eq_true rfl) (by show 60 + 1 ≤ 2048; decide) (by show 8 + (1 + 11) + 128 * 60 ≤ 84000; decide) (by show cells + 1 + 0 + 0 ≤ 601024; omega) (by show slots + 6 * 1 + 6 * 0 + 6 * 0 ≤ 7293034; omega) (c_X12_thrown ⟨by rw [h84], rfl⟩) (fun w g3 hw H3 locs3 hP3 hS3 => ?_) (fun Ex g3 hx => hx.elim)
  obtain ⟨rfl, rfl⟩ := hw
  refine W.eq (g2 := F0 m 1399 ls2 [.int (nI r.1)]) rfl ?_
  refine lv_iload C.1 C.2.1 dL_law_1399 (lv_at hl2 1 rfl) ?_
  refine lv_icmp_eq (tgt := 1406) C.1 C.2.1 dL_law_1401 (by decide) (fun _ => ?_) (fun q => absurd rfl q)
  refine lv_iload C.1 C.2.1 dL_law_1406 (lv_at hl2 1 rfl) ?_
  have fin : W p l e room_1 s m #[Value.ref b] below meth c H3 locs3 (cells + 1 + 0 + 0) (slots + 6 * 1 + 6 * 0 + 6 * 0) Q (F0 m 1423 ls2 []) := by
    refine lv_goto (tgt := 1976) C.1 C.2.1 dL_law_1423 (by decide) ?_
    refine W.widen (k := cells + 4) (n := slots + 24) (by show cells + 1 + 0 + 0 ≤ cells + 4; omega) (by show slots + 6 * 1 + 6 * 0 + 6 * 0 ≤ slots + 24; omega) ?_
    exact kn r.2.2 g3 v1 H3 locs3 ls2 hP3 hS3 (hC1.lf hF2) hM2 hO2 (lv_sub hl2 [2, 3, 4, 5, 6] rfl)
  refine lv_if_ne (tgt := 1423) C.1 C.2.1 dL_law_1408 (by decide) (fun _ => fin) (fun hz => ?_)
  have r0 : r.1 = 0 := nI_inj (b := 0) (by omega) (by decide) hz
  refine lv_aload_n C.1 C.2.1 dL_law_1411 rfl (lv_at hl2 5 rfl) ?_
  refine lv_iconst (v := 0) C.1 C.2.1 dL_law_1412 (by decide +kernel) ?_
  refine va_lald (D := E.2.1) C.1 C.2.1 C.2.2.2.2.2.1 hP3 NID 3 (wlo_o (E := E) (g := g3) (o := o) (cL := cL) (v := v1)) rfl (by unfold vp_in; decide +kernel) dL_law_1413 ?_
  rw [show (0 : Int32).toNatClampNeg = 0 from rfl, hv1 r0]
  refine lv_iload C.1 C.2.1 dL_law_1414 (lv_at hl2 0 rfl) ?_
  rw [hb9 r0]
  refine lv_i2l C.1 C.2.1 dL_law_1416 rfl ?_
  refine W.lcmp C.1 C.2.1 dL_law_1417 ?_
  rw [lg_same]
  refine lv_if_eq (tgt := 1423) C.1 C.2.1 dL_law_1418 (by decide) (fun _ => fin) (fun q => absurd rfl q)
theorem z_then {E : En} {o : Nat} {cL : ClassId} {p : Program} {l : Launch} {e : Env} {s : State} {m : MethodId} {below : List Frame} {meth : Method} {c : Code} {H : Heap} {locs : List Loc} {cells slots : Nat} {Q : State → Prop} {ls : Array Slot} {g : G2} {v : Nat → Int64} {b L i : Nat} {xs : Nat → Int32} {σ : WS} (C : LXw E o cL (Alw s) p l s m #[Value.ref b] c cL_law 7) (hX : va_X b L xs s s.heap) (hbl : b < s.heap.size) (hL : L ≤ 3072) (hi : i + 5 < L) (hP : LPw E o cL g v H) (hS : va_S (Alw s) s.heap H locs) (hC : CR g σ) (hM : MR g σ) (hO : OKs σ) (hl : lv_has ls 7 (lawlv E b o i)) (hcl : cells + 4 ≤ 601024) (hsl : slots + 24 ≤ 7293034) (kn : LNx E o cL b p l e s m below meth c Q (cells + 4) (slots + 24) i) : W p l e room_1 s m #[Value.ref b] below meth c H locs cells slots Q (F0 m 1426 ls []) := by
  have hl : lv_has ls 7 [(0, .ref b), (1, .ref (E.1 0)), (2, .ref (E.1 84)), (3, .ref o), (4, .int (nI i))] := hl
  obtain ⟨r, hr⟩ : ∃ r : OR, q1 σ (theM σ.T (f_S σ.F) (xs (i + 1))) = r := ⟨_, rfl⟩
  have hO2 : OKs r.2.2 := by rw [← hr]; exact hO
  refine lv_aload_n C.1 C.2.1 dL_law_1426 rfl (lv_at hl 1 rfl) ?_
  refine l_sc (i := i) (k := 1) C.1 C.2.1 hX hbl hS (lv_at hl 0 rfl) (lv_at hl 4 rfl) dL_law_1427 dL_law_1428 dL_law_1430 (by decide +kernel) dL_law_1431 dL_law_1432 (by omega) hL ?_
  refine lv_aload_n C.1 C.2.1 dL_law_1433 rfl (lv_at hl 3 rfl) ?_
  refine l_callW (n := 3) (w := wd_then) (As := [.ref 0, .int (xs (i + 1))]) (rest := []) (d' := 60) (Qw := fun k g' v' => k = nI r.1 ∧ CR g' r.2.2 ∧ HF g g' ∧ r.1 ≤ 2 ∧ (r.1 = 0 → v' 0 = r.2.1.toInt64)) C hP hS hl.1 dL_law_1434 ll_182 wl_k_then wl_ini wl_s_then (by decide) (by decide +kernel) rfl rfl (Nat.le_of_ble_eq_true rfl) (by show 60 + 1 ≤ 2048; decide) (by show 8 + (4 + 11) + 128 * 60 ≤ 84000; decide) (by show cells + 1 ≤ 601024; omega) (by show slots + 6 * 1 ≤ 7293034; omega) (w_then hC hO (by rw [hr]; exact fun g' v' h1 h2 h3 h4 => ⟨rfl, h1, h2, h3, h4⟩)) (fun k g1 v1 hq H1 locs1 hP1 hS1 => ?_)
  obtain ⟨rfl, hC1, hF1, hle, hv1⟩ := hq
  refine lv_istore C.1 C.2.1 dL_law_1437 hl (by decide) rfl (fun ls1 hl1 => ?_)
  have hl1 : lv_has ls1 7 [(5, .int (nI r.1)), (0, .ref b), (1, .ref (E.1 0)), (2, .ref (E.1 84)), (3, .ref o), (4, .int (nI i))] := hl1
  refine lv_aload_n C.1 C.2.1 dL_law_1439 rfl (lv_at hl1 3 rfl) ?_
  refine l_sc (i := i) (k := 1) C.1 C.2.1 hX hbl hS1 (lv_at hl1 1 rfl) (lv_at hl1 5 rfl) dL_law_1440 dL_law_1441 dL_law_1443 (by decide +kernel) dL_law_1444 dL_law_1445 (by omega) hL ?_
  refine l_callV (md' := md_X12_then) (As := [.int (xs (i + 1))]) (rest := []) (d' := 60) (a := 84) (Qm := fun w g' => ∃ b9, w = some (.int b9) ∧ MR g' r.2.2 ∧ LF g1 g' ∧ g' 84 2 = nI r.1 ∧ (r.1 = 0 → b9 = r.2.1)) (Xm := fun _ _ => False) C hP1 hS1 hl1.1 dL_law_1446 ll_184 lm_X12_then lv_X12_then rfl (by decide) rfl rfl rfl (Nat.le_of_ble_eq_true rfl) (by show 60 + 1 ≤ 2048; decide) (by show 8 + (3 + 11) + 128 * 60 ≤ 84000; decide) (by show cells + 1 + 0 ≤ 601024; omega) (by show slots + 6 * 1 + 6 * 0 ≤ 7293034; omega) (n_then (hM.hf hF1) hO (by rw [hr]; exact fun h b9 h1 h2 h3 h4 => ⟨b9, rfl, h1, h2, h3, h4⟩)) (fun w g2 hw H2 locs2 hP2 hS2 => ?_) (fun Ex g2 hx => hx.elim)
  obtain ⟨b9, rfl, hM2, hF2, h84, hb9⟩ := hw
  refine W.eq (g2 := F0 m 1449 ls1 [.int b9]) rfl ?_
  refine lv_istore C.1 C.2.1 dL_law_1449 hl1 (by decide) rfl (fun ls2 hl2 => ?_)
  have hl2 : lv_has ls2 7 [(6, .int b9), (5, .int (nI r.1)), (0, .ref b), (1, .ref (E.1 0)), (2, .ref (E.1 84)), (3, .ref o), (4, .int (nI i))] := hl2
  refine lv_aload_n C.1 C.2.1 dL_law_1451 rfl (lv_at hl2 4 rfl) ?_
  refine l_callV (md' := md_X12_thrown) (As := []) (rest := []) (d' := 60) (a := 84) (Qm := fun w g' => w = some (.int (nI r.1)) ∧ g' = g2) (Xm := fun _ _ => False) C hP2 hS2 hl2.1 dL_law_1452 ll_102 lm_X12_thrown lv_X12_thrown rfl (by decide) rfl rfl rfl (Nat.le_of_ble_eq_true rfl) (by show 60 + 1 ≤ 2048; decide) (by show 8 + (1 + 11) + 128 * 60 ≤ 84000; decide) (by show cells + 1 + 0 + 0 ≤ 601024; omega) (by show slots + 6 * 1 + 6 * 0 + 6 * 0 ≤ 7293034; omega) (c_X12_thrown ⟨by rw [h84], rfl⟩) (fun w g3 hw H3 locs3 hP3 hS3 => ?_) (fun Ex g3 hx => hx.elim)
  obtain ⟨rfl, rfl⟩ := hw
  refine W.eq (g2 := F0 m 1455 ls2 [.int (nI r.1)]) rfl ?_
  refine lv_iload C.1 C.2.1 dL_law_1455 (lv_at hl2 1 rfl) ?_
  refine lv_icmp_eq (tgt := 1462) C.1 C.2.1 dL_law_1457 (by decide) (fun _ => ?_) (fun q => absurd rfl q)
  refine lv_iload C.1 C.2.1 dL_law_1462 (lv_at hl2 1 rfl) ?_
  have fin : W p l e room_1 s m #[Value.ref b] below meth c H3 locs3 (cells + 1 + 0 + 0) (slots + 6 * 1 + 6 * 0 + 6 * 0) Q (F0 m 1479 ls2 []) := by
    refine lv_goto (tgt := 1976) C.1 C.2.1 dL_law_1479 (by decide) ?_
    refine W.widen (k := cells + 4) (n := slots + 24) (by show cells + 1 + 0 + 0 ≤ cells + 4; omega) (by show slots + 6 * 1 + 6 * 0 + 6 * 0 ≤ slots + 24; omega) ?_
    exact kn r.2.2 g3 v1 H3 locs3 ls2 hP3 hS3 (hC1.lf hF2) hM2 hO2 (lv_sub hl2 [2, 3, 4, 5, 6] rfl)
  refine lv_if_ne (tgt := 1479) C.1 C.2.1 dL_law_1464 (by decide) (fun _ => fin) (fun hz => ?_)
  have r0 : r.1 = 0 := nI_inj (b := 0) (by omega) (by decide) hz
  refine lv_aload_n C.1 C.2.1 dL_law_1467 rfl (lv_at hl2 5 rfl) ?_
  refine lv_iconst (v := 0) C.1 C.2.1 dL_law_1468 (by decide +kernel) ?_
  refine va_lald (D := E.2.1) C.1 C.2.1 C.2.2.2.2.2.1 hP3 NID 3 (wlo_o (E := E) (g := g3) (o := o) (cL := cL) (v := v1)) rfl (by unfold vp_in; decide +kernel) dL_law_1469 ?_
  rw [show (0 : Int32).toNatClampNeg = 0 from rfl, hv1 r0]
  refine lv_iload C.1 C.2.1 dL_law_1470 (lv_at hl2 0 rfl) ?_
  rw [hb9 r0]
  refine lv_i2l C.1 C.2.1 dL_law_1472 rfl ?_
  refine W.lcmp C.1 C.2.1 dL_law_1473 ?_
  rw [lg_same]
  refine lv_if_eq (tgt := 1479) C.1 C.2.1 dL_law_1474 (by decide) (fun _ => fin) (fun q => absurd rfl q)
