theorem z0_feed {s : WS} {a b c e x : Int32} : (fedO s a b c e x).1 = 0 := by unfold fedO; split <;> rfl
theorem z0_restore {s : WS} : (resO s).1 = 0 := by unfold resO; split <;> rfl
section LawBool
variable {p : Program} {l : Launch} {e : Env} {R : Room} {s : State} {m : MethodId} {args : Array Value} {below : List Frame} {meth : Method} {c : Code} {H : Heap} {locs : List Loc} {cells slots : Nat} {Q : State → Prop} {cc : ByteArray} {pc : Nat} {ls : Array Slot} {rest : List Value}
/-- x != 0, as an argument -/
theorem l_bool {x : Int32} {off off2 : Int} {t t2 : Nat} (hx : p.tables.exec = Jvm.exec) (hb : c.code = cc) (d0 : decode cc pc = .ok (.ifCond .eq off, 3)) (h0 : (pc : Int) + off = (t : Int)) (h9 : t = pc + 3 + 1 + 3) (d1 : decode cc (pc + 3) = .ok (.iconst 1, 1)) (d2 : decode cc (pc + 3 + 1) = .ok (.goto off2, 3)) (h2 : ((pc + 3 + 1 : Nat) : Int) + off2 = (t2 : Int)) (h8 : t2 = t + 1) (d3 : decode cc t = .ok (.iconst 0, 1))
    (kk : W p l e R s m args below meth c H locs cells slots Q (F0 m (t + 1) ls (.int (b2i (!(decide (x = 0)))) :: rest))) : W p l e R s m args below meth c H locs cells slots Q (F0 m pc ls (.int x :: rest)) := by
  subst h8
  refine lv_if_eq (tgt := t) hx hb d0 h0 (fun q => ?_) (fun q => ?_)
  · refine lv_iconst (v := 0) hx hb d3 (by decide +kernel) ?_
    rw [decide_eq_true q] at kk
    exact kk
  · refine lv_iconst (v := 1) hx hb d1 (by decide +kernel) ?_
    refine lv_goto (tgt := t + 1) hx hb d2 h2 ?_
    rw [decide_eq_false q] at kk
    exact kk
/-- a boolean as a long -/
theorem l_lbool {x : Int32} {off off2 : Int} {t : Nat} (hx : p.tables.exec = Jvm.exec) (hb : c.code = cc) (d0 : decode cc pc = .ok (.ifCond .eq off, 3)) (h0 : (pc : Int) + off = (t : Int)) (d1 : decode cc (pc + 3) = .ok (.lconst 1, 1)) (d2 : decode cc (pc + 3 + 1) = .ok (.goto off2, 3)) (h2 : ((pc + 3 + 1 : Nat) : Int) + off2 = ((t + 1 : Nat) : Int)) (d3 : decode cc t = .ok (.lconst 0, 1))
    (kk : W p l e R s m args below meth c H locs cells slots Q (F0 m (t + 1) ls (.long (if x = 0 then 0 else 1) :: rest))) : W p l e R s m args below meth c H locs cells slots Q (F0 m pc ls (.int x :: rest)) := by
  refine lv_if_eq (tgt := t) hx hb d0 h0 (fun q => ?_) (fun q => ?_)
  · refine lv_lconst (v := 0) hx hb d3 rfl ?_
    rw [if_pos q] at kk
    exact kk
  · refine lv_lconst (v := 1) hx hb d1 rfl ?_
    refine lv_goto (tgt := t + 1) hx hb d2 h2 ?_
    rw [if_neg q] at kk
    exact kk
end LawBool
theorem z_town {E : En} {o : Nat} {cL : ClassId} {p : Program} {l : Launch} {e : Env} {s : State} {m : MethodId} {below : List Frame} {meth : Method} {c : Code} {H : Heap} {locs : List Loc} {cells slots : Nat} {Q : State → Prop} {ls : Array Slot} {g : G2} {v : Nat → Int64} {b L i : Nat} {xs : Nat → Int32} {σ : WS} (C : LXw E o cL (Alw s) p l s m #[Value.ref b] c cL_law 7) (hX : va_X b L xs s s.heap) (hbl : b < s.heap.size) (hL : L ≤ 3072) (hi : i + 5 < L) (hP : LPw E o cL g v H) (hS : va_S (Alw s) s.heap H locs) (hC : CR g σ) (hM : MR g σ) (hO : OKs σ) (hl : lv_has ls 7 (lawlv E b o i)) (hcl : cells + 4 ≤ 601024) (hsl : slots + 24 ≤ 7293034) (kn : LNx E o cL b p l e s m below meth c Q (cells + 4) (slots + 24) i) : W p l e room_1 s m #[Value.ref b] below meth c H locs cells slots Q (F0 m 277 ls []) := by
  have hl : lv_has ls 7 [(0, .ref b), (1, .ref (E.1 0)), (2, .ref (E.1 84)), (3, .ref o), (4, .int (nI i))] := hl
  obtain ⟨r, hr⟩ : ∃ r : OR, twO σ (xs (i + 1)) = r := ⟨_, rfl⟩
  have hO2 : OKs r.2.2 := by rw [← hr]; exact ok_town hO
  refine lv_aload_n C.1 C.2.1 dL_law_277 rfl (lv_at hl 1 rfl) ?_
  refine l_sc (i := i) (k := 1) C.1 C.2.1 hX hbl hS (lv_at hl 0 rfl) (lv_at hl 4 rfl) dL_law_278 dL_law_279 dL_law_281 (by decide +kernel) dL_law_282 dL_law_283 (by omega) hL ?_
  refine lv_aload_n C.1 C.2.1 dL_law_284 rfl (lv_at hl 3 rfl) ?_
  refine l_callW (n := 3) (w := wd_town) (As := [.ref 0, .int (xs (i + 1))]) (rest := []) (d' := 60) (Qw := fun k g' v' => k = nI r.1 ∧ CR g' r.2.2 ∧ HF g g' ∧ r.1 ≤ 2 ∧ (r.1 = 0 → v' 0 = r.2.1.toInt64)) C hP hS hl.1 dL_law_285 ll_96 wl_k_town wl_ini wl_s_town (by decide) (by decide +kernel) rfl rfl (Nat.le_of_ble_eq_true rfl) (by show 60 + 1 ≤ 2048; decide) (by show 8 + (4 + 11) + 128 * 60 ≤ 84000; decide) (by show cells + 1 ≤ 601024; omega) (by show slots + 6 * 1 ≤ 7293034; omega) (w_town hC hO (by rw [hr]; exact fun g' v' h1 h2 h3 h4 => ⟨rfl, h1, h2, h3, h4⟩)) (fun k g1 v1 hq H1 locs1 hP1 hS1 => ?_)
  obtain ⟨rfl, hC1, hF1, hle, hv1⟩ := hq
  refine lv_istore C.1 C.2.1 dL_law_288 hl (by decide) rfl (fun ls1 hl1 => ?_)
  have hl1 : lv_has ls1 7 [(5, .int (nI r.1)), (0, .ref b), (1, .ref (E.1 0)), (2, .ref (E.1 84)), (3, .ref o), (4, .int (nI i))] := hl1
  refine lv_aload_n C.1 C.2.1 dL_law_290 rfl (lv_at hl1 3 rfl) ?_
  refine l_sc (i := i) (k := 1) C.1 C.2.1 hX hbl hS1 (lv_at hl1 1 rfl) (lv_at hl1 5 rfl) dL_law_291 dL_law_292 dL_law_294 (by decide +kernel) dL_law_295 dL_law_296 (by omega) hL ?_
  refine l_callV (md' := md_X12_town) (As := [.int (xs (i + 1))]) (rest := []) (d' := 60) (a := 84) (Qm := fun w g' => ∃ b9, w = some (.int b9) ∧ MR g' r.2.2 ∧ LF g1 g' ∧ g' 84 2 = nI r.1 ∧ (r.1 = 0 → b9 = r.2.1)) (Xm := fun _ _ => False) C hP1 hS1 hl1.1 dL_law_297 ll_101 lm_X12_town lv_X12_town rfl (by decide) rfl rfl rfl (Nat.le_of_ble_eq_true rfl) (by show 60 + 1 ≤ 2048; decide) (by show 8 + (3 + 11) + 128 * 60 ≤ 84000; decide) (by show cells + 1 + 0 ≤ 601024; omega) (by show slots + 6 * 1 + 6 * 0 ≤ 7293034; omega) (n_town (hM.hf hF1) hO (by rw [hr]; exact fun h b9 h1 h2 h3 h4 => ⟨b9, rfl, h1, h2, h3, h4⟩)) (fun w g2 hw H2 locs2 hP2 hS2 => ?_) (fun Ex g2 hx => hx.elim)
  obtain ⟨b9, rfl, hM2, hF2, h84, hb9⟩ := hw
  refine W.eq (g2 := F0 m 300 ls1 [.int b9]) rfl ?_
  refine lv_istore C.1 C.2.1 dL_law_300 hl1 (by decide) rfl (fun ls2 hl2 => ?_)
  have hl2 : lv_has ls2 7 [(6, .int b9), (5, .int (nI r.1)), (0, .ref b), (1, .ref (E.1 0)), (2, .ref (E.1 84)), (3, .ref o), (4, .int (nI i))] := hl2
  refine lv_aload_n C.1 C.2.1 dL_law_302 rfl (lv_at hl2 4 rfl) ?_
  refine l_callV (md' := md_X12_thrown) (As := []) (rest := []) (d' := 60) (a := 84) (Qm := fun w g' => w = some (.int (nI r.1)) ∧ g' = g2) (Xm := fun _ _ => False) C hP2 hS2 hl2.1 dL_law_303 ll_102 lm_X12_thrown lv_X12_thrown rfl (by decide) rfl rfl rfl (Nat.le_of_ble_eq_true rfl) (by show 60 + 1 ≤ 2048; decide) (by show 8 + (1 + 11) + 128 * 60 ≤ 84000; decide) (by show cells + 1 + 0 + 0 ≤ 601024; omega) (by show slots + 6 * 1 + 6 * 0 + 6 * 0 ≤ 7293034; omega) (c_X12_thrown ⟨by rw [h84], rfl⟩) (fun w g3 hw H3 locs3 hP3 hS3 => ?_) (fun Ex g3 hx => hx.elim)
  obtain ⟨rfl, rfl⟩ := hw
  refine W.eq (g2 := F0 m 306 ls2 [.int (nI r.1)]) rfl ?_
  refine lv_iload C.1 C.2.1 dL_law_306 (lv_at hl2 1 rfl) ?_
  refine lv_icmp_eq (tgt := 313) C.1 C.2.1 dL_law_308 (by decide) (fun _ => ?_) (fun q => absurd rfl q)
  refine lv_iload C.1 C.2.1 dL_law_313 (lv_at hl2 1 rfl) ?_
  have fin : W p l e room_1 s m #[Value.ref b] below meth c H3 locs3 (cells + 1 + 0 + 0) (slots + 6 * 1 + 6 * 0 + 6 * 0) Q (F0 m 330 ls2 []) := by
    refine lv_goto (tgt := 1976) C.1 C.2.1 dL_law_330 (by decide) ?_
    refine W.widen (k := cells + 4) (n := slots + 24) (by show cells + 1 + 0 + 0 ≤ cells + 4; omega) (by show slots + 6 * 1 + 6 * 0 + 6 * 0 ≤ slots + 24; omega) ?_
    exact kn r.2.2 g3 v1 H3 locs3 ls2 hP3 hS3 (hC1.lf hF2) hM2 hO2 (lv_sub hl2 [2, 3, 4, 5, 6] rfl)
  refine lv_if_ne (tgt := 330) C.1 C.2.1 dL_law_315 (by decide) (fun _ => fin) (fun hz => ?_)
  have r0 : r.1 = 0 := nI_inj (b := 0) (by omega) (by decide) hz
  refine lv_aload_n C.1 C.2.1 dL_law_318 rfl (lv_at hl2 5 rfl) ?_
  refine lv_iconst (v := 0) C.1 C.2.1 dL_law_319 (by decide +kernel) ?_
  refine va_lald (D := E.2.1) C.1 C.2.1 C.2.2.2.2.2.1 hP3 NID 3 (wlo_o (E := E) (g := g3) (o := o) (cL := cL) (v := v1)) rfl (by unfold vp_in; decide +kernel) dL_law_320 ?_
  rw [show (0 : Int32).toNatClampNeg = 0 from rfl, hv1 r0]
  refine lv_iload C.1 C.2.1 dL_law_321 (lv_at hl2 0 rfl) ?_
  rw [hb9 r0]
  refine lv_i2l C.1 C.2.1 dL_law_323 rfl ?_
  refine W.lcmp C.1 C.2.1 dL_law_324 ?_
  rw [lg_same]
  refine lv_if_eq (tgt := 330) C.1 C.2.1 dL_law_325 (by decide) (fun _ => fin) (fun q => absurd rfl q)
theorem z_fault {E : En} {o : Nat} {cL : ClassId} {p : Program} {l : Launch} {e : Env} {s : State} {m : MethodId} {below : List Frame} {meth : Method} {c : Code} {H : Heap} {locs : List Loc} {cells slots : Nat} {Q : State → Prop} {ls : Array Slot} {g : G2} {v : Nat → Int64} {b L i : Nat} {xs : Nat → Int32} {σ : WS} (C : LXw E o cL (Alw s) p l s m #[Value.ref b] c cL_law 7) (hX : va_X b L xs s s.heap) (hbl : b < s.heap.size) (hL : L ≤ 3072) (hi : i + 5 < L) (hP : LPw E o cL g v H) (hS : va_S (Alw s) s.heap H locs) (hC : CR g σ) (hM : MR g σ) (hO : OKs σ) (hl : lv_has ls 7 (lawlv E b o i)) (hcl : cells + 4 ≤ 601024) (hsl : slots + 24 ≤ 7293034) (kn : LNx E o cL b p l e s m below meth c Q (cells + 4) (slots + 24) i) : W p l e room_1 s m #[Value.ref b] below meth c H locs cells slots Q (F0 m 333 ls []) := by
  have hl : lv_has ls 7 [(0, .ref b), (1, .ref (E.1 0)), (2, .ref (E.1 84)), (3, .ref o), (4, .int (nI i))] := hl
  obtain ⟨r, hr⟩ : ∃ r : OR, ((0, σ.fl, σ) : OR) = r := ⟨_, rfl⟩
  have hO2 : OKs r.2.2 := by rw [← hr]; exact hO
  have r0 : r.1 = 0 := by rw [← hr]
  refine lv_aload_n C.1 C.2.1 dL_law_333 rfl (lv_at hl 1 rfl) ?_
  refine l_callV (md' := md_X11_fault) (As := []) (rest := []) (d' := 60) (a := 0) (Qm := fun w g' => w = some (.int r.2.1) ∧ CR g' r.2.2 ∧ HF g g') (Xm := fun _ _ => False) C hP hS hl.1 dL_law_334 ll_106 lm_X11_fault lv_X11_fault rfl (by decide) rfl rfl rfl (Nat.le_of_ble_eq_true rfl) (by show 60 + 1 ≤ 2048; decide) (by show 8 + (1 + 11) + 128 * 60 ≤ 84000; decide) (by show cells + 0 ≤ 601024; omega) (by show slots + 6 * 0 ≤ 7293034; omega) (k_fault hC (by rw [← hr]; exact ⟨rfl, hC, fun _ _ => rfl⟩)) (fun w g1 hw H1 locs1 hP1 hS1 => ?_) (fun Ex g1 hx => hx.elim)
  obtain ⟨rfl, hC1, hF1⟩ := hw
  refine W.eq (g2 := F0 m 337 ls [.int r.2.1]) rfl ?_
  refine lv_aload_n C.1 C.2.1 dL_law_337 rfl (lv_at hl 2 rfl) ?_
  refine l_callV (md' := md_X12_fault) (As := []) (rest := [.int r.2.1]) (d' := 60) (a := 84) (Qm := fun w g' => w = some (.int r.2.1) ∧ MR g' r.2.2 ∧ LF g1 g') (Xm := fun _ _ => False) C hP1 hS1 hl.1 dL_law_338 ll_109 lm_X12_fault lv_X12_fault rfl (by decide) rfl rfl rfl (Nat.le_of_ble_eq_true rfl) (by show 60 + 1 ≤ 2048; decide) (by show 8 + (1 + 11) + 128 * 60 ≤ 84000; decide) (by show cells + 0 + 0 ≤ 601024; omega) (by show slots + 6 * 0 + 6 * 0 ≤ 7293034; omega) (n_fault (hM.hf hF1) (fun h a b => by rw [← hr]; exact ⟨rfl, a, b⟩)) (fun w g2 hw H2 locs2 hP2 hS2 => ?_) (fun Ex g2 hx => hx.elim)
  obtain ⟨rfl, hM2, hF2⟩ := hw
  refine W.eq (g2 := F0 m 341 ls [.int r.2.1, .int r.2.1]) rfl ?_
  refine lv_icmp_eq (tgt := 1976) C.1 C.2.1 dL_law_341 (by decide) (fun _ => ?_) (fun q => absurd rfl q)
  refine W.widen (k := cells + 4) (n := slots + 24) (by show cells + 0 + 0 ≤ cells + 4; omega) (by show slots + 6 * 0 + 6 * 0 ≤ slots + 24; omega) ?_
  exact kn r.2.2 g2 v H2 locs2 ls hP2 hS2 (hC1.lf hF2) hM2 hO2 (lv_sub hl [0, 1, 2, 3, 4] rfl)
theorem z_feed {E : En} {o : Nat} {cL : ClassId} {p : Program} {l : Launch} {e : Env} {s : State} {m : MethodId} {below : List Frame} {meth : Method} {c : Code} {H : Heap} {locs : List Loc} {cells slots : Nat} {Q : State → Prop} {ls : Array Slot} {g : G2} {v : Nat → Int64} {b L i : Nat} {xs : Nat → Int32} {σ : WS} (C : LXw E o cL (Alw s) p l s m #[Value.ref b] c cL_law 7) (hX : va_X b L xs s s.heap) (hbl : b < s.heap.size) (hL : L ≤ 3072) (hi : i + 5 < L) (hP : LPw E o cL g v H) (hS : va_S (Alw s) s.heap H locs) (hC : CR g σ) (hM : MR g σ) (hO : OKs σ) (hl : lv_has ls 7 (lawlv E b o i)) (hcl : cells + 4 ≤ 601024) (hsl : slots + 24 ≤ 7293034) (kn : LNx E o cL b p l e s m below meth c Q (cells + 4) (slots + 24) i) : W p l e room_1 s m #[Value.ref b] below meth c H locs cells slots Q (F0 m 204 ls []) := by
  have hl : lv_has ls 7 [(0, .ref b), (1, .ref (E.1 0)), (2, .ref (E.1 84)), (3, .ref o), (4, .int (nI i))] := hl
  obtain ⟨r, hr⟩ : ∃ r : OR, fedO σ (xs (i + 1)) (xs (i + 2)) (xs (i + 3)) (xs (i + 4)) (xs (i + 5)) = r := ⟨_, rfl⟩
  have hO2 : OKs r.2.2 := by rw [← hr]; exact ok_feed hO
  have r0 : r.1 = 0 := by rw [← hr]; exact z0_feed
  refine lv_aload_n C.1 C.2.1 dL_law_204 rfl (lv_at hl 1 rfl) ?_
  refine l_sc (i := i) (k := 1) C.1 C.2.1 hX hbl hS (lv_at hl 0 rfl) (lv_at hl 4 rfl) dL_law_205 dL_law_206 dL_law_208 (by decide +kernel) dL_law_209 dL_law_210 (by omega) hL ?_
  refine l_sc (i := i) (k := 2) C.1 C.2.1 hX hbl hS (lv_at hl 0 rfl) (lv_at hl 4 rfl) dL_law_211 dL_law_212 dL_law_214 (by decide +kernel) dL_law_215 dL_law_216 (by omega) hL ?_
  refine l_sc (i := i) (k := 3) C.1 C.2.1 hX hbl hS (lv_at hl 0 rfl) (lv_at hl 4 rfl) dL_law_217 dL_law_218 dL_law_220 (by decide +kernel) dL_law_221 dL_law_222 (by omega) hL ?_
  refine l_sc (i := i) (k := 4) C.1 C.2.1 hX hbl hS (lv_at hl 0 rfl) (lv_at hl 4 rfl) dL_law_223 dL_law_224 dL_law_226 (by decide +kernel) dL_law_227 dL_law_228 (by omega) hL ?_
  refine l_sc (i := i) (k := 5) C.1 C.2.1 hX hbl hS (lv_at hl 0 rfl) (lv_at hl 4 rfl) dL_law_229 dL_law_230 dL_law_232 (by decide +kernel) dL_law_233 dL_law_234 (by omega) hL ?_
  refine l_callV (md' := md_X11_feed) (As := [.int (xs (i + 1)), .int (xs (i + 2)), .int (xs (i + 3)), .int (xs (i + 4)), .int (xs (i + 5))]) (rest := []) (d' := 60) (a := 0) (Qm := fun w g' => w = some (.int r.2.1) ∧ CR g' r.2.2 ∧ HF g g') (Xm := fun _ _ => False) C hP hS hl.1 dL_law_235 ll_91 lm_X11_feed lv_X11_feed rfl (by decide) rfl rfl rfl (Nat.le_of_ble_eq_true rfl) (by show 60 + 1 ≤ 2048; decide) (by show 8 + (6 + 11) + 128 * 60 ≤ 84000; decide) (by show cells + 0 ≤ 601024; omega) (by show slots + 6 * 0 ≤ 7293034; omega) (k_feed hC hO (by rw [hr]; exact ⟨fun h a b _ => ⟨rfl, a, b⟩, fun h a b c => (by rw [r0] at c; cases c), fun h a b c => (by rw [r0] at c; cases c)⟩)) (fun w g1 hw H1 locs1 hP1 hS1 => ?_) (fun Ex g1 hx => hx.elim)
  obtain ⟨rfl, hC1, hF1⟩ := hw
  refine W.eq (g2 := F0 m 238 ls [.int r.2.1]) rfl ?_
  refine lv_aload_n C.1 C.2.1 dL_law_238 rfl (lv_at hl 2 rfl) ?_
  refine l_sc (i := i) (k := 1) C.1 C.2.1 hX hbl hS1 (lv_at hl 0 rfl) (lv_at hl 4 rfl) dL_law_239 dL_law_240 dL_law_242 (by decide +kernel) dL_law_243 dL_law_244 (by omega) hL ?_
  refine l_sc (i := i) (k := 2) C.1 C.2.1 hX hbl hS1 (lv_at hl 0 rfl) (lv_at hl 4 rfl) dL_law_245 dL_law_246 dL_law_248 (by decide +kernel) dL_law_249 dL_law_250 (by omega) hL ?_
  refine l_sc (i := i) (k := 3) C.1 C.2.1 hX hbl hS1 (lv_at hl 0 rfl) (lv_at hl 4 rfl) dL_law_251 dL_law_252 dL_law_254 (by decide +kernel) dL_law_255 dL_law_256 (by omega) hL ?_
  refine l_sc (i := i) (k := 4) C.1 C.2.1 hX hbl hS1 (lv_at hl 0 rfl) (lv_at hl 4 rfl) dL_law_257 dL_law_258 dL_law_260 (by decide +kernel) dL_law_261 dL_law_262 (by omega) hL ?_
  refine l_sc (i := i) (k := 5) C.1 C.2.1 hX hbl hS1 (lv_at hl 0 rfl) (lv_at hl 4 rfl) dL_law_263 dL_law_264 dL_law_266 (by decide +kernel) dL_law_267 dL_law_268 (by omega) hL ?_
  refine l_callV (md' := md_X12_feed) (As := [.int (xs (i + 1)), .int (xs (i + 2)), .int (xs (i + 3)), .int (xs (i + 4)), .int (xs (i + 5))]) (rest := [.int r.2.1]) (d' := 60) (a := 84) (Qm := fun w g' => w = some (.int r.2.1) ∧ MR g' r.2.2 ∧ LF g1 g') (Xm := fun _ _ => False) C hP1 hS1 hl.1 dL_law_269 ll_95 lm_X12_feed lv_X12_feed rfl (by decide) rfl rfl rfl (Nat.le_of_ble_eq_true rfl) (by show 60 + 1 ≤ 2048; decide) (by show 8 + (8 + 11) + 128 * 60 ≤ 84000; decide) (by show cells + 0 + 0 ≤ 601024; omega) (by show slots + 6 * 0 + 6 * 0 ≤ 7293034; omega) (n_feed (hM.hf hF1) hO (by rw [hr]; exact fun h b9 h1 h2 h3 h4 => ⟨by rw [h4 r0], h1, h2⟩)) (fun w g2 hw H2 locs2 hP2 hS2 => ?_) (fun Ex g2 hx => hx.elim)
  obtain ⟨rfl, hM2, hF2⟩ := hw
  refine W.eq (g2 := F0 m 272 ls [.int r.2.1, .int r.2.1]) rfl ?_
  refine lv_icmp_eq (tgt := 1976) C.1 C.2.1 dL_law_272 (by decide) (fun _ => ?_) (fun q => absurd rfl q)
  refine W.widen (k := cells + 4) (n := slots + 24) (by show cells + 0 + 0 ≤ cells + 4; omega) (by show slots + 6 * 0 + 6 * 0 ≤ slots + 24; omega) ?_
  exact kn r.2.2 g2 v H2 locs2 ls hP2 hS2 (hC1.lf hF2) hM2 hO2 (lv_sub hl [0, 1, 2, 3, 4] rfl)
theorem z_forget {E : En} {o : Nat} {cL : ClassId} {p : Program} {l : Launch} {e : Env} {s : State} {m : MethodId} {below : List Frame} {meth : Method} {c : Code} {H : Heap} {locs : List Loc} {cells slots : Nat} {Q : State → Prop} {ls : Array Slot} {g : G2} {v : Nat → Int64} {b L i : Nat} {xs : Nat → Int32} {σ : WS} (C : LXw E o cL (Alw s) p l s m #[Value.ref b] c cL_law 7) (hX : va_X b L xs s s.heap) (hbl : b < s.heap.size) (hL : L ≤ 3072) (hi : i + 5 < L) (hP : LPw E o cL g v H) (hS : va_S (Alw s) s.heap H locs) (hC : CR g σ) (hM : MR g σ) (hO : OKs σ) (hl : lv_has ls 7 (lawlv E b o i)) (hcl : cells + 4 ≤ 601024) (hsl : slots + 24 ≤ 7293034) (kn : LNx E o cL b p l e s m below meth c Q (cells + 4) (slots + 24) i) : W p l e room_1 s m #[Value.ref b] below meth c H locs cells slots Q (F0 m 1768 ls []) := by
  have hl : lv_has ls 7 [(0, .ref b), (1, .ref (E.1 0)), (2, .ref (E.1 84)), (3, .ref o), (4, .int (nI i))] := hl
  have hO2 : OKs (setF σ (forF σ.F)) := ok_act hO hO.2.1.forg
  refine lv_aload_n C.1 C.2.1 dL_law_1768 rfl (lv_at hl 1 rfl) ?_
  refine l_callV (md' := md_X11_forget) (As := []) (rest := []) (d' := 60) (a := 0) (Qm := fun w g' => w = none ∧ CR g' (setF σ (forF σ.F)) ∧ HF g g') (Xm := fun _ _ => False) C hP hS hl.1 dL_law_1769 ll_205 lm_X11_forget lv_X11_forget rfl (by decide) rfl rfl rfl (Nat.le_of_ble_eq_true rfl) (by show 60 + 1 ≤ 2048; decide) (by show 8 + (1 + 11) + 128 * 60 ≤ 84000; decide) (by show cells + 0 ≤ 601024; omega) (by show slots + 6 * 0 ≤ 7293034; omega) (k_forget hC (fun h a b => ⟨rfl, a, b⟩)) (fun w g1 hw H1 locs1 hP1 hS1 => ?_) (fun Ex g1 hx => hx.elim)
  obtain ⟨rfl, hC1, hF1⟩ := hw
  refine W.eq (g2 := F0 m 1772 ls []) rfl ?_
  refine lv_aload_n C.1 C.2.1 dL_law_1772 rfl (lv_at hl 2 rfl) ?_
  refine l_callV (md' := md_X12_forget) (As := []) (rest := []) (d' := 60) (a := 84) (Qm := fun w g' => w = none ∧ MR g' (setF σ (forF σ.F)) ∧ LF g1 g') (Xm := fun _ _ => False) C hP1 hS1 hl.1 dL_law_1773 ll_208 lm_X12_forget lv_X12_forget rfl (by decide) rfl rfl rfl (Nat.le_of_ble_eq_true rfl) (by show 60 + 1 ≤ 2048; decide) (by show 8 + (1 + 11) + 128 * 60 ≤ 84000; decide) (by show cells + 0 + 0 ≤ 601024; omega) (by show slots + 6 * 0 + 6 * 0 ≤ 7293034; omega) (n_forget (hM.hf hF1) (fun h a b => ⟨rfl, a, b⟩)) (fun w g2 hw H2 locs2 hP2 hS2 => ?_) (fun Ex g2 hx => hx.elim)
  obtain ⟨rfl, hM2, hF2⟩ := hw
  refine W.eq (g2 := F0 m 1776 ls []) rfl ?_
  refine lv_goto (tgt := 1976) C.1 C.2.1 dL_law_1776 (by decide) ?_
  refine W.widen (k := cells + 4) (n := slots + 24) (by show cells + 0 + 0 ≤ cells + 4; omega) (by show slots + 6 * 0 + 6 * 0 ≤ slots + 24; omega) ?_
  exact kn (setF σ (forF σ.F)) g2 v H2 locs2 ls hP2 hS2 (hC1.lf hF2) hM2 hO2 (lv_sub hl [0, 1, 2, 3, 4] rfl)
