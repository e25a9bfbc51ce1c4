theorem w_count {E : En} {o : Nat} {cL : ClassId} {d : Nat} {g : G2} {v : Nat → Int64} {Qw : Int32 → G2 → (Nat → Int64) → Prop} {s : WS} {w : Int32} (hC : CR g s) (hO : OKs s) (hq : ∀ g' v', CR g' (q1 s (couM s.T (f_S s.F) (nI (f_na s.F)) (nI (f_nh s.F)) (nI s.m) (f_g s.F 2) w)).2.2 → HF g g' → (q1 s (couM s.T (f_S s.F) (nI (f_na s.F)) (nI (f_nh s.F)) (nI s.m) (f_g s.F 2) w)).1 ≤ 2 → ((q1 s (couM s.T (f_S s.F) (nI (f_na s.F)) (nI (f_nh s.F)) (nI s.m) (f_g s.F 2) w)).1 = 0 → v' 0 = (q1 s (couM s.T (f_S s.F) (nI (f_na s.F)) (nI (f_nh s.F)) (nI s.m) (f_g s.F 2) w)).2.1.toInt64) → Qw (nI (q1 s (couM s.T (f_S s.F) (nI (f_na s.F)) (nI (f_nh s.F)) (nI s.m) (f_g s.F 2) w)).1) g' v') : WMc E o cL wd_count (d + 7) [.ref 0, .int w] g v Qw := by
  refine WMc.of rfl rfl (Nat.le_of_ble_eq_true rfl) (fun p9 l9 e9 s9 m args9 below9 meth9 c9 ls C hr hlk htab hl hP => ?_)
  have hl : lv_has ls 4 [(0, .ref (E.1 0)), (1, .int w), (2, .ref o)] := hl
  refine lv_aload_n C.1 C.2.1 dL_count_0 rfl (lv_at hl 2 rfl) ?_
  refine lv_iconst (v := 0) C.1 C.2.1 dL_count_1 (by decide +kernel) ?_
  refine lv_aload_n C.1 C.2.1 dL_count_2 rfl (lv_at hl 0 rfl) ?_
  refine lv_iload_n C.1 C.2.1 dL_count_3 rfl (lv_at hl 1 rfl) ?_
  refine l_callV (md' := md_X11_count) (As := [.int w]) (rest := [.int 0, .ref o]) (d' := d + 6) (a := 0) C hP va_S.rf hl.1 dL_count_4 ll_15 lm_X11_count lv_X11_count rfl (by decide) rfl rfl rfl (Nat.le_of_ble_eq_true rfl) (Nat.le_refl _) (by show 8 + (2 + 11) + 128 * (d + 6) ≤ 128 * (d + 7); omega) (by show 0 + 1 ≤ 1; decide) (by show 0 + 6 * 1 ≤ 6 * 1; decide) (k_count hC hO KQ.mk) (fun w g' hw H1 locs1 hP1 hS1 => ?_) (fun Ex g' hx H1 locs1 ce q hP1 hS1 hce hcv hcl => ?_)
  · obtain ⟨rfl, r0, hC1, hF1⟩ := hw
    refine W.eq (g2 := F0 m 7 ls [.int (q1 s (couM s.T (f_S s.F) (nI (f_na s.F)) (nI (f_nh s.F)) (nI s.m) (f_g s.F 2) w)).2.1, .int 0, .ref o]) rfl ?_
    refine lv_i2l C.1 C.2.1 dL_count_7 rfl ?_
    refine l_out C hP1 hS1 dL_count_8 (fun v' hv' H2 locs2 hP2 hS2 => ?_)
    refine lv_goto (tgt := 15) C.1 C.2.1 dL_count_9 (by decide) ?_
    refine lv_iconst (v := 0) C.1 C.2.1 dL_count_15 (by decide +kernel) ?_
    refine W.widen (k := 1) (n := 6 * 1) (by decide) (by decide) (vx_ret ?_)
    have hz := hq g' v' hC1 hF1 (by rw [r0]; decide) (fun _ => hv')
    rw [r0] at hz
    exact W.iret C.1 C.2.1 hr (fun t ht _ => ⟨⟨0, g', v', rfl, hz, by rw [ht]; exact hP2⟩, hS2.F ht⟩) hS2.2.2 dL_count_16 (hlocks := hlk)
  · rcases hx with ⟨⟨rfl, r1⟩ | ⟨rfl, r2⟩, hC1, hF1⟩
    · refine l_catch1 (x := ⟨0, 9, 12, 18⟩) C htab (by decide) (by decide) wl_c18 (by decide +kernel) hce hcv hcl ?_
      refine lv_astore_n C.1 C.2.1 dL_count_12 rfl hl (by decide) rfl (fun ls2 hl2 => ?_)
      refine lv_iconst (v := 1) C.1 C.2.1 dL_count_13 (by decide +kernel) ?_
      refine W.widen (k := 1) (n := 6 * 1) (by decide) (by decide) (vx_ret ?_)
      have hz := hq g' v hC1 hF1 (by rw [r1]; decide) (fun q => by rw [r1] at q; cases q)
      rw [r1] at hz
      exact W.iret C.1 C.2.1 hr (fun t ht _ => ⟨⟨1, g', v, rfl, hz, by rw [ht]; exact hP1⟩, hS1.F ht⟩) hS1.2.2 dL_count_14 (hlocks := hlk)
    · exact absurd r2 e2_count
theorem w_person {E : En} {o : Nat} {cL : ClassId} {d : Nat} {g : G2} {v : Nat → Int64} {Qw : Int32 → G2 → (Nat → Int64) → Prop} {s : WS} {x : Int32} {w : Int32} (hC : CR g s) (hO : OKs s) (hq : ∀ g' v', CR g' (q1 s (perM s.T (f_S s.F) x w)).2.2 → HF g g' → (q1 s (perM s.T (f_S s.F) x w)).1 ≤ 2 → ((q1 s (perM s.T (f_S s.F) x w)).1 = 0 → v' 0 = (q1 s (perM s.T (f_S s.F) x w)).2.1.toInt64) → Qw (nI (q1 s (perM s.T (f_S s.F) x w)).1) g' v') : WMc E o cL wd_person (d + 8) [.ref 0, .int x, .int w] g v Qw := by
  refine WMc.of rfl rfl (Nat.le_of_ble_eq_true rfl) (fun p9 l9 e9 s9 m args9 below9 meth9 c9 ls C hr hlk htab hl hP => ?_)
  have hl : lv_has ls 5 [(0, .ref (E.1 0)), (1, .int x), (2, .int w), (3, .ref o)] := hl
  refine lv_aload_n C.1 C.2.1 dL_person_0 rfl (lv_at hl 3 rfl) ?_
  refine lv_iconst (v := 0) C.1 C.2.1 dL_person_1 (by decide +kernel) ?_
  refine lv_aload_n C.1 C.2.1 dL_person_2 rfl (lv_at hl 0 rfl) ?_
  refine lv_iload_n C.1 C.2.1 dL_person_3 rfl (lv_at hl 1 rfl) ?_
  refine lv_iload_n C.1 C.2.1 dL_person_4 rfl (lv_at hl 2 rfl) ?_
  refine l_callV (md' := md_X11_person) (As := [.int x, .int w]) (rest := [.int 0, .ref o]) (d' := d + 7) (a := 0) C hP va_S.rf hl.1 dL_person_5 ll_20 lm_X11_person lv_X11_person rfl (by decide) rfl rfl rfl (Nat.le_of_ble_eq_true rfl) (Nat.le_refl _) (by show 8 + (3 + 11) + 128 * (d + 7) ≤ 128 * (d + 8); omega) (by show 0 + 2 ≤ 2; decide) (by show 0 + 6 * 2 ≤ 6 * 2; decide) (k_person hC hO KQ.mk) (fun w g' hw H1 locs1 hP1 hS1 => ?_) (fun Ex g' hx H1 locs1 ce q hP1 hS1 hce hcv hcl => ?_)
  · obtain ⟨rfl, r0, hC1, hF1⟩ := hw
    refine W.eq (g2 := F0 m 8 ls [.int (q1 s (perM s.T (f_S s.F) x w)).2.1, .int 0, .ref o]) rfl ?_
    refine lv_i2l C.1 C.2.1 dL_person_8 rfl ?_
    refine l_out C hP1 hS1 dL_person_9 (fun v' hv' H2 locs2 hP2 hS2 => ?_)
    refine lv_goto (tgt := 17) C.1 C.2.1 dL_person_10 (by decide) ?_
    refine lv_iconst (v := 0) C.1 C.2.1 dL_person_17 (by decide +kernel) ?_
    refine W.widen (k := 2) (n := 6 * 2) (by decide) (by decide) (vx_ret ?_)
    have hz := hq g' v' hC1 hF1 (by rw [r0]; decide) (fun _ => hv')
    rw [r0] at hz
    exact W.iret C.1 C.2.1 hr (fun t ht _ => ⟨⟨0, g', v', rfl, hz, by rw [ht]; exact hP2⟩, hS2.F ht⟩) hS2.2.2 dL_person_18 (hlocks := hlk)
  · rcases hx with ⟨⟨rfl, r1⟩ | ⟨rfl, r2⟩, hC1, hF1⟩
    · refine l_catch1 (x := ⟨0, 10, 13, 18⟩) C htab (by decide) (by decide) wl_c18 (by decide +kernel) hce hcv hcl ?_
      refine lv_astore C.1 C.2.1 dL_person_13 hl (by decide) rfl (fun ls2 hl2 => ?_)
      refine lv_iconst (v := 1) C.1 C.2.1 dL_person_15 (by decide +kernel) ?_
      refine W.widen (k := 2) (n := 6 * 2) (by decide) (by decide) (vx_ret ?_)
      have hz := hq g' v hC1 hF1 (by rw [r1]; decide) (fun q => by rw [r1] at q; cases q)
      rw [r1] at hz
      exact W.iret C.1 C.2.1 hr (fun t ht _ => ⟨⟨1, g', v, rfl, hz, by rw [ht]; exact hP1⟩, hS1.F ht⟩) hS1.2.2 dL_person_16 (hlocks := hlk)
    · exact absurd r2 e2_person
theorem w_feud {E : En} {o : Nat} {cL : ClassId} {d : Nat} {g : G2} {v : Nat → Int64} {Qw : Int32 → G2 → (Nat → Int64) → Prop} {s : WS} {x : Int32} {w : Int32} (hC : CR g s) (hO : OKs s) (hq : ∀ g' v', CR g' (q1 s (feuM (f_S s.F) x w)).2.2 → HF g g' → (q1 s (feuM (f_S s.F) x w)).1 ≤ 2 → ((q1 s (feuM (f_S s.F) x w)).1 = 0 → v' 0 = (q1 s (feuM (f_S s.F) x w)).2.1.toInt64) → Qw (nI (q1 s (feuM (f_S s.F) x w)).1) g' v') : WMc E o cL wd_feud (d + 8) [.ref 0, .int x, .int w] g v Qw := by
  refine WMc.of rfl rfl (Nat.le_of_ble_eq_true rfl) (fun p9 l9 e9 s9 m args9 below9 meth9 c9 ls C hr hlk htab hl hP => ?_)
  have hl : lv_has ls 5 [(0, .ref (E.1 0)), (1, .int x), (2, .int w), (3, .ref o)] := hl
  refine lv_aload_n C.1 C.2.1 dL_feud_0 rfl (lv_at hl 3 rfl) ?_
  refine lv_iconst (v := 0) C.1 C.2.1 dL_feud_1 (by decide +kernel) ?_
  refine lv_aload_n C.1 C.2.1 dL_feud_2 rfl (lv_at hl 0 rfl) ?_
  refine lv_iload_n C.1 C.2.1 dL_feud_3 rfl (lv_at hl 1 rfl) ?_
  refine lv_iload_n C.1 C.2.1 dL_feud_4 rfl (lv_at hl 2 rfl) ?_
  refine l_callV (md' := md_X11_feud) (As := [.int x, .int w]) (rest := [.int 0, .ref o]) (d' := d + 7) (a := 0) C hP va_S.rf hl.1 dL_feud_5 ll_24 lm_X11_feud lv_X11_feud rfl (by decide) rfl rfl rfl (Nat.le_of_ble_eq_true rfl) (Nat.le_refl _) (by show 8 + (3 + 11) + 128 * (d + 7) ≤ 128 * (d + 8); omega) (by show 0 + 2 ≤ 2; decide) (by show 0 + 6 * 2 ≤ 6 * 2; decide) (k_feud hC hO KQ.mk) (fun w g' hw H1 locs1 hP1 hS1 => ?_) (fun Ex g' hx H1 locs1 ce q hP1 hS1 hce hcv hcl => ?_)
  · obtain ⟨rfl, r0, hC1, hF1⟩ := hw
    refine W.eq (g2 := F0 m 8 ls [.int (q1 s (feuM (f_S s.F) x w)).2.1, .int 0, .ref o]) rfl ?_
    refine lv_i2l C.1 C.2.1 dL_feud_8 rfl ?_
    refine l_out C hP1 hS1 dL_feud_9 (fun v' hv' H2 locs2 hP2 hS2 => ?_)
    refine lv_goto (tgt := 17) C.1 C.2.1 dL_feud_10 (by decide) ?_
    refine lv_iconst (v := 0) C.1 C.2.1 dL_feud_17 (by decide +kernel) ?_
    refine W.widen (k := 2) (n := 6 * 2) (by decide) (by decide) (vx_ret ?_)
    have hz := hq g' v' hC1 hF1 (by rw [r0]; decide) (fun _ => hv')
    rw [r0] at hz
    exact W.iret C.1 C.2.1 hr (fun t ht _ => ⟨⟨0, g', v', rfl, hz, by rw [ht]; exact hP2⟩, hS2.F ht⟩) hS2.2.2 dL_feud_18 (hlocks := hlk)
  · rcases hx with ⟨⟨rfl, r1⟩ | ⟨rfl, r2⟩, hC1, hF1⟩
    · refine l_catch1 (x := ⟨0, 10, 13, 18⟩) C htab (by decide) (by decide) wl_c18 (by decide +kernel) hce hcv hcl ?_
      refine lv_astore C.1 C.2.1 dL_feud_13 hl (by decide) rfl (fun ls2 hl2 => ?_)
      refine lv_iconst (v := 1) C.1 C.2.1 dL_feud_15 (by decide +kernel) ?_
      refine W.widen (k := 2) (n := 6 * 2) (by decide) (by decide) (vx_ret ?_)
      have hz := hq g' v hC1 hF1 (by rw [r1]; decide) (fun q => by rw [r1] at q; cases q)
      rw [r1] at hz
      exact W.iret C.1 C.2.1 hr (fun t ht _ => ⟨⟨1, g', v, rfl, hz, by rw [ht]; exact hP1⟩, hS1.F ht⟩) hS1.2.2 dL_feud_16 (hlocks := hlk)
    · exact absurd r2 e2_feud
theorem w_sign {E : En} {o : Nat} {cL : ClassId} {d : Nat} {g : G2} {v : Nat → Int64} {Qw : Int32 → G2 → (Nat → Int64) → Prop} {s : WS} {x : Int32} {w : Int32} (hC : CR g s) (hO : OKs s) (hq : ∀ g' v', CR g' (q1 s (sigM (f_S s.F) x w)).2.2 → HF g g' → (q1 s (sigM (f_S s.F) x w)).1 ≤ 2 → ((q1 s (sigM (f_S s.F) x w)).1 = 0 → v' 0 = (q1 s (sigM (f_S s.F) x w)).2.1.toInt64) → Qw (nI (q1 s (sigM (f_S s.F) x w)).1) g' v') : WMc E o cL wd_sign (d + 8) [.ref 0, .int x, .int w] g v Qw := by
  refine WMc.of rfl rfl (Nat.le_of_ble_eq_true rfl) (fun p9 l9 e9 s9 m args9 below9 meth9 c9 ls C hr hlk htab hl hP => ?_)
  have hl : lv_has ls 5 [(0, .ref (E.1 0)), (1, .int x), (2, .int w), (3, .ref o)] := hl
  refine lv_aload_n C.1 C.2.1 dL_sign_0 rfl (lv_at hl 3 rfl) ?_
  refine lv_iconst (v := 0) C.1 C.2.1 dL_sign_1 (by decide +kernel) ?_
  refine lv_aload_n C.1 C.2.1 dL_sign_2 rfl (lv_at hl 0 rfl) ?_
  refine lv_iload_n C.1 C.2.1 dL_sign_3 rfl (lv_at hl 1 rfl) ?_
  refine lv_iload_n C.1 C.2.1 dL_sign_4 rfl (lv_at hl 2 rfl) ?_
  refine l_callV (md' := md_X11_sign) (As := [.int x, .int w]) (rest := [.int 0, .ref o]) (d' := d + 7) (a := 0) C hP va_S.rf hl.1 dL_sign_5 ll_27 lm_X11_sign lv_X11_sign rfl (by decide) rfl rfl rfl (Nat.le_of_ble_eq_true rfl) (Nat.le_refl _) (by show 8 + (3 + 11) + 128 * (d + 7) ≤ 128 * (d + 8); omega) (by show 0 + 2 ≤ 2; decide) (by show 0 + 6 * 2 ≤ 6 * 2; decide) (k_sign hC hO KQ.mk) (fun w g' hw H1 locs1 hP1 hS1 => ?_) (fun Ex g' hx H1 locs1 ce q hP1 hS1 hce hcv hcl => ?_)
  · obtain ⟨rfl, r0, hC1, hF1⟩ := hw
    refine W.eq (g2 := F0 m 8 ls [.int (q1 s (sigM (f_S s.F) x w)).2.1, .int 0, .ref o]) rfl ?_
    refine lv_i2l C.1 C.2.1 dL_sign_8 rfl ?_
    refine l_out C hP1 hS1 dL_sign_9 (fun v' hv' H2 locs2 hP2 hS2 => ?_)
    refine lv_goto (tgt := 17) C.1 C.2.1 dL_sign_10 (by decide) ?_
    refine lv_iconst (v := 0) C.1 C.2.1 dL_sign_17 (by decide +kernel) ?_
    refine W.widen (k := 2) (n := 6 * 2) (by decide) (by decide) (vx_ret ?_)
    have hz := hq g' v' hC1 hF1 (by rw [r0]; decide) (fun _ => hv')
    rw [r0] at hz
    exact W.iret C.1 C.2.1 hr (fun t ht _ => ⟨⟨0, g', v', rfl, hz, by rw [ht]; exact hP2⟩, hS2.F ht⟩) hS2.2.2 dL_sign_18 (hlocks := hlk)
  · rcases hx with ⟨⟨rfl, r1⟩ | ⟨rfl, r2⟩, hC1, hF1⟩
    · refine l_catch1 (x := ⟨0, 10, 13, 18⟩) C htab (by decide) (by decide) wl_c18 (by decide +kernel) hce hcv hcl ?_
      refine lv_astore C.1 C.2.1 dL_sign_13 hl (by decide) rfl (fun ls2 hl2 => ?_)
      refine lv_iconst (v := 1) C.1 C.2.1 dL_sign_15 (by decide +kernel) ?_
      refine W.widen (k := 2) (n := 6 * 2) (by decide) (by decide) (vx_ret ?_)
      have hz := hq g' v hC1 hF1 (by rw [r1]; decide) (fun q => by rw [r1] at q; cases q)
      rw [r1] at hz
      exact W.iret C.1 C.2.1 hr (fun t ht _ => ⟨⟨1, g', v, rfl, hz, by rw [ht]; exact hP1⟩, hS1.F ht⟩) hS1.2.2 dL_sign_16 (hlocks := hlk)
    · exact absurd r2 e2_sign
theorem w_other {E : En} {o : Nat} {cL : ClassId} {d : Nat} {g : G2} {v : Nat → Int64} {Qw : Int32 → G2 → (Nat → Int64) → Prop} {s : WS} {x : Int32} (hC : CR g s) (hO : OKs s) (hq : ∀ g' v', CR g' (q1 s (othM s.T x)).2.2 → HF g g' → (q1 s (othM s.T x)).1 ≤ 2 → ((q1 s (othM s.T x)).1 = 0 → v' 0 = (q1 s (othM s.T x)).2.1.toInt64) → Qw (nI (q1 s (othM s.T x)).1) g' v') : WMc E o cL wd_other (d + 8) [.ref 0, .int x] g v Qw := by
  refine WMc.of rfl rfl (Nat.le_of_ble_eq_true rfl) (fun p9 l9 e9 s9 m args9 below9 meth9 c9 ls C hr hlk htab hl hP => ?_)
  have hl : lv_has ls 4 [(0, .ref (E.1 0)), (1, .int x), (2, .ref o)] := hl
  refine lv_aload_n C.1 C.2.1 dL_other_0 rfl (lv_at hl 2 rfl) ?_
  refine lv_iconst (v := 0) C.1 C.2.1 dL_other_1 (by decide +kernel) ?_
  refine lv_aload_n C.1 C.2.1 dL_other_2 rfl (lv_at hl 0 rfl) ?_
  refine lv_iload_n C.1 C.2.1 dL_other_3 rfl (lv_at hl 1 rfl) ?_
  refine l_callV (md' := md_X11_other) (As := [.int x]) (rest := [.int 0, .ref o]) (d' := d + 7) (a := 0) C hP va_S.rf hl.1 dL_other_4 ll_30 lm_X11_other lv_X11_other rfl (by decide) rfl rfl rfl (Nat.le_of_ble_eq_true rfl) (Nat.le_refl _) (by show 8 + (2 + 11) + 128 * (d + 7) ≤ 128 * (d + 8); omega) (by show 0 + 1 ≤ 1; decide) (by show 0 + 6 * 1 ≤ 6 * 1; decide) (k_other hC hO KQ.mk) (fun w g' hw H1 locs1 hP1 hS1 => ?_) (fun Ex g' hx H1 locs1 ce q hP1 hS1 hce hcv hcl => ?_)
  · obtain ⟨rfl, r0, hC1, hF1⟩ := hw
    refine W.eq (g2 := F0 m 7 ls [.int (q1 s (othM s.T x)).2.1, .int 0, .ref o]) rfl ?_
    refine lv_i2l C.1 C.2.1 dL_other_7 rfl ?_
    refine l_out C hP1 hS1 dL_other_8 (fun v' hv' H2 locs2 hP2 hS2 => ?_)
    refine lv_goto (tgt := 15) C.1 C.2.1 dL_other_9 (by decide) ?_
    refine lv_iconst (v := 0) C.1 C.2.1 dL_other_15 (by decide +kernel) ?_
    refine W.widen (k := 1) (n := 6 * 1) (by decide) (by decide) (vx_ret ?_)
    have hz := hq g' v' hC1 hF1 (by rw [r0]; decide) (fun _ => hv')
    rw [r0] at hz
    exact W.iret C.1 C.2.1 hr (fun t ht _ => ⟨⟨0, g', v', rfl, hz, by rw [ht]; exact hP2⟩, hS2.F ht⟩) hS2.2.2 dL_other_16 (hlocks := hlk)
  · rcases hx with ⟨⟨rfl, r1⟩ | ⟨rfl, r2⟩, hC1, hF1⟩
    · refine l_catch1 (x := ⟨0, 9, 12, 18⟩) C htab (by decide) (by decide) wl_c18 (by decide +kernel) hce hcv hcl ?_
      refine lv_astore_n C.1 C.2.1 dL_other_12 rfl hl (by decide) rfl (fun ls2 hl2 => ?_)
      refine lv_iconst (v := 1) C.1 C.2.1 dL_other_13 (by decide +kernel) ?_
      refine W.widen (k := 1) (n := 6 * 1) (by decide) (by decide) (vx_ret ?_)
      have hz := hq g' v hC1 hF1 (by rw [r1]; decide) (fun q => by rw [r1] at q; cases q)
      rw [r1] at hz
      exact W.iret C.1 C.2.1 hr (fun t ht _ => ⟨⟨1, g', v, rfl, hz, by rw [ht]; exact hP1⟩, hS1.F ht⟩) hS1.2.2 dL_other_14 (hlocks := hlk)
    · exact absurd r2 e2_other
theorem w_away {E : En} {o : Nat} {cL : ClassId} {d : Nat} {g : G2} {v : Nat → Int64} {Qw : Int32 → G2 → (Nat → Int64) → Prop} {s : WS} {p : Int32} {b : Bool} (hC : CR g s) (hO : OKs s) (hq : ∀ g' v', CR g' (a1F s (awaM s.T s.F p b)).2.2 → HF g g' → (a1F s (awaM s.T s.F p b)).1 ≤ 2 → ((a1F s (awaM s.T s.F p b)).1 = 0 → v' 0 = (if (a1F s (awaM s.T s.F p b)).2.1 = 0 then 0 else 1)) → Qw (nI (a1F s (awaM s.T s.F p b)).1) g' v') : WMc E o cL wd_away (d + 8) [.ref 0, .int p, .int (b2i b)] g v Qw := by
  refine WMc.of rfl rfl (Nat.le_of_ble_eq_true rfl) (fun p9 l9 e9 s9 m args9 below9 meth9 c9 ls C hr hlk htab hl hP => ?_)
  have hl : lv_has ls 5 [(0, .ref (E.1 0)), (1, .int p), (2, .int (b2i b)), (3, .ref o)] := hl
  refine lv_aload_n C.1 C.2.1 dL_away_0 rfl (lv_at hl 3 rfl) ?_
  refine lv_iconst (v := 0) C.1 C.2.1 dL_away_1 (by decide +kernel) ?_
  refine lv_aload_n C.1 C.2.1 dL_away_2 rfl (lv_at hl 0 rfl) ?_
  refine lv_iload_n C.1 C.2.1 dL_away_3 rfl (lv_at hl 1 rfl) ?_
  refine lv_iload_n C.1 C.2.1 dL_away_4 rfl (lv_at hl 2 rfl) ?_
  refine l_callV (md' := md_X11_away) (As := [.int p, .int (b2i b)]) (rest := [.int 0, .ref o]) (d' := d + 7) (a := 0) C hP va_S.rf hl.1 dL_away_5 ll_33 lm_X11_away lv_X11_away rfl (by decide) rfl rfl rfl (Nat.le_of_ble_eq_true rfl) (Nat.le_refl _) (by show 8 + (3 + 11) + 128 * (d + 7) ≤ 128 * (d + 8); omega) (by show 0 + 1 ≤ 1; decide) (by show 0 + 6 * 1 ≤ 6 * 1; decide) (k_away hC hO KQ.mk) (fun w g' hw H1 locs1 hP1 hS1 => ?_) (fun Ex g' hx H1 locs1 ce q hP1 hS1 hce hcv hcl => ?_)
  · obtain ⟨rfl, r0, hC1, hF1⟩ := hw
    refine W.eq (g2 := F0 m 8 ls [.int (a1F s (awaM s.T s.F p b)).2.1, .int 0, .ref o]) rfl ?_
    refine lv_if_eq (tgt := 15) C.1 C.2.1 dL_away_8 (by decide) (fun hb => ?_) (fun hb => ?_)
    · refine lv_lconst (v := 0) C.1 C.2.1 dL_away_15 rfl ?_
      refine l_out C hP1 hS1 dL_away_16 (fun v' hv' H2 locs2 hP2 hS2 => ?_)
      refine lv_goto (tgt := 24) C.1 C.2.1 dL_away_17 (by decide) ?_
      refine lv_iconst (v := 0) C.1 C.2.1 dL_away_24 (by decide +kernel) ?_
      refine W.widen (k := 1) (n := 6 * 1) (by decide) (by decide) (vx_ret ?_)
      have hz := hq g' v' hC1 hF1 (by rw [r0]; decide) (fun _ => by rw [if_pos hb]; exact hv')
      rw [r0] at hz
      exact W.iret C.1 C.2.1 hr (fun t ht _ => ⟨⟨0, g', v', rfl, hz, by rw [ht]; exact hP2⟩, hS2.F ht⟩) hS2.2.2 dL_away_25 (hlocks := hlk)
    · refine lv_lconst (v := 1) C.1 C.2.1 dL_away_11 rfl ?_
      refine lv_goto (tgt := 16) C.1 C.2.1 dL_away_12 (by decide) ?_
      refine l_out C hP1 hS1 dL_away_16 (fun v' hv' H2 locs2 hP2 hS2 => ?_)
      refine lv_goto (tgt := 24) C.1 C.2.1 dL_away_17 (by decide) ?_
      refine lv_iconst (v := 0) C.1 C.2.1 dL_away_24 (by decide +kernel) ?_
      refine W.widen (k := 1) (n := 6 * 1) (by decide) (by decide) (vx_ret ?_)
      have hz := hq g' v' hC1 hF1 (by rw [r0]; decide) (fun _ => by rw [if_neg hb]; exact hv')
      rw [r0] at hz
      exact W.iret C.1 C.2.1 hr (fun t ht _ => ⟨⟨0, g', v', rfl, hz, by rw [ht]; exact hP2⟩, hS2.F ht⟩) hS2.2.2 dL_away_25 (hlocks := hlk)
  · rcases hx with ⟨⟨rfl, r1⟩ | ⟨rfl, r2⟩, hC1, hF1⟩
    · refine l_catch1 (x := ⟨0, 17, 20, 18⟩) C htab (by decide) (by decide) wl_c18 (by decide +kernel) hce hcv hcl ?_
      refine lv_astore C.1 C.2.1 dL_away_20 hl (by decide) rfl (fun ls2 hl2 => ?_)
      refine lv_iconst (v := 1) C.1 C.2.1 dL_away_22 (by decide +kernel) ?_
      refine W.widen (k := 1) (n := 6 * 1) (by decide) (by decide) (vx_ret ?_)
      have hz := hq g' v hC1 hF1 (by rw [r1]; decide) (fun q => by rw [r1] at q; cases q)
      rw [r1] at hz
      exact W.iret C.1 C.2.1 hr (fun t ht _ => ⟨⟨1, g', v, rfl, hz, by rw [ht]; exact hP1⟩, hS1.F ht⟩) hS1.2.2 dL_away_23 (hlocks := hlk)
    · exact absurd r2 e2_away
theorem w_dies {E : En} {o : Nat} {cL : ClassId} {d : Nat} {g : G2} {v : Nat → Int64} {Qw : Int32 → G2 → (Nat → Int64) → Prop} {s : WS} {p : Int32} (hC : CR g s) (hO : OKs s) (hq : ∀ g' v', CR g' (a1F s (dieM s.T s.F p)).2.2 → HF g g' → (a1F s (dieM s.T s.F p)).1 ≤ 2 → ((a1F s (dieM s.T s.F p)).1 = 0 → v' 0 = (if (a1F s (dieM s.T s.F p)).2.1 = 0 then 0 else 1)) → Qw (nI (a1F s (dieM s.T s.F p)).1) g' v') : WMc E o cL wd_dies (d + 8) [.ref 0, .int p] g v Qw := by
  refine WMc.of rfl rfl (Nat.le_of_ble_eq_true rfl) (fun p9 l9 e9 s9 m args9 below9 meth9 c9 ls C hr hlk htab hl hP => ?_)
  have hl : lv_has ls 4 [(0, .ref (E.1 0)), (1, .int p), (2, .ref o)] := hl
  refine lv_aload_n C.1 C.2.1 dL_dies_0 rfl (lv_at hl 2 rfl) ?_
  refine lv_iconst (v := 0) C.1 C.2.1 dL_dies_1 (by decide +kernel) ?_
  refine lv_aload_n C.1 C.2.1 dL_dies_2 rfl (lv_at hl 0 rfl) ?_
  refine lv_iload_n C.1 C.2.1 dL_dies_3 rfl (lv_at hl 1 rfl) ?_
  refine l_callV (md' := md_X11_dies) (As := [.int p]) (rest := [.int 0, .ref o]) (d' := d + 7) (a := 0) C hP va_S.rf hl.1 dL_dies_4 ll_37 lm_X11_dies lv_X11_dies rfl (by decide) rfl rfl rfl (Nat.le_of_ble_eq_true rfl) (Nat.le_refl _) (by show 8 + (2 + 11) + 128 * (d + 7) ≤ 128 * (d + 8); omega) (by show 0 + 1 ≤ 1; decide) (by show 0 + 6 * 1 ≤ 6 * 1; decide) (k_dies hC hO KQ.mk) (fun w g' hw H1 locs1 hP1 hS1 => ?_) (fun Ex g' hx H1 locs1 ce q hP1 hS1 hce hcv hcl => ?_)
  · obtain ⟨rfl, r0, hC1, hF1⟩ := hw
    refine W.eq (g2 := F0 m 7 ls [.int (a1F s (dieM s.T s.F p)).2.1, .int 0, .ref o]) rfl ?_
    refine lv_if_eq (tgt := 14) C.1 C.2.1 dL_dies_7 (by decide) (fun hb => ?_) (fun hb => ?_)
    · refine lv_lconst (v := 0) C.1 C.2.1 dL_dies_14 rfl ?_
      refine l_out C hP1 hS1 dL_dies_15 (fun v' hv' H2 locs2 hP2 hS2 => ?_)
      refine lv_goto (tgt := 22) C.1 C.2.1 dL_dies_16 (by decide) ?_
      refine lv_iconst (v := 0) C.1 C.2.1 dL_dies_22 (by decide +kernel) ?_
      refine W.widen (k := 1) (n := 6 * 1) (by decide) (by decide) (vx_ret ?_)
      have hz := hq g' v' hC1 hF1 (by rw [r0]; decide) (fun _ => by rw [if_pos hb]; exact hv')
      rw [r0] at hz
      exact W.iret C.1 C.2.1 hr (fun t ht _ => ⟨⟨0, g', v', rfl, hz, by rw [ht]; exact hP2⟩, hS2.F ht⟩) hS2.2.2 dL_dies_23 (hlocks := hlk)
    · refine lv_lconst (v := 1) C.1 C.2.1 dL_dies_10 rfl ?_
      refine lv_goto (tgt := 15) C.1 C.2.1 dL_dies_11 (by decide) ?_
      refine l_out C hP1 hS1 dL_dies_15 (fun v' hv' H2 locs2 hP2 hS2 => ?_)
      refine lv_goto (tgt := 22) C.1 C.2.1 dL_dies_16 (by decide) ?_
      refine lv_iconst (v := 0) C.1 C.2.1 dL_dies_22 (by decide +kernel) ?_
      refine W.widen (k := 1) (n := 6 * 1) (by decide) (by decide) (vx_ret ?_)
      have hz := hq g' v' hC1 hF1 (by rw [r0]; decide) (fun _ => by rw [if_neg hb]; exact hv')
      rw [r0] at hz
      exact W.iret C.1 C.2.1 hr (fun t ht _ => ⟨⟨0, g', v', rfl, hz, by rw [ht]; exact hP2⟩, hS2.F ht⟩) hS2.2.2 dL_dies_23 (hlocks := hlk)
  · rcases hx with ⟨⟨rfl, r1⟩ | ⟨rfl, r2⟩, hC1, hF1⟩
    · refine l_catch1 (x := ⟨0, 16, 19, 18⟩) C htab (by decide) (by decide) wl_c18 (by decide +kernel) hce hcv hcl ?_
      refine lv_astore_n C.1 C.2.1 dL_dies_19 rfl hl (by decide) rfl (fun ls2 hl2 => ?_)
      refine lv_iconst (v := 1) C.1 C.2.1 dL_dies_20 (by decide +kernel) ?_
      refine W.widen (k := 1) (n := 6 * 1) (by decide) (by decide) (vx_ret ?_)
      have hz := hq g' v hC1 hF1 (by rw [r1]; decide) (fun q => by rw [r1] at q; cases q)
      rw [r1] at hz
      exact W.iret C.1 C.2.1 hr (fun t ht _ => ⟨⟨1, g', v, rfl, hz, by rw [ht]; exact hP1⟩, hS1.F ht⟩) hS1.2.2 dL_dies_21 (hlocks := hlk)
    · exact absurd r2 e2_dies
theorem w_marry {E : En} {o : Nat} {cL : ClassId} {d : Nat} {g : G2} {v : Nat → Int64} {Qw : Int32 → G2 → (Nat → Int64) → Prop} {s : WS} {p : Int32} {o9 : Int32} (hC : CR g s) (hO : OKs s) (hq : ∀ g' v', CR g' (a1F s (marM s.T s.F p o9)).2.2 → HF g g' → (a1F s (marM s.T s.F p o9)).1 ≤ 2 → ((a1F s (marM s.T s.F p o9)).1 = 0 → v' 0 = (a1F s (marM s.T s.F p o9)).2.1.toInt64) → Qw (nI (a1F s (marM s.T s.F p o9)).1) g' v') : WMc E o cL wd_marry (d + 8) [.ref 0, .int p, .int o9] g v Qw := by
  refine WMc.of rfl rfl (Nat.le_of_ble_eq_true rfl) (fun p9 l9 e9 s9 m args9 below9 meth9 c9 ls C hr hlk htab hl hP => ?_)
  have hl : lv_has ls 5 [(0, .ref (E.1 0)), (1, .int p), (2, .int o9), (3, .ref o)] := hl
  refine lv_aload_n C.1 C.2.1 dL_marry_0 rfl (lv_at hl 3 rfl) ?_
  refine lv_iconst (v := 0) C.1 C.2.1 dL_marry_1 (by decide +kernel) ?_
  refine lv_aload_n C.1 C.2.1 dL_marry_2 rfl (lv_at hl 0 rfl) ?_
  refine lv_iload_n C.1 C.2.1 dL_marry_3 rfl (lv_at hl 1 rfl) ?_
  refine lv_iload_n C.1 C.2.1 dL_marry_4 rfl (lv_at hl 2 rfl) ?_
  refine l_callV (md' := md_X11_marry) (As := [.int p, .int o9]) (rest := [.int 0, .ref o]) (d' := d + 7) (a := 0) C hP va_S.rf hl.1 dL_marry_5 ll_41 lm_X11_marry lv_X11_marry rfl (by decide) rfl rfl rfl (Nat.le_of_ble_eq_true rfl) (Nat.le_refl _) (by show 8 + (3 + 11) + 128 * (d + 7) ≤ 128 * (d + 8); omega) (by show 0 + 2 ≤ 2; decide) (by show 0 + 6 * 2 ≤ 6 * 2; decide) (k_marry hC hO KQ.mk) (fun w g' hw H1 locs1 hP1 hS1 => ?_) (fun Ex g' hx H1 locs1 ce q hP1 hS1 hce hcv hcl => ?_)
  · obtain ⟨rfl, r0, hC1, hF1⟩ := hw
    refine W.eq (g2 := F0 m 8 ls [.int (a1F s (marM s.T s.F p o9)).2.1, .int 0, .ref o]) rfl ?_
    refine lv_i2l C.1 C.2.1 dL_marry_8 rfl ?_
    refine l_out C hP1 hS1 dL_marry_9 (fun v' hv' H2 locs2 hP2 hS2 => ?_)
    refine lv_goto (tgt := 17) C.1 C.2.1 dL_marry_10 (by decide) ?_
    refine lv_iconst (v := 0) C.1 C.2.1 dL_marry_17 (by decide +kernel) ?_
    refine W.widen (k := 2) (n := 6 * 2) (by decide) (by decide) (vx_ret ?_)
    have hz := hq g' v' hC1 hF1 (by rw [r0]; decide) (fun _ => hv')
    rw [r0] at hz
    exact W.iret C.1 C.2.1 hr (fun t ht _ => ⟨⟨0, g', v', rfl, hz, by rw [ht]; exact hP2⟩, hS2.F ht⟩) hS2.2.2 dL_marry_18 (hlocks := hlk)
  · rcases hx with ⟨⟨rfl, r1⟩ | ⟨rfl, r2⟩, hC1, hF1⟩
    · refine l_catch1 (x := ⟨0, 10, 13, 18⟩) C htab (by decide) (by decide) wl_c18 (by decide +kernel) hce hcv hcl ?_
      refine lv_astore C.1 C.2.1 dL_marry_13 hl (by decide) rfl (fun ls2 hl2 => ?_)
      refine lv_iconst (v := 1) C.1 C.2.1 dL_marry_15 (by decide +kernel) ?_
      refine W.widen (k := 2) (n := 6 * 2) (by decide) (by decide) (vx_ret ?_)
      have hz := hq g' v hC1 hF1 (by rw [r1]; decide) (fun q => by rw [r1] at q; cases q)
      rw [r1] at hz
      exact W.iret C.1 C.2.1 hr (fun t ht _ => ⟨⟨1, g', v, rfl, hz, by rw [ht]; exact hP1⟩, hS1.F ht⟩) hS1.2.2 dL_marry_16 (hlocks := hlk)
    · exact absurd r2 e2_marry
theorem w_quarrel {E : En} {o : Nat} {cL : ClassId} {d : Nat} {g : G2} {v : Nat → Int64} {Qw : Int32 → G2 → (Nat → Int64) → Prop} {s : WS} {p : Int32} {o9 : Int32} (hC : CR g s) (hO : OKs s) (hq : ∀ g' v', CR g' (a1F s (quaM s.T s.F p o9)).2.2 → HF g g' → (a1F s (quaM s.T s.F p o9)).1 ≤ 2 → ((a1F s (quaM s.T s.F p o9)).1 = 0 → v' 0 = (a1F s (quaM s.T s.F p o9)).2.1.toInt64) → Qw (nI (a1F s (quaM s.T s.F p o9)).1) g' v') : WMc E o cL wd_quarrel (d + 8) [.ref 0, .int p, .int o9] g v Qw := by
  refine WMc.of rfl rfl (Nat.le_of_ble_eq_true rfl) (fun p9 l9 e9 s9 m args9 below9 meth9 c9 ls C hr hlk htab hl hP => ?_)
  have hl : lv_has ls 5 [(0, .ref (E.1 0)), (1, .int p), (2, .int o9), (3, .ref o)] := hl
  refine lv_aload_n C.1 C.2.1 dL_quarrel_0 rfl (lv_at hl 3 rfl) ?_
  refine lv_iconst (v := 0) C.1 C.2.1 dL_quarrel_1 (by decide +kernel) ?_
  refine lv_aload_n C.1 C.2.1 dL_quarrel_2 rfl (lv_at hl 0 rfl) ?_
  refine lv_iload_n C.1 C.2.1 dL_quarrel_3 rfl (lv_at hl 1 rfl) ?_
  refine lv_iload_n C.1 C.2.1 dL_quarrel_4 rfl (lv_at hl 2 rfl) ?_
  refine l_callV (md' := md_X11_quarrel) (As := [.int p, .int o9]) (rest := [.int 0, .ref o]) (d' := d + 7) (a := 0) C hP va_S.rf hl.1 dL_quarrel_5 ll_44 lm_X11_quarrel lv_X11_quarrel rfl (by decide) rfl rfl rfl (Nat.le_of_ble_eq_true rfl) (Nat.le_refl _) (by show 8 + (4 + 11) + 128 * (d + 7) ≤ 128 * (d + 8); omega) (by show 0 + 2 ≤ 2; decide) (by show 0 + 6 * 2 ≤ 6 * 2; decide) (k_quarrel hC hO KQ.mk) (fun w g' hw H1 locs1 hP1 hS1 => ?_) (fun Ex g' hx H1 locs1 ce q hP1 hS1 hce hcv hcl => ?_)
  · obtain ⟨rfl, r0, hC1, hF1⟩ := hw
    refine W.eq (g2 := F0 m 8 ls [.int (a1F s (quaM s.T s.F p o9)).2.1, .int 0, .ref o]) rfl ?_
    refine lv_i2l C.1 C.2.1 dL_quarrel_8 rfl ?_
    refine l_out C hP1 hS1 dL_quarrel_9 (fun v' hv' H2 locs2 hP2 hS2 => ?_)
    refine lv_goto (tgt := 17) C.1 C.2.1 dL_quarrel_10 (by decide) ?_
    refine lv_iconst (v := 0) C.1 C.2.1 dL_quarrel_17 (by decide +kernel) ?_
    refine W.widen (k := 2) (n := 6 * 2) (by decide) (by decide) (vx_ret ?_)
    have hz := hq g' v' hC1 hF1 (by rw [r0]; decide) (fun _ => hv')
    rw [r0] at hz
    exact W.iret C.1 C.2.1 hr (fun t ht _ => ⟨⟨0, g', v', rfl, hz, by rw [ht]; exact hP2⟩, hS2.F ht⟩) hS2.2.2 dL_quarrel_18 (hlocks := hlk)
  · rcases hx with ⟨⟨rfl, r1⟩ | ⟨rfl, r2⟩, hC1, hF1⟩
    · refine l_catch1 (x := ⟨0, 10, 13, 18⟩) C htab (by decide) (by decide) wl_c18 (by decide +kernel) hce hcv hcl ?_
      refine lv_astore C.1 C.2.1 dL_quarrel_13 hl (by decide) rfl (fun ls2 hl2 => ?_)
      refine lv_iconst (v := 1) C.1 C.2.1 dL_quarrel_15 (by decide +kernel) ?_
      refine W.widen (k := 2) (n := 6 * 2) (by decide) (by decide) (vx_ret ?_)
      have hz := hq g' v hC1 hF1 (by rw [r1]; decide) (fun q => by rw [r1] at q; cases q)
      rw [r1] at hz
      exact W.iret C.1 C.2.1 hr (fun t ht _ => ⟨⟨1, g', v, rfl, hz, by rw [ht]; exact hP1⟩, hS1.F ht⟩) hS1.2.2 dL_quarrel_16 (hlocks := hlk)
    · exact absurd r2 e2_quarrel
theorem w_found {E : En} {o : Nat} {cL : ClassId} {d : Nat} {g : G2} {v : Nat → Int64} {Qw : Int32 → G2 → (Nat → Int64) → Prop} {s : WS} {a : Int32} {b : Int32} {w : Int32} (hC : CR g s) (hO : OKs s) (hq : ∀ g' v', CR g' (q1 s (fouM (f_S s.F) a b w)).2.2 → HF g g' → (q1 s (fouM (f_S s.F) a b w)).1 ≤ 2 → ((q1 s (fouM (f_S s.F) a b w)).1 = 0 → v' 0 = (q1 s (fouM (f_S s.F) a b w)).2.1.toInt64) → Qw (nI (q1 s (fouM (f_S s.F) a b w)).1) g' v') : WMc E o cL wd_found (d + 8) [.ref 0, .int a, .int b, .int w] g v Qw := by
  refine WMc.of rfl rfl (Nat.le_of_ble_eq_true rfl) (fun p9 l9 e9 s9 m args9 below9 meth9 c9 ls C hr hlk htab hl hP => ?_)
  have hl : lv_has ls 6 [(0, .ref (E.1 0)), (1, .int a), (2, .int b), (3, .int w), (4, .ref o)] := hl
  refine lv_aload C.1 C.2.1 dL_found_0 (lv_at hl 4 rfl) ?_
  refine lv_iconst (v := 0) C.1 C.2.1 dL_found_2 (by decide +kernel) ?_
  refine lv_aload_n C.1 C.2.1 dL_found_3 rfl (lv_at hl 0 rfl) ?_
  refine lv_iload_n C.1 C.2.1 dL_found_4 rfl (lv_at hl 1 rfl) ?_
  refine lv_iload_n C.1 C.2.1 dL_found_5 rfl (lv_at hl 2 rfl) ?_
  refine lv_iload_n C.1 C.2.1 dL_found_6 rfl (lv_at hl 3 rfl) ?_
  refine l_callV (md' := md_X11_found) (As := [.int a, .int b, .int w]) (rest := [.int 0, .ref o]) (d' := d + 7) (a := 0) C hP va_S.rf hl.1 dL_found_7 ll_47 lm_X11_found lv_X11_found rfl (by decide) rfl rfl rfl (Nat.le_of_ble_eq_true rfl) (Nat.le_refl _) (by show 8 + (6 + 11) + 128 * (d + 7) ≤ 128 * (d + 8); omega) (by show 0 + 2 ≤ 2; decide) (by show 0 + 6 * 2 ≤ 6 * 2; decide) (k_found hC hO KQ.mk) (fun w g' hw H1 locs1 hP1 hS1 => ?_) (fun Ex g' hx H1 locs1 ce q hP1 hS1 hce hcv hcl => ?_)
  · obtain ⟨rfl, r0, hC1, hF1⟩ := hw
    refine W.eq (g2 := F0 m 10 ls [.int (q1 s (fouM (f_S s.F) a b w)).2.1, .int 0, .ref o]) rfl ?_
    refine lv_i2l C.1 C.2.1 dL_found_10 rfl ?_
    refine l_out C hP1 hS1 dL_found_11 (fun v' hv' H2 locs2 hP2 hS2 => ?_)
    refine lv_goto (tgt := 23) C.1 C.2.1 dL_found_12 (by decide) ?_
    refine lv_iconst (v := 0) C.1 C.2.1 dL_found_23 (by decide +kernel) ?_
    refine W.widen (k := 2) (n := 6 * 2) (by decide) (by decide) (vx_ret ?_)
    have hz := hq g' v' hC1 hF1 (by rw [r0]; decide) (fun _ => hv')
    rw [r0] at hz
    exact W.iret C.1 C.2.1 hr (fun t ht _ => ⟨⟨0, g', v', rfl, hz, by rw [ht]; exact hP2⟩, hS2.F ht⟩) hS2.2.2 dL_found_24 (hlocks := hlk)
  · rcases hx with ⟨⟨rfl, r1⟩ | ⟨rfl, r2⟩, hC1, hF1⟩
    · refine l_catch1 (x := ⟨0, 12, 15, 18⟩) C htab (by decide) (by decide) wl_c18 (by decide +kernel) hce hcv hcl ?_
      refine lv_astore C.1 C.2.1 dL_found_15 hl (by decide) rfl (fun ls2 hl2 => ?_)
      refine lv_iconst (v := 1) C.1 C.2.1 dL_found_17 (by decide +kernel) ?_
      refine W.widen (k := 2) (n := 6 * 2) (by decide) (by decide) (vx_ret ?_)
      have hz := hq g' v hC1 hF1 (by rw [r1]; decide) (fun q => by rw [r1] at q; cases q)
      rw [r1] at hz
      exact W.iret C.1 C.2.1 hr (fun t ht _ => ⟨⟨1, g', v, rfl, hz, by rw [ht]; exact hP1⟩, hS1.F ht⟩) hS1.2.2 dL_found_18 (hlocks := hlk)
    · refine l_catch2 (z := ⟨0, 12, 15, 18⟩) (x := ⟨0, 12, 19, 13⟩) C htab (by decide) (by decide) wl_c18 (by decide) (by decide) wl_c13 hce hcv hcl ?_
      refine lv_astore C.1 C.2.1 dL_found_19 hl (by decide) rfl (fun ls2 hl2 => ?_)
      refine lv_iconst (v := 2) C.1 C.2.1 dL_found_21 (by decide +kernel) ?_
      refine W.widen (k := 2) (n := 6 * 2) (by decide) (by decide) (vx_ret ?_)
      have hz := hq g' v hC1 hF1 (by rw [r2]; decide) (fun q => by rw [r2] at q; cases q)
      rw [r2] at hz
      exact W.iret C.1 C.2.1 hr (fun t ht _ => ⟨⟨2, g', v, rfl, hz, by rw [ht]; exact hP1⟩, hS1.F ht⟩) hS1.2.2 dL_found_22 (hlocks := hlk)
theorem w_again {E : En} {o : Nat} {cL : ClassId} {d : Nat} {g : G2} {v : Nat → Int64} {Qw : Int32 → G2 → (Nat → Int64) → Prop} {s : WS} {w : Int32} (hC : CR g s) (hO : OKs s) (hq : ∀ g' v', CR g' (q1 s (agaM (f_S s.F) w)).2.2 → HF g g' → (q1 s (agaM (f_S s.F) w)).1 ≤ 2 → ((q1 s (agaM (f_S s.F) w)).1 = 0 → v' 0 = (q1 s (agaM (f_S s.F) w)).2.1.toInt64) → Qw (nI (q1 s (agaM (f_S s.F) w)).1) g' v') : WMc E o cL wd_again (d + 8) [.ref 0, .int w] g v Qw := by
  refine WMc.of rfl rfl (Nat.le_of_ble_eq_true rfl) (fun p9 l9 e9 s9 m args9 below9 meth9 c9 ls C hr hlk htab hl hP => ?_)
  have hl : lv_has ls 4 [(0, .ref (E.1 0)), (1, .int w), (2, .ref o)] := hl
  refine lv_aload_n C.1 C.2.1 dL_again_0 rfl (lv_at hl 2 rfl) ?_
  refine lv_iconst (v := 0) C.1 C.2.1 dL_again_1 (by decide +kernel) ?_
  refine lv_aload_n C.1 C.2.1 dL_again_2 rfl (lv_at hl 0 rfl) ?_
  refine lv_iload_n C.1 C.2.1 dL_again_3 rfl (lv_at hl 1 rfl) ?_
  refine l_callV (md' := md_X11_again) (As := [.int w]) (rest := [.int 0, .ref o]) (d' := d + 7) (a := 0) C hP va_S.rf hl.1 dL_again_4 ll_51 lm_X11_again lv_X11_again rfl (by decide) rfl rfl rfl (Nat.le_of_ble_eq_true rfl) (Nat.le_refl _) (by show 8 + (6 + 11) + 128 * (d + 7) ≤ 128 * (d + 8); omega) (by show 0 + 1 ≤ 1; decide) (by show 0 + 6 * 1 ≤ 6 * 1; decide) (k_again hC hO KQ.mk) (fun w g' hw H1 locs1 hP1 hS1 => ?_) (fun Ex g' hx H1 locs1 ce q hP1 hS1 hce hcv hcl => ?_)
  · obtain ⟨rfl, r0, hC1, hF1⟩ := hw
    refine W.eq (g2 := F0 m 7 ls [.int (q1 s (agaM (f_S s.F) w)).2.1, .int 0, .ref o]) rfl ?_
    refine lv_i2l C.1 C.2.1 dL_again_7 rfl ?_
    refine l_out C hP1 hS1 dL_again_8 (fun v' hv' H2 locs2 hP2 hS2 => ?_)
    refine lv_goto (tgt := 15) C.1 C.2.1 dL_again_9 (by decide) ?_
    refine lv_iconst (v := 0) C.1 C.2.1 dL_again_15 (by decide +kernel) ?_
    refine W.widen (k := 1) (n := 6 * 1) (by decide) (by decide) (vx_ret ?_)
    have hz := hq g' v' hC1 hF1 (by rw [r0]; decide) (fun _ => hv')
    rw [r0] at hz
    exact W.iret C.1 C.2.1 hr (fun t ht _ => ⟨⟨0, g', v', rfl, hz, by rw [ht]; exact hP2⟩, hS2.F ht⟩) hS2.2.2 dL_again_16 (hlocks := hlk)
  · rcases hx with ⟨⟨rfl, r1⟩ | ⟨rfl, r2⟩, hC1, hF1⟩
    · refine l_catch1 (x := ⟨0, 9, 12, 18⟩) C htab (by decide) (by decide) wl_c18 (by decide +kernel) hce hcv hcl ?_
      refine lv_astore_n C.1 C.2.1 dL_again_12 rfl hl (by decide) rfl (fun ls2 hl2 => ?_)
      refine lv_iconst (v := 1) C.1 C.2.1 dL_again_13 (by decide +kernel) ?_
      refine W.widen (k := 1) (n := 6 * 1) (by decide) (by decide) (vx_ret ?_)
      have hz := hq g' v hC1 hF1 (by rw [r1]; decide) (fun q => by rw [r1] at q; cases q)
      rw [r1] at hz
      exact W.iret C.1 C.2.1 hr (fun t ht _ => ⟨⟨1, g', v, rfl, hz, by rw [ht]; exact hP1⟩, hS1.F ht⟩) hS1.2.2 dL_again_14 (hlocks := hlk)
    · exact absurd r2 e2_again
