theorem w_interval {E : En} {o : Nat} {cL : ClassId} {d : Nat} {g : G2} {v : Nat → Int64} {Qw : Int32 → G2 → (Nat → Int64) → Prop} {s : WS} {x : Int32} (hC : CR g s) (hO : OKs s) (hq : ∀ g' v', CR g' (q1 s (itvM (f_S s.F) x)).2.2 → HF g g' → (q1 s (itvM (f_S s.F) x)).1 ≤ 2 → ((q1 s (itvM (f_S s.F) x)).1 = 0 → v' 0 = (q1 s (itvM (f_S s.F) x)).2.1.toInt64) → Qw (nI (q1 s (itvM (f_S s.F) x)).1) g' v') : WMc E o cL wd_interval (d + 7) [.ref 0, .int x] g v Qw := by
  refine WMc.of rfl rfl (Nat.le_of_ble_eq_true rfl) (fun p9 l9 e9 s9 m args9 below9 meth9 c9 ls C hr hlk htab hl hP => ?_)
  have hl : lv_has ls 4 [(0, .ref (E.1 0)), (1, .int x), (2, .ref o)] := hl
  refine lv_aload_n C.1 C.2.1 dL_interval_0 rfl (lv_at hl 2 rfl) ?_
  refine lv_iconst (v := 0) C.1 C.2.1 dL_interval_1 (by decide +kernel) ?_
  refine lv_aload_n C.1 C.2.1 dL_interval_2 rfl (lv_at hl 0 rfl) ?_
  refine lv_iload_n C.1 C.2.1 dL_interval_3 rfl (lv_at hl 1 rfl) ?_
  refine l_callV (md' := md_X11_interval) (As := [.int x]) (rest := [.int 0, .ref o]) (d' := d + 6) (a := 0) C hP va_S.rf hl.1 dL_interval_4 ll_54 lm_X11_interval lv_X11_interval rfl (by decide) rfl rfl rfl (Nat.le_of_ble_eq_true rfl) (Nat.le_refl _) (by show 8 + (2 + 11) + 128 * (d + 6) ≤ 128 * (d + 7); omega) (by show 0 + 1 ≤ 1; decide) (by show 0 + 6 * 1 ≤ 6 * 1; decide) (k_interval hC hO KQ.mk) (fun w g' hw H1 locs1 hP1 hS1 => ?_) (fun Ex g' hx H1 locs1 ce q hP1 hS1 hce hcv hcl => ?_)
  · obtain ⟨rfl, r0, hC1, hF1⟩ := hw
    refine W.eq (g2 := F0 m 7 ls [.int (q1 s (itvM (f_S s.F) x)).2.1, .int 0, .ref o]) rfl ?_
    refine lv_i2l C.1 C.2.1 dL_interval_7 rfl ?_
    refine l_out C hP1 hS1 dL_interval_8 (fun v' hv' H2 locs2 hP2 hS2 => ?_)
    refine lv_goto (tgt := 15) C.1 C.2.1 dL_interval_9 (by decide) ?_
    refine lv_iconst (v := 0) C.1 C.2.1 dL_interval_15 (by decide +kernel) ?_
    refine W.widen (k := 1) (n := 6 * 1) (by decide) (by decide) (vx_ret ?_)
    have hz := hq g' v' hC1 hF1 (by rw [r0]; decide) (fun _ => hv')
    rw [r0] at hz
    exact W.iret C.1 C.2.1 hr (fun t ht _ => ⟨⟨0, g', v', rfl, hz, by rw [ht]; exact hP2⟩, hS2.F ht⟩) hS2.2.2 dL_interval_16 (hlocks := hlk)
  · rcases hx with ⟨⟨rfl, r1⟩ | ⟨rfl, r2⟩, hC1, hF1⟩
    · refine l_catch1 (x := ⟨0, 9, 12, 13⟩) C htab (by decide) (by decide) wl_c13 (by decide +kernel) hce hcv hcl ?_
      refine lv_astore_n C.1 C.2.1 dL_interval_12 rfl hl (by decide) rfl (fun ls2 hl2 => ?_)
      refine lv_iconst (v := 1) C.1 C.2.1 dL_interval_13 (by decide +kernel) ?_
      refine W.widen (k := 1) (n := 6 * 1) (by decide) (by decide) (vx_ret ?_)
      have hz := hq g' v hC1 hF1 (by rw [r1]; decide) (fun q => by rw [r1] at q; cases q)
      rw [r1] at hz
      exact W.iret C.1 C.2.1 hr (fun t ht _ => ⟨⟨1, g', v, rfl, hz, by rw [ht]; exact hP1⟩, hS1.F ht⟩) hS1.2.2 dL_interval_14 (hlocks := hlk)
    · exact absurd r2 e2_interval
theorem w_own {E : En} {o : Nat} {cL : ClassId} {d : Nat} {g : G2} {v : Nat → Int64} {Qw : Int32 → G2 → (Nat → Int64) → Prop} {s : WS} {p : Int32} {i : Int32} (hC : CR g s) (hO : OKs s) (hq : ∀ g' v', CR g' (q1 s (ownM s.T (f_S s.F) p i)).2.2 → HF g g' → (q1 s (ownM s.T (f_S s.F) p i)).1 ≤ 2 → ((q1 s (ownM s.T (f_S s.F) p i)).1 = 0 → v' 0 = (q1 s (ownM s.T (f_S s.F) p i)).2.1.toInt64) → Qw (nI (q1 s (ownM s.T (f_S s.F) p i)).1) g' v') : WMc E o cL wd_own (d + 8) [.ref 0, .int p, .int i] g v Qw := by
  refine WMc.of rfl rfl (Nat.le_of_ble_eq_true rfl) (fun p9 l9 e9 s9 m args9 below9 meth9 c9 ls C hr hlk htab hl hP => ?_)
  have hl : lv_has ls 5 [(0, .ref (E.1 0)), (1, .int p), (2, .int i), (3, .ref o)] := hl
  refine lv_aload_n C.1 C.2.1 dL_own_0 rfl (lv_at hl 3 rfl) ?_
  refine lv_iconst (v := 0) C.1 C.2.1 dL_own_1 (by decide +kernel) ?_
  refine lv_aload_n C.1 C.2.1 dL_own_2 rfl (lv_at hl 0 rfl) ?_
  refine lv_iload_n C.1 C.2.1 dL_own_3 rfl (lv_at hl 1 rfl) ?_
  refine lv_iload_n C.1 C.2.1 dL_own_4 rfl (lv_at hl 2 rfl) ?_
  refine l_callV (md' := md_X11_own) (As := [.int p, .int i]) (rest := [.int 0, .ref o]) (d' := d + 7) (a := 0) C hP va_S.rf hl.1 dL_own_5 ll_57 lm_X11_own lv_X11_own rfl (by decide) rfl rfl rfl (Nat.le_of_ble_eq_true rfl) (Nat.le_refl _) (by show 8 + (5 + 11) + 128 * (d + 7) ≤ 128 * (d + 8); omega) (by show 0 + 2 ≤ 2; decide) (by show 0 + 6 * 2 ≤ 6 * 2; decide) (k_own hC hO KQ.mk) (fun w g' hw H1 locs1 hP1 hS1 => ?_) (fun Ex g' hx H1 locs1 ce q hP1 hS1 hce hcv hcl => ?_)
  · obtain ⟨rfl, r0, hC1, hF1⟩ := hw
    refine W.eq (g2 := F0 m 8 ls [.int (q1 s (ownM s.T (f_S s.F) p i)).2.1, .int 0, .ref o]) rfl ?_
    refine lv_i2l C.1 C.2.1 dL_own_8 rfl ?_
    refine l_out C hP1 hS1 dL_own_9 (fun v' hv' H2 locs2 hP2 hS2 => ?_)
    refine lv_goto (tgt := 17) C.1 C.2.1 dL_own_10 (by decide) ?_
    refine lv_iconst (v := 0) C.1 C.2.1 dL_own_17 (by decide +kernel) ?_
    refine W.widen (k := 2) (n := 6 * 2) (by decide) (by decide) (vx_ret ?_)
    have hz := hq g' v' hC1 hF1 (by rw [r0]; decide) (fun _ => hv')
    rw [r0] at hz
    exact W.iret C.1 C.2.1 hr (fun t ht _ => ⟨⟨0, g', v', rfl, hz, by rw [ht]; exact hP2⟩, hS2.F ht⟩) hS2.2.2 dL_own_18 (hlocks := hlk)
  · rcases hx with ⟨⟨rfl, r1⟩ | ⟨rfl, r2⟩, hC1, hF1⟩
    · refine l_catch1 (x := ⟨0, 10, 13, 18⟩) C htab (by decide) (by decide) wl_c18 (by decide +kernel) hce hcv hcl ?_
      refine lv_astore C.1 C.2.1 dL_own_13 hl (by decide) rfl (fun ls2 hl2 => ?_)
      refine lv_iconst (v := 1) C.1 C.2.1 dL_own_15 (by decide +kernel) ?_
      refine W.widen (k := 2) (n := 6 * 2) (by decide) (by decide) (vx_ret ?_)
      have hz := hq g' v hC1 hF1 (by rw [r1]; decide) (fun q => by rw [r1] at q; cases q)
      rw [r1] at hz
      exact W.iret C.1 C.2.1 hr (fun t ht _ => ⟨⟨1, g', v, rfl, hz, by rw [ht]; exact hP1⟩, hS1.F ht⟩) hS1.2.2 dL_own_16 (hlocks := hlk)
    · exact absurd r2 e2_own
theorem w_breath {E : En} {o : Nat} {cL : ClassId} {d : Nat} {g : G2} {v : Nat → Int64} {Qw : Int32 → G2 → (Nat → Int64) → Prop} {s : WS} {w : Int32} (hC : CR g s) (hO : OKs s) (hq : ∀ g' v', CR g' (q1 s (breM (f_S s.F) w)).2.2 → HF g g' → (q1 s (breM (f_S s.F) w)).1 ≤ 2 → ((q1 s (breM (f_S s.F) w)).1 = 0 → v' 0 = (q1 s (breM (f_S s.F) w)).2.1.toInt64) → Qw (nI (q1 s (breM (f_S s.F) w)).1) g' v') : WMc E o cL wd_breath (d + 8) [.ref 0, .int w] g v Qw := by
  refine WMc.of rfl rfl (Nat.le_of_ble_eq_true rfl) (fun p9 l9 e9 s9 m args9 below9 meth9 c9 ls C hr hlk htab hl hP => ?_)
  have hl : lv_has ls 4 [(0, .ref (E.1 0)), (1, .int w), (2, .ref o)] := hl
  refine lv_aload_n C.1 C.2.1 dL_breath_0 rfl (lv_at hl 2 rfl) ?_
  refine lv_iconst (v := 0) C.1 C.2.1 dL_breath_1 (by decide +kernel) ?_
  refine lv_aload_n C.1 C.2.1 dL_breath_2 rfl (lv_at hl 0 rfl) ?_
  refine lv_iload_n C.1 C.2.1 dL_breath_3 rfl (lv_at hl 1 rfl) ?_
  refine l_callV (md' := md_X11_breath) (As := [.int w]) (rest := [.int 0, .ref o]) (d' := d + 7) (a := 0) C hP va_S.rf hl.1 dL_breath_4 ll_60 lm_X11_breath lv_X11_breath rfl (by decide) rfl rfl rfl (Nat.le_of_ble_eq_true rfl) (Nat.le_refl _) (by show 8 + (6 + 11) + 128 * (d + 7) ≤ 128 * (d + 8); omega) (by show 0 + 1 ≤ 1; decide) (by show 0 + 6 * 1 ≤ 6 * 1; decide) (k_breath hC hO KQ.mk) (fun w g' hw H1 locs1 hP1 hS1 => ?_) (fun Ex g' hx H1 locs1 ce q hP1 hS1 hce hcv hcl => ?_)
  · obtain ⟨rfl, r0, hC1, hF1⟩ := hw
    refine W.eq (g2 := F0 m 7 ls [.int (q1 s (breM (f_S s.F) w)).2.1, .int 0, .ref o]) rfl ?_
    refine lv_i2l C.1 C.2.1 dL_breath_7 rfl ?_
    refine l_out C hP1 hS1 dL_breath_8 (fun v' hv' H2 locs2 hP2 hS2 => ?_)
    refine lv_goto (tgt := 15) C.1 C.2.1 dL_breath_9 (by decide) ?_
    refine lv_iconst (v := 0) C.1 C.2.1 dL_breath_15 (by decide +kernel) ?_
    refine W.widen (k := 1) (n := 6 * 1) (by decide) (by decide) (vx_ret ?_)
    have hz := hq g' v' hC1 hF1 (by rw [r0]; decide) (fun _ => hv')
    rw [r0] at hz
    exact W.iret C.1 C.2.1 hr (fun t ht _ => ⟨⟨0, g', v', rfl, hz, by rw [ht]; exact hP2⟩, hS2.F ht⟩) hS2.2.2 dL_breath_16 (hlocks := hlk)
  · rcases hx with ⟨⟨rfl, r1⟩ | ⟨rfl, r2⟩, hC1, hF1⟩
    · refine l_catch1 (x := ⟨0, 9, 12, 18⟩) C htab (by decide) (by decide) wl_c18 (by decide +kernel) hce hcv hcl ?_
      refine lv_astore_n C.1 C.2.1 dL_breath_12 rfl hl (by decide) rfl (fun ls2 hl2 => ?_)
      refine lv_iconst (v := 1) C.1 C.2.1 dL_breath_13 (by decide +kernel) ?_
      refine W.widen (k := 1) (n := 6 * 1) (by decide) (by decide) (vx_ret ?_)
      have hz := hq g' v hC1 hF1 (by rw [r1]; decide) (fun q => by rw [r1] at q; cases q)
      rw [r1] at hz
      exact W.iret C.1 C.2.1 hr (fun t ht _ => ⟨⟨1, g', v, rfl, hz, by rw [ht]; exact hP1⟩, hS1.F ht⟩) hS1.2.2 dL_breath_14 (hlocks := hlk)
    · exact absurd r2 e2_breath
theorem w_like {E : En} {o : Nat} {cL : ClassId} {d : Nat} {g : G2} {v : Nat → Int64} {Qw : Int32 → G2 → (Nat → Int64) → Prop} {s : WS} {w : Int32} (hC : CR g s) (hO : OKs s) (hq : ∀ g' v', CR g' (q1 s (likM s.T (f_S s.F) w)).2.2 → HF g g' → (q1 s (likM s.T (f_S s.F) w)).1 ≤ 2 → ((q1 s (likM s.T (f_S s.F) w)).1 = 0 → v' 0 = (q1 s (likM s.T (f_S s.F) w)).2.1.toInt64) → Qw (nI (q1 s (likM s.T (f_S s.F) w)).1) g' v') : WMc E o cL wd_like (d + 8) [.ref 0, .int w] g v Qw := by
  refine WMc.of rfl rfl (Nat.le_of_ble_eq_true rfl) (fun p9 l9 e9 s9 m args9 below9 meth9 c9 ls C hr hlk htab hl hP => ?_)
  have hl : lv_has ls 4 [(0, .ref (E.1 0)), (1, .int w), (2, .ref o)] := hl
  refine lv_aload_n C.1 C.2.1 dL_like_0 rfl (lv_at hl 2 rfl) ?_
  refine lv_iconst (v := 0) C.1 C.2.1 dL_like_1 (by decide +kernel) ?_
  refine lv_aload_n C.1 C.2.1 dL_like_2 rfl (lv_at hl 0 rfl) ?_
  refine lv_iload_n C.1 C.2.1 dL_like_3 rfl (lv_at hl 1 rfl) ?_
  refine l_callV (md' := md_X11_like) (As := [.int w]) (rest := [.int 0, .ref o]) (d' := d + 7) (a := 0) C hP va_S.rf hl.1 dL_like_4 ll_63 lm_X11_like lv_X11_like rfl (by decide) rfl rfl rfl (Nat.le_of_ble_eq_true rfl) (Nat.le_refl _) (by show 8 + (2 + 11) + 128 * (d + 7) ≤ 128 * (d + 8); omega) (by show 0 + 1 ≤ 1; decide) (by show 0 + 6 * 1 ≤ 6 * 1; decide) (k_like hC hO KQ.mk) (fun w g' hw H1 locs1 hP1 hS1 => ?_) (fun Ex g' hx H1 locs1 ce q hP1 hS1 hce hcv hcl => ?_)
  · obtain ⟨rfl, r0, hC1, hF1⟩ := hw
    refine W.eq (g2 := F0 m 7 ls [.int (q1 s (likM s.T (f_S s.F) w)).2.1, .int 0, .ref o]) rfl ?_
    refine lv_i2l C.1 C.2.1 dL_like_7 rfl ?_
    refine l_out C hP1 hS1 dL_like_8 (fun v' hv' H2 locs2 hP2 hS2 => ?_)
    refine lv_goto (tgt := 15) C.1 C.2.1 dL_like_9 (by decide) ?_
    refine lv_iconst (v := 0) C.1 C.2.1 dL_like_15 (by decide +kernel) ?_
    refine W.widen (k := 1) (n := 6 * 1) (by decide) (by decide) (vx_ret ?_)
    have hz := hq g' v' hC1 hF1 (by rw [r0]; decide) (fun _ => hv')
    rw [r0] at hz
    exact W.iret C.1 C.2.1 hr (fun t ht _ => ⟨⟨0, g', v', rfl, hz, by rw [ht]; exact hP2⟩, hS2.F ht⟩) hS2.2.2 dL_like_16 (hlocks := hlk)
  · rcases hx with ⟨⟨rfl, r1⟩ | ⟨rfl, r2⟩, hC1, hF1⟩
    · refine l_catch1 (x := ⟨0, 9, 12, 18⟩) C htab (by decide) (by decide) wl_c18 (by decide +kernel) hce hcv hcl ?_
      refine lv_astore_n C.1 C.2.1 dL_like_12 rfl hl (by decide) rfl (fun ls2 hl2 => ?_)
      refine lv_iconst (v := 1) C.1 C.2.1 dL_like_13 (by decide +kernel) ?_
      refine W.widen (k := 1) (n := 6 * 1) (by decide) (by decide) (vx_ret ?_)
      have hz := hq g' v hC1 hF1 (by rw [r1]; decide) (fun q => by rw [r1] at q; cases q)
      rw [r1] at hz
      exact W.iret C.1 C.2.1 hr (fun t ht _ => ⟨⟨1, g', v, rfl, hz, by rw [ht]; exact hP1⟩, hS1.F ht⟩) hS1.2.2 dL_like_14 (hlocks := hlk)
    · exact absurd r2 e2_like
theorem w_then {E : En} {o : Nat} {cL : ClassId} {d : Nat} {g : G2} {v : Nat → Int64} {Qw : Int32 → G2 → (Nat → Int64) → Prop} {s : WS} {i : Int32} (hC : CR g s) (hO : OKs s) (hq : ∀ g' v', CR g' (q1 s (theM s.T (f_S s.F) i)).2.2 → HF g g' → (q1 s (theM s.T (f_S s.F) i)).1 ≤ 2 → ((q1 s (theM s.T (f_S s.F) i)).1 = 0 → v' 0 = (q1 s (theM s.T (f_S s.F) i)).2.1.toInt64) → Qw (nI (q1 s (theM s.T (f_S s.F) i)).1) g' v') : WMc E o cL wd_then (d + 7) [.ref 0, .int i] g v Qw := by
  refine WMc.of rfl rfl (Nat.le_of_ble_eq_true rfl) (fun p9 l9 e9 s9 m args9 below9 meth9 c9 ls C hr hlk htab hl hP => ?_)
  have hl : lv_has ls 4 [(0, .ref (E.1 0)), (1, .int i), (2, .ref o)] := hl
  refine lv_aload_n C.1 C.2.1 dL_then_0 rfl (lv_at hl 2 rfl) ?_
  refine lv_iconst (v := 0) C.1 C.2.1 dL_then_1 (by decide +kernel) ?_
  refine lv_aload_n C.1 C.2.1 dL_then_2 rfl (lv_at hl 0 rfl) ?_
  refine lv_iload_n C.1 C.2.1 dL_then_3 rfl (lv_at hl 1 rfl) ?_
  refine l_callV (md' := md_X11_then) (As := [.int i]) (rest := [.int 0, .ref o]) (d' := d + 6) (a := 0) C hP va_S.rf hl.1 dL_then_4 ll_66 lm_X11_then lv_X11_then rfl (by decide) rfl rfl rfl (Nat.le_of_ble_eq_true rfl) (Nat.le_refl _) (by show 8 + (2 + 11) + 128 * (d + 6) ≤ 128 * (d + 7); omega) (by show 0 + 1 ≤ 1; decide) (by show 0 + 6 * 1 ≤ 6 * 1; decide) (k_then hC hO KQ.mk) (fun w g' hw H1 locs1 hP1 hS1 => ?_) (fun Ex g' hx H1 locs1 ce q hP1 hS1 hce hcv hcl => ?_)
  · obtain ⟨rfl, r0, hC1, hF1⟩ := hw
    refine W.eq (g2 := F0 m 7 ls [.int (q1 s (theM s.T (f_S s.F) i)).2.1, .int 0, .ref o]) rfl ?_
    refine lv_i2l C.1 C.2.1 dL_then_7 rfl ?_
    refine l_out C hP1 hS1 dL_then_8 (fun v' hv' H2 locs2 hP2 hS2 => ?_)
    refine lv_goto (tgt := 15) C.1 C.2.1 dL_then_9 (by decide) ?_
    refine lv_iconst (v := 0) C.1 C.2.1 dL_then_15 (by decide +kernel) ?_
    refine W.widen (k := 1) (n := 6 * 1) (by decide) (by decide) (vx_ret ?_)
    have hz := hq g' v' hC1 hF1 (by rw [r0]; decide) (fun _ => hv')
    rw [r0] at hz
    exact W.iret C.1 C.2.1 hr (fun t ht _ => ⟨⟨0, g', v', rfl, hz, by rw [ht]; exact hP2⟩, hS2.F ht⟩) hS2.2.2 dL_then_16 (hlocks := hlk)
  · rcases hx with ⟨⟨rfl, r1⟩ | ⟨rfl, r2⟩, hC1, hF1⟩
    · refine l_catch1 (x := ⟨0, 9, 12, 13⟩) C htab (by decide) (by decide) wl_c13 (by decide +kernel) hce hcv hcl ?_
      refine lv_astore_n C.1 C.2.1 dL_then_12 rfl hl (by decide) rfl (fun ls2 hl2 => ?_)
      refine lv_iconst (v := 1) C.1 C.2.1 dL_then_13 (by decide +kernel) ?_
      refine W.widen (k := 1) (n := 6 * 1) (by decide) (by decide) (vx_ret ?_)
      have hz := hq g' v hC1 hF1 (by rw [r1]; decide) (fun q => by rw [r1] at q; cases q)
      rw [r1] at hz
      exact W.iret C.1 C.2.1 hr (fun t ht _ => ⟨⟨1, g', v, rfl, hz, by rw [ht]; exact hP1⟩, hS1.F ht⟩) hS1.2.2 dL_then_14 (hlocks := hlk)
    · exact absurd r2 e2_then
theorem w_when {E : En} {o : Nat} {cL : ClassId} {d : Nat} {g : G2} {v : Nat → Int64} {Qw : Int32 → G2 → (Nat → Int64) → Prop} {s : WS} {a : Int32} {b : Int32} (hC : CR g s) (hO : OKs s) (hq : ∀ g' v', CR g' (q1 s (wheM s.T (f_S s.F) a b)).2.2 → HF g g' → (q1 s (wheM s.T (f_S s.F) a b)).1 ≤ 2 → ((q1 s (wheM s.T (f_S s.F) a b)).1 = 0 → v' 0 = (q1 s (wheM s.T (f_S s.F) a b)).2.1.toInt64) → Qw (nI (q1 s (wheM s.T (f_S s.F) a b)).1) g' v') : WMc E o cL wd_when (d + 8) [.ref 0, .int a, .int b] g v Qw := by
  refine WMc.of rfl rfl (Nat.le_of_ble_eq_true rfl) (fun p9 l9 e9 s9 m args9 below9 meth9 c9 ls C hr hlk htab hl hP => ?_)
  have hl : lv_has ls 5 [(0, .ref (E.1 0)), (1, .int a), (2, .int b), (3, .ref o)] := hl
  refine lv_aload_n C.1 C.2.1 dL_when_0 rfl (lv_at hl 3 rfl) ?_
  refine lv_iconst (v := 0) C.1 C.2.1 dL_when_1 (by decide +kernel) ?_
  refine lv_aload_n C.1 C.2.1 dL_when_2 rfl (lv_at hl 0 rfl) ?_
  refine lv_iload_n C.1 C.2.1 dL_when_3 rfl (lv_at hl 1 rfl) ?_
  refine lv_iload_n C.1 C.2.1 dL_when_4 rfl (lv_at hl 2 rfl) ?_
  refine l_callV (md' := md_X11_when) (As := [.int a, .int b]) (rest := [.int 0, .ref o]) (d' := d + 7) (a := 0) C hP va_S.rf hl.1 dL_when_5 ll_69 lm_X11_when lv_X11_when rfl (by decide) rfl rfl rfl (Nat.le_of_ble_eq_true rfl) (Nat.le_refl _) (by show 8 + (5 + 11) + 128 * (d + 7) ≤ 128 * (d + 8); omega) (by show 0 + 1 ≤ 1; decide) (by show 0 + 6 * 1 ≤ 6 * 1; decide) (k_when hC hO KQ.mk) (fun w g' hw H1 locs1 hP1 hS1 => ?_) (fun Ex g' hx H1 locs1 ce q hP1 hS1 hce hcv hcl => ?_)
  · obtain ⟨rfl, r0, hC1, hF1⟩ := hw
    refine W.eq (g2 := F0 m 8 ls [.int (q1 s (wheM s.T (f_S s.F) a b)).2.1, .int 0, .ref o]) rfl ?_
    refine lv_i2l C.1 C.2.1 dL_when_8 rfl ?_
    refine l_out C hP1 hS1 dL_when_9 (fun v' hv' H2 locs2 hP2 hS2 => ?_)
    refine lv_goto (tgt := 17) C.1 C.2.1 dL_when_10 (by decide) ?_
    refine lv_iconst (v := 0) C.1 C.2.1 dL_when_17 (by decide +kernel) ?_
    refine W.widen (k := 1) (n := 6 * 1) (by decide) (by decide) (vx_ret ?_)
    have hz := hq g' v' hC1 hF1 (by rw [r0]; decide) (fun _ => hv')
    rw [r0] at hz
    exact W.iret C.1 C.2.1 hr (fun t ht _ => ⟨⟨0, g', v', rfl, hz, by rw [ht]; exact hP2⟩, hS2.F ht⟩) hS2.2.2 dL_when_18 (hlocks := hlk)
  · rcases hx with ⟨⟨rfl, r1⟩ | ⟨rfl, r2⟩, hC1, hF1⟩
    · refine l_catch1 (x := ⟨0, 10, 13, 13⟩) C htab (by decide) (by decide) wl_c13 (by decide +kernel) hce hcv hcl ?_
      refine lv_astore C.1 C.2.1 dL_when_13 hl (by decide) rfl (fun ls2 hl2 => ?_)
      refine lv_iconst (v := 1) C.1 C.2.1 dL_when_15 (by decide +kernel) ?_
      refine W.widen (k := 1) (n := 6 * 1) (by decide) (by decide) (vx_ret ?_)
      have hz := hq g' v hC1 hF1 (by rw [r1]; decide) (fun q => by rw [r1] at q; cases q)
      rw [r1] at hz
      exact W.iret C.1 C.2.1 hr (fun t ht _ => ⟨⟨1, g', v, rfl, hz, by rw [ht]; exact hP1⟩, hS1.F ht⟩) hS1.2.2 dL_when_16 (hlocks := hlk)
    · exact absurd r2 e2_when
theorem w_quiet {E : En} {o : Nat} {cL : ClassId} {d : Nat} {g : G2} {v : Nat → Int64} {Qw : Int32 → G2 → (Nat → Int64) → Prop} {s : WS} {n : Int32} (hC : CR g s) (hO : OKs s) (hq : ∀ g' v', CR g' (q1 s (quiM s.T (f_S s.F) n)).2.2 → HF g g' → (q1 s (quiM s.T (f_S s.F) n)).1 ≤ 2 → ((q1 s (quiM s.T (f_S s.F) n)).1 = 0 → v' 0 = (q1 s (quiM s.T (f_S s.F) n)).2.1.toInt64) → Qw (nI (q1 s (quiM s.T (f_S s.F) n)).1) g' v') : WMc E o cL wd_quiet (d + 7) [.ref 0, .int n] g v Qw := by
  refine WMc.of rfl rfl (Nat.le_of_ble_eq_true rfl) (fun p9 l9 e9 s9 m args9 below9 meth9 c9 ls C hr hlk htab hl hP => ?_)
  have hl : lv_has ls 4 [(0, .ref (E.1 0)), (1, .int n), (2, .ref o)] := hl
  refine lv_aload_n C.1 C.2.1 dL_quiet_0 rfl (lv_at hl 2 rfl) ?_
  refine lv_iconst (v := 0) C.1 C.2.1 dL_quiet_1 (by decide +kernel) ?_
  refine lv_aload_n C.1 C.2.1 dL_quiet_2 rfl (lv_at hl 0 rfl) ?_
  refine lv_iload_n C.1 C.2.1 dL_quiet_3 rfl (lv_at hl 1 rfl) ?_
  refine l_callV (md' := md_X11_quiet) (As := [.int n]) (rest := [.int 0, .ref o]) (d' := d + 6) (a := 0) C hP va_S.rf hl.1 dL_quiet_4 ll_72 lm_X11_quiet lv_X11_quiet rfl (by decide) rfl rfl rfl (Nat.le_of_ble_eq_true rfl) (Nat.le_refl _) (by show 8 + (6 + 11) + 128 * (d + 6) ≤ 128 * (d + 7); omega) (by show 0 + 1 ≤ 1; decide) (by show 0 + 6 * 1 ≤ 6 * 1; decide) (k_quiet hC hO KQ.mk) (fun w g' hw H1 locs1 hP1 hS1 => ?_) (fun Ex g' hx H1 locs1 ce q hP1 hS1 hce hcv hcl => ?_)
  · obtain ⟨rfl, r0, hC1, hF1⟩ := hw
    refine W.eq (g2 := F0 m 7 ls [.int (q1 s (quiM s.T (f_S s.F) n)).2.1, .int 0, .ref o]) rfl ?_
    refine lv_i2l C.1 C.2.1 dL_quiet_7 rfl ?_
    refine l_out C hP1 hS1 dL_quiet_8 (fun v' hv' H2 locs2 hP2 hS2 => ?_)
    refine lv_goto (tgt := 15) C.1 C.2.1 dL_quiet_9 (by decide) ?_
    refine lv_iconst (v := 0) C.1 C.2.1 dL_quiet_15 (by decide +kernel) ?_
    refine W.widen (k := 1) (n := 6 * 1) (by decide) (by decide) (vx_ret ?_)
    have hz := hq g' v' hC1 hF1 (by rw [r0]; decide) (fun _ => hv')
    rw [r0] at hz
    exact W.iret C.1 C.2.1 hr (fun t ht _ => ⟨⟨0, g', v', rfl, hz, by rw [ht]; exact hP2⟩, hS2.F ht⟩) hS2.2.2 dL_quiet_16 (hlocks := hlk)
  · rcases hx with ⟨⟨rfl, r1⟩ | ⟨rfl, r2⟩, hC1, hF1⟩
    · refine l_catch1 (x := ⟨0, 9, 12, 13⟩) C htab (by decide) (by decide) wl_c13 (by decide +kernel) hce hcv hcl ?_
      refine lv_astore_n C.1 C.2.1 dL_quiet_12 rfl hl (by decide) rfl (fun ls2 hl2 => ?_)
      refine lv_iconst (v := 1) C.1 C.2.1 dL_quiet_13 (by decide +kernel) ?_
      refine W.widen (k := 1) (n := 6 * 1) (by decide) (by decide) (vx_ret ?_)
      have hz := hq g' v hC1 hF1 (by rw [r1]; decide) (fun q => by rw [r1] at q; cases q)
      rw [r1] at hz
      exact W.iret C.1 C.2.1 hr (fun t ht _ => ⟨⟨1, g', v, rfl, hz, by rw [ht]; exact hP1⟩, hS1.F ht⟩) hS1.2.2 dL_quiet_14 (hlocks := hlk)
    · exact absurd r2 e2_quiet
theorem w_spy {E : En} {o : Nat} {cL : ClassId} {d : Nat} {g : G2} {v : Nat → Int64} {Qw : Int32 → G2 → (Nat → Int64) → Prop} {s : WS} {w : Int32} (hC : CR g s) (hO : OKs s) (hq : ∀ g' v', CR g' (q1 s (spyM s.T s.F w)).2.2 → HF g g' → (q1 s (spyM s.T s.F w)).1 ≤ 2 → ((q1 s (spyM s.T s.F w)).1 = 0 → v' 0 = (q1 s (spyM s.T s.F w)).2.1.toInt64) → Qw (nI (q1 s (spyM s.T s.F w)).1) g' v') : WMc E o cL wd_spy (d + 8) [.ref 0, .int w] g v Qw := by
  refine WMc.of rfl rfl (Nat.le_of_ble_eq_true rfl) (fun p9 l9 e9 s9 m args9 below9 meth9 c9 ls C hr hlk htab hl hP => ?_)
  have hl : lv_has ls 4 [(0, .ref (E.1 0)), (1, .int w), (2, .ref o)] := hl
  refine lv_aload_n C.1 C.2.1 dL_spy_0 rfl (lv_at hl 2 rfl) ?_
  refine lv_iconst (v := 0) C.1 C.2.1 dL_spy_1 (by decide +kernel) ?_
  refine lv_aload_n C.1 C.2.1 dL_spy_2 rfl (lv_at hl 0 rfl) ?_
  refine lv_iload_n C.1 C.2.1 dL_spy_3 rfl (lv_at hl 1 rfl) ?_
  refine l_callV (md' := md_X11_spy) (As := [.int w]) (rest := [.int 0, .ref o]) (d' := d + 7) (a := 0) C hP va_S.rf hl.1 dL_spy_4 ll_75 lm_X11_spy lv_X11_spy rfl (by decide) rfl rfl rfl (Nat.le_of_ble_eq_true rfl) (Nat.le_refl _) (by show 8 + (5 + 11) + 128 * (d + 7) ≤ 128 * (d + 8); omega) (by show 0 + 1 ≤ 1; decide) (by show 0 + 6 * 1 ≤ 6 * 1; decide) (k_spy hC hO KQ.mk) (fun w g' hw H1 locs1 hP1 hS1 => ?_) (fun Ex g' hx H1 locs1 ce q hP1 hS1 hce hcv hcl => ?_)
  · obtain ⟨rfl, r0, hC1, hF1⟩ := hw
    refine W.eq (g2 := F0 m 7 ls [.int (q1 s (spyM s.T s.F w)).2.1, .int 0, .ref o]) rfl ?_
    refine lv_i2l C.1 C.2.1 dL_spy_7 rfl ?_
    refine l_out C hP1 hS1 dL_spy_8 (fun v' hv' H2 locs2 hP2 hS2 => ?_)
    refine lv_goto (tgt := 15) C.1 C.2.1 dL_spy_9 (by decide) ?_
    refine lv_iconst (v := 0) C.1 C.2.1 dL_spy_15 (by decide +kernel) ?_
    refine W.widen (k := 1) (n := 6 * 1) (by decide) (by decide) (vx_ret ?_)
    have hz := hq g' v' hC1 hF1 (by rw [r0]; decide) (fun _ => hv')
    rw [r0] at hz
    exact W.iret C.1 C.2.1 hr (fun t ht _ => ⟨⟨0, g', v', rfl, hz, by rw [ht]; exact hP2⟩, hS2.F ht⟩) hS2.2.2 dL_spy_16 (hlocks := hlk)
  · rcases hx with ⟨⟨rfl, r1⟩ | ⟨rfl, r2⟩, hC1, hF1⟩
    · refine l_catch1 (x := ⟨0, 9, 12, 18⟩) C htab (by decide) (by decide) wl_c18 (by decide +kernel) hce hcv hcl ?_
      refine lv_astore_n C.1 C.2.1 dL_spy_12 rfl hl (by decide) rfl (fun ls2 hl2 => ?_)
      refine lv_iconst (v := 1) C.1 C.2.1 dL_spy_13 (by decide +kernel) ?_
      refine W.widen (k := 1) (n := 6 * 1) (by decide) (by decide) (vx_ret ?_)
      have hz := hq g' v hC1 hF1 (by rw [r1]; decide) (fun q => by rw [r1] at q; cases q)
      rw [r1] at hz
      exact W.iret C.1 C.2.1 hr (fun t ht _ => ⟨⟨1, g', v, rfl, hz, by rw [ht]; exact hP1⟩, hS1.F ht⟩) hS1.2.2 dL_spy_14 (hlocks := hlk)
    · exact absurd r2 e2_spy
theorem w_listen {E : En} {o : Nat} {cL : ClassId} {d : Nat} {g : G2} {v : Nat → Int64} {Qw : Int32 → G2 → (Nat → Int64) → Prop} {s : WS} {w : Int32} (hC : CR g s) (hO : OKs s) (hq : ∀ g' v', CR g' (q1 s (lisM s.T s.F w)).2.2 → HF g g' → (q1 s (lisM s.T s.F w)).1 ≤ 2 → ((q1 s (lisM s.T s.F w)).1 = 0 → v' 0 = (q1 s (lisM s.T s.F w)).2.1.toInt64) → Qw (nI (q1 s (lisM s.T s.F w)).1) g' v') : WMc E o cL wd_listen (d + 8) [.ref 0, .int w] g v Qw := by
  refine WMc.of rfl rfl (Nat.le_of_ble_eq_true rfl) (fun p9 l9 e9 s9 m args9 below9 meth9 c9 ls C hr hlk htab hl hP => ?_)
  have hl : lv_has ls 4 [(0, .ref (E.1 0)), (1, .int w), (2, .ref o)] := hl
  refine lv_aload_n C.1 C.2.1 dL_listen_0 rfl (lv_at hl 2 rfl) ?_
  refine lv_iconst (v := 0) C.1 C.2.1 dL_listen_1 (by decide +kernel) ?_
  refine lv_aload_n C.1 C.2.1 dL_listen_2 rfl (lv_at hl 0 rfl) ?_
  refine lv_iload_n C.1 C.2.1 dL_listen_3 rfl (lv_at hl 1 rfl) ?_
  refine l_callV (md' := md_X11_listen) (As := [.int w]) (rest := [.int 0, .ref o]) (d' := d + 7) (a := 0) C hP va_S.rf hl.1 dL_listen_4 ll_78 lm_X11_listen lv_X11_listen rfl (by decide) rfl rfl rfl (Nat.le_of_ble_eq_true rfl) (Nat.le_refl _) (by show 8 + (7 + 11) + 128 * (d + 7) ≤ 128 * (d + 8); omega) (by show 0 + 1 ≤ 1; decide) (by show 0 + 6 * 1 ≤ 6 * 1; decide) (k_listen hC hO KQ.mk) (fun w g' hw H1 locs1 hP1 hS1 => ?_) (fun Ex g' hx H1 locs1 ce q hP1 hS1 hce hcv hcl => ?_)
  · obtain ⟨rfl, r0, hC1, hF1⟩ := hw
    refine W.eq (g2 := F0 m 7 ls [.int (q1 s (lisM s.T s.F w)).2.1, .int 0, .ref o]) rfl ?_
    refine lv_i2l C.1 C.2.1 dL_listen_7 rfl ?_
    refine l_out C hP1 hS1 dL_listen_8 (fun v' hv' H2 locs2 hP2 hS2 => ?_)
    refine lv_goto (tgt := 15) C.1 C.2.1 dL_listen_9 (by decide) ?_
    refine lv_iconst (v := 0) C.1 C.2.1 dL_listen_15 (by decide +kernel) ?_
    refine W.widen (k := 1) (n := 6 * 1) (by decide) (by decide) (vx_ret ?_)
    have hz := hq g' v' hC1 hF1 (by rw [r0]; decide) (fun _ => hv')
    rw [r0] at hz
    exact W.iret C.1 C.2.1 hr (fun t ht _ => ⟨⟨0, g', v', rfl, hz, by rw [ht]; exact hP2⟩, hS2.F ht⟩) hS2.2.2 dL_listen_16 (hlocks := hlk)
  · rcases hx with ⟨⟨rfl, r1⟩ | ⟨rfl, r2⟩, hC1, hF1⟩
    · refine l_catch1 (x := ⟨0, 9, 12, 18⟩) C htab (by decide) (by decide) wl_c18 (by decide +kernel) hce hcv hcl ?_
      refine lv_astore_n C.1 C.2.1 dL_listen_12 rfl hl (by decide) rfl (fun ls2 hl2 => ?_)
      refine lv_iconst (v := 1) C.1 C.2.1 dL_listen_13 (by decide +kernel) ?_
      refine W.widen (k := 1) (n := 6 * 1) (by decide) (by decide) (vx_ret ?_)
      have hz := hq g' v hC1 hF1 (by rw [r1]; decide) (fun q => by rw [r1] at q; cases q)
      rw [r1] at hz
      exact W.iret C.1 C.2.1 hr (fun t ht _ => ⟨⟨1, g', v, rfl, hz, by rw [ht]; exact hP1⟩, hS1.F ht⟩) hS1.2.2 dL_listen_14 (hlocks := hlk)
    · exact absurd r2 e2_listen
theorem w_game {E : En} {o : Nat} {cL : ClassId} {d : Nat} {g : G2} {v : Nat → Int64} {Qw : Int32 → G2 → (Nat → Int64) → Prop} {s : WS} {a : Int32} {b : Int32} {w : Int32} (hC : CR g s) (hO : OKs s) (hq : ∀ g' v', CR g' (q1 s (gamM s.T (f_S s.F) a b w)).2.2 → HF g g' → (q1 s (gamM s.T (f_S s.F) a b w)).1 ≤ 2 → ((q1 s (gamM s.T (f_S s.F) a b w)).1 = 0 → v' 0 = (q1 s (gamM s.T (f_S s.F) a b w)).2.1.toInt64) → Qw (nI (q1 s (gamM s.T (f_S s.F) a b w)).1) g' v') : WMc E o cL wd_game (d + 8) [.ref 0, .int a, .int b, .int w] g v Qw := by
  refine WMc.of rfl rfl (Nat.le_of_ble_eq_true rfl) (fun p9 l9 e9 s9 m args9 below9 meth9 c9 ls C hr hlk htab hl hP => ?_)
  have hl : lv_has ls 6 [(0, .ref (E.1 0)), (1, .int a), (2, .int b), (3, .int w), (4, .ref o)] := hl
  refine lv_aload C.1 C.2.1 dL_game_0 (lv_at hl 4 rfl) ?_
  refine lv_iconst (v := 0) C.1 C.2.1 dL_game_2 (by decide +kernel) ?_
  refine lv_aload_n C.1 C.2.1 dL_game_3 rfl (lv_at hl 0 rfl) ?_
  refine lv_iload_n C.1 C.2.1 dL_game_4 rfl (lv_at hl 1 rfl) ?_
  refine lv_iload_n C.1 C.2.1 dL_game_5 rfl (lv_at hl 2 rfl) ?_
  refine lv_iload_n C.1 C.2.1 dL_game_6 rfl (lv_at hl 3 rfl) ?_
  refine l_callV (md' := md_X11_game) (As := [.int a, .int b, .int w]) (rest := [.int 0, .ref o]) (d' := d + 7) (a := 0) C hP va_S.rf hl.1 dL_game_7 ll_81 lm_X11_game lv_X11_game rfl (by decide) rfl rfl rfl (Nat.le_of_ble_eq_true rfl) (Nat.le_refl _) (by show 8 + (5 + 11) + 128 * (d + 7) ≤ 128 * (d + 8); omega) (by show 0 + 2 ≤ 2; decide) (by show 0 + 6 * 2 ≤ 6 * 2; decide) (k_game hC hO KQ.mk) (fun w g' hw H1 locs1 hP1 hS1 => ?_) (fun Ex g' hx H1 locs1 ce q hP1 hS1 hce hcv hcl => ?_)
  · obtain ⟨rfl, r0, hC1, hF1⟩ := hw
    refine W.eq (g2 := F0 m 10 ls [.int (q1 s (gamM s.T (f_S s.F) a b w)).2.1, .int 0, .ref o]) rfl ?_
    refine lv_i2l C.1 C.2.1 dL_game_10 rfl ?_
    refine l_out C hP1 hS1 dL_game_11 (fun v' hv' H2 locs2 hP2 hS2 => ?_)
    refine lv_goto (tgt := 23) C.1 C.2.1 dL_game_12 (by decide) ?_
    refine lv_iconst (v := 0) C.1 C.2.1 dL_game_23 (by decide +kernel) ?_
    refine W.widen (k := 2) (n := 6 * 2) (by decide) (by decide) (vx_ret ?_)
    have hz := hq g' v' hC1 hF1 (by rw [r0]; decide) (fun _ => hv')
    rw [r0] at hz
    exact W.iret C.1 C.2.1 hr (fun t ht _ => ⟨⟨0, g', v', rfl, hz, by rw [ht]; exact hP2⟩, hS2.F ht⟩) hS2.2.2 dL_game_24 (hlocks := hlk)
  · rcases hx with ⟨⟨rfl, r1⟩ | ⟨rfl, r2⟩, hC1, hF1⟩
    · refine l_catch1 (x := ⟨0, 12, 15, 18⟩) C htab (by decide) (by decide) wl_c18 (by decide +kernel) hce hcv hcl ?_
      refine lv_astore C.1 C.2.1 dL_game_15 hl (by decide) rfl (fun ls2 hl2 => ?_)
      refine lv_iconst (v := 1) C.1 C.2.1 dL_game_17 (by decide +kernel) ?_
      refine W.widen (k := 2) (n := 6 * 2) (by decide) (by decide) (vx_ret ?_)
      have hz := hq g' v hC1 hF1 (by rw [r1]; decide) (fun q => by rw [r1] at q; cases q)
      rw [r1] at hz
      exact W.iret C.1 C.2.1 hr (fun t ht _ => ⟨⟨1, g', v, rfl, hz, by rw [ht]; exact hP1⟩, hS1.F ht⟩) hS1.2.2 dL_game_18 (hlocks := hlk)
    · refine l_catch2 (z := ⟨0, 12, 15, 18⟩) (x := ⟨0, 12, 19, 13⟩) C htab (by decide) (by decide) wl_c18 (by decide) (by decide) wl_c13 hce hcv hcl ?_
      refine lv_astore C.1 C.2.1 dL_game_19 hl (by decide) rfl (fun ls2 hl2 => ?_)
      refine lv_iconst (v := 2) C.1 C.2.1 dL_game_21 (by decide +kernel) ?_
      refine W.widen (k := 2) (n := 6 * 2) (by decide) (by decide) (vx_ret ?_)
      have hz := hq g' v hC1 hF1 (by rw [r2]; decide) (fun q => by rw [r2] at q; cases q)
      rw [r2] at hz
      exact W.iret C.1 C.2.1 hr (fun t ht _ => ⟨⟨2, g', v, rfl, hz, by rw [ht]; exact hP1⟩, hS1.F ht⟩) hS1.2.2 dL_game_22 (hlocks := hlk)
theorem w_century {E : En} {o : Nat} {cL : ClassId} {d : Nat} {g : G2} {v : Nat → Int64} {Qw : Int32 → G2 → (Nat → Int64) → Prop} {s : WS} {a : Int32} {b : Int32} {w : Int32} (hC : CR g s) (hO : OKs s) (hq : ∀ g' v', CR g' (q1 s (cenM s.T (f_S s.F) a b w)).2.2 → HF g g' → (q1 s (cenM s.T (f_S s.F) a b w)).1 ≤ 2 → ((q1 s (cenM s.T (f_S s.F) a b w)).1 = 0 → v' 0 = (q1 s (cenM s.T (f_S s.F) a b w)).2.1.toInt64) → Qw (nI (q1 s (cenM s.T (f_S s.F) a b w)).1) g' v') : WMc E o cL wd_century (d + 9) [.ref 0, .int a, .int b, .int w] g v Qw := by
  refine WMc.of rfl rfl (Nat.le_of_ble_eq_true rfl) (fun p9 l9 e9 s9 m args9 below9 meth9 c9 ls C hr hlk htab hl hP => ?_)
  have hl : lv_has ls 6 [(0, .ref (E.1 0)), (1, .int a), (2, .int b), (3, .int w), (4, .ref o)] := hl
  refine lv_aload C.1 C.2.1 dL_century_0 (lv_at hl 4 rfl) ?_
  refine lv_iconst (v := 0) C.1 C.2.1 dL_century_2 (by decide +kernel) ?_
  refine lv_aload_n C.1 C.2.1 dL_century_3 rfl (lv_at hl 0 rfl) ?_
  refine lv_iload_n C.1 C.2.1 dL_century_4 rfl (lv_at hl 1 rfl) ?_
  refine lv_iload_n C.1 C.2.1 dL_century_5 rfl (lv_at hl 2 rfl) ?_
  refine lv_iload_n C.1 C.2.1 dL_century_6 rfl (lv_at hl 3 rfl) ?_
  refine l_callV (md' := md_X11_century) (As := [.int a, .int b, .int w]) (rest := [.int 0, .ref o]) (d' := d + 8) (a := 0) C hP va_S.rf hl.1 dL_century_7 ll_84 lm_X11_century lv_X11_century rfl (by decide) rfl rfl rfl (Nat.le_of_ble_eq_true rfl) (Nat.le_refl _) (by show 8 + (7 + 11) + 128 * (d + 8) ≤ 128 * (d + 9); omega) (by show 0 + 2 ≤ 2; decide) (by show 0 + 6 * 2 ≤ 6 * 2; decide) (k_century hC hO KQ.mk) (fun w g' hw H1 locs1 hP1 hS1 => ?_) (fun Ex g' hx H1 locs1 ce q hP1 hS1 hce hcv hcl => ?_)
  · obtain ⟨rfl, r0, hC1, hF1⟩ := hw
    refine W.eq (g2 := F0 m 10 ls [.int (q1 s (cenM s.T (f_S s.F) a b w)).2.1, .int 0, .ref o]) rfl ?_
    refine lv_i2l C.1 C.2.1 dL_century_10 rfl ?_
    refine l_out C hP1 hS1 dL_century_11 (fun v' hv' H2 locs2 hP2 hS2 => ?_)
    refine lv_goto (tgt := 23) C.1 C.2.1 dL_century_12 (by decide) ?_
    refine lv_iconst (v := 0) C.1 C.2.1 dL_century_23 (by decide +kernel) ?_
    refine W.widen (k := 2) (n := 6 * 2) (by decide) (by decide) (vx_ret ?_)
    have hz := hq g' v' hC1 hF1 (by rw [r0]; decide) (fun _ => hv')
    rw [r0] at hz
    exact W.iret C.1 C.2.1 hr (fun t ht _ => ⟨⟨0, g', v', rfl, hz, by rw [ht]; exact hP2⟩, hS2.F ht⟩) hS2.2.2 dL_century_24 (hlocks := hlk)
  · rcases hx with ⟨⟨rfl, r1⟩ | ⟨rfl, r2⟩, hC1, hF1⟩
    · refine l_catch1 (x := ⟨0, 12, 15, 18⟩) C htab (by decide) (by decide) wl_c18 (by decide +kernel) hce hcv hcl ?_
      refine lv_astore C.1 C.2.1 dL_century_15 hl (by decide) rfl (fun ls2 hl2 => ?_)
      refine lv_iconst (v := 1) C.1 C.2.1 dL_century_17 (by decide +kernel) ?_
      refine W.widen (k := 2) (n := 6 * 2) (by decide) (by decide) (vx_ret ?_)
      have hz := hq g' v hC1 hF1 (by rw [r1]; decide) (fun q => by rw [r1] at q; cases q)
      rw [r1] at hz
      exact W.iret C.1 C.2.1 hr (fun t ht _ => ⟨⟨1, g', v, rfl, hz, by rw [ht]; exact hP1⟩, hS1.F ht⟩) hS1.2.2 dL_century_18 (hlocks := hlk)
    · refine l_catch2 (z := ⟨0, 12, 15, 18⟩) (x := ⟨0, 12, 19, 13⟩) C htab (by decide) (by decide) wl_c18 (by decide) (by decide) wl_c13 hce hcv hcl ?_
      refine lv_astore C.1 C.2.1 dL_century_19 hl (by decide) rfl (fun ls2 hl2 => ?_)
      refine lv_iconst (v := 2) C.1 C.2.1 dL_century_21 (by decide +kernel) ?_
      refine W.widen (k := 2) (n := 6 * 2) (by decide) (by decide) (vx_ret ?_)
      have hz := hq g' v hC1 hF1 (by rw [r2]; decide) (fun q => by rw [r2] at q; cases q)
      rw [r2] at hz
      exact W.iret C.1 C.2.1 hr (fun t ht _ => ⟨⟨2, g', v, rfl, hz, by rw [ht]; exact hP1⟩, hS1.F ht⟩) hS1.2.2 dL_century_22 (hlocks := hlk)
