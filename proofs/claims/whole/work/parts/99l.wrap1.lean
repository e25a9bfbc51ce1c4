theorem w_town {E : En} {o : Nat} {cL : ClassId} {d : Nat} {g : G2} {v : Nat → Int64} {Qw : Int32 → G2 → (Nat → Int64) → Prop} {s : WS} {x : Int32} (hC : CR g s) (hO : OKs s) (hq : ∀ g' v', CR g' (twO s x).2.2 → HF g g' → (twO s x).1 ≤ 2 → ((twO s x).1 = 0 → v' 0 = (twO s x).2.1.toInt64) → Qw (nI (twO s x).1) g' v') : WMc E o cL wd_town (d + 11) [.ref 0, .int x] g v Qw := by
  refine WMc.of rfl rfl (Nat.le_of_ble_eq_true rfl) (fun p9 l9 e9 s9 m args9 below9 meth9 c9 ls C hr hlk htab hl hP => ?_)
  have hl : lv_has ls 4 [(0, .ref (E.1 0)), (1, .int x), (2, .ref o)] := hl
  refine lv_aload_n C.1 C.2.1 dL_town_0 rfl (lv_at hl 2 rfl) ?_
  refine lv_iconst (v := 0) C.1 C.2.1 dL_town_1 (by decide +kernel) ?_
  refine lv_aload_n C.1 C.2.1 dL_town_2 rfl (lv_at hl 0 rfl) ?_
  refine lv_iload_n C.1 C.2.1 dL_town_3 rfl (lv_at hl 1 rfl) ?_
  refine l_callV (md' := md_X11_town) (As := [.int x]) (rest := [.int 0, .ref o]) (d' := d + 10) (a := 0) C hP va_S.rf hl.1 dL_town_4 ll_7 lm_X11_town lv_X11_town rfl (by decide) rfl rfl rfl (Nat.le_of_ble_eq_true rfl) (Nat.le_refl _) (by show 8 + (4 + 11) + 128 * (d + 10) ≤ 128 * (d + 11); omega) (by show 0 + 1 ≤ 1; decide) (by show 0 + 6 * 1 ≤ 6 * 1; decide) (k_town hC hO KQ.mk) (fun w g' hw H1 locs1 hP1 hS1 => ?_) (fun Ex g' hx H1 locs1 ce q hP1 hS1 hce hcv hcl => ?_)
  · obtain ⟨rfl, r0, hC1, hF1⟩ := hw
    refine W.eq (g2 := F0 m 7 ls [.int (twO s x).2.1, .int 0, .ref o]) rfl ?_
    refine lv_i2l C.1 C.2.1 dL_town_7 rfl ?_
    refine l_out C hP1 hS1 dL_town_8 (fun v' hv' H2 locs2 hP2 hS2 => ?_)
    refine lv_goto (tgt := 15) C.1 C.2.1 dL_town_9 (by decide) ?_
    refine lv_iconst (v := 0) C.1 C.2.1 dL_town_15 (by decide +kernel) ?_
    refine W.widen (k := 1) (n := 6 * 1) (by decide) (by decide) (vx_ret ?_)
    have hz := hq g' v' hC1 hF1 (by rw [r0]; decide) (fun _ => hv')
    rw [r0] at hz
    exact W.iret C.1 C.2.1 hr (fun t ht _ => ⟨⟨0, g', v', rfl, hz, by rw [ht]; exact hP2⟩, hS2.F ht⟩) hS2.2.2 dL_town_16 (hlocks := hlk)
  · rcases hx with ⟨⟨rfl, r1⟩ | ⟨rfl, r2⟩, hC1, hF1⟩
    · refine l_catch1 (x := ⟨0, 9, 12, 13⟩) C htab (by decide) (by decide) wl_c13 (by decide +kernel) hce hcv hcl ?_
      refine lv_astore_n C.1 C.2.1 dL_town_12 rfl hl (by decide) rfl (fun ls2 hl2 => ?_)
      refine lv_iconst (v := 1) C.1 C.2.1 dL_town_13 (by decide +kernel) ?_
      refine W.widen (k := 1) (n := 6 * 1) (by decide) (by decide) (vx_ret ?_)
      have hz := hq g' v hC1 hF1 (by rw [r1]; decide) (fun q => by rw [r1] at q; cases q)
      rw [r1] at hz
      exact W.iret C.1 C.2.1 hr (fun t ht _ => ⟨⟨1, g', v, rfl, hz, by rw [ht]; exact hP1⟩, hS1.F ht⟩) hS1.2.2 dL_town_14 (hlocks := hlk)
    · exact absurd r2 e2_town
