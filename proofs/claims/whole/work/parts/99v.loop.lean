theorem nI_l6 : ∀ L, L < 6 → ∀ i, i < 6 → nI L - 6 < nI i := by decide +kernel
theorem nI_w6 {L i : Nat} (hL : L ≤ 3072) (hi : i ≤ L) : (nI L - 6 < nI i ↔ L < i + 6) := by
  by_cases h : L < 6
  · exact ⟨fun _ => by omega, fun _ => nI_l6 L h i (by omega)⟩
  · rw [show (6 : Int32) = nI 6 from rfl, nI_sub L 6 (by omega), nI_ltI (by omega) (by omega)]
    omega
theorem law_sw {E : En} {o : Nat} {cL : ClassId} {p : Program} {l : Launch} {e : Env} {s : State} {m : MethodId} {below : List Frame} {meth : Method} {c : Code} {b L : Nat} {xs : Nat → Int32} {H : Heap} {locs : List Loc} {cells slots : Nat} {Q : State → Prop} {ls : Array Slot} {g : G2} {v : Nat → Int64} {i : Nat} {x : Int32} {σ : WS} (C : LXw E o cL (Alw s) p l s m #[Value.ref b] c cL_law 7) (hX : va_X b L xs s s.heap) (hbl : b < s.heap.size) (hL : L ≤ 3072) (hi : i + 5 < L) (hP : LPw E o cL g v H) (hS : va_S (Alw s) s.heap H locs) (hC : CR g σ) (hM : MR g σ) (hO : OKs σ) (hl : lv_has ls 7 (lawlv E b o i)) (hcl : cells + 4 ≤ 601024) (hsl : slots + 24 ≤ 7293034) (kn : LNx E o cL b p l e s m below meth c Q (cells + 4) (slots + 24) i) : W p l e room_1 s m #[Value.ref b] below meth c H locs cells slots Q (F0 m 40 ls [.int x]) := by
  by_cases h : x.toInt < 0 ∨ 36 < x.toInt
  · refine lv_tableOut (tgt := 1976) C.1 C.2.1 dL_law_40 h (by decide) ?_
    refine W.widen (k := cells + 4) (n := slots + 24) (Nat.le_add_right _ _) (Nat.le_add_right _ _) ?_
    exact kn σ g v H locs ls hP hS hC hM hO hl
  · obtain ⟨k, hk⟩ : ∃ k : Nat, x.toInt = (k : Int) := ⟨x.toInt.toNat, by omega⟩
    have h1 : ¬ x.toInt < 0 := fun q => h (Or.inl q)
    have h2 : ¬ 36 < x.toInt := fun q => h (Or.inr q)
    have hc : k = 0 ∨ k = 1 ∨ k = 2 ∨ k = 3 ∨ k = 4 ∨ k = 5 ∨ k = 6 ∨ k = 7 ∨ k = 8 ∨ k = 9 ∨ k = 10 ∨ k = 11 ∨ k = 12 ∨ k = 13 ∨ k = 14 ∨ k = 15 ∨ k = 16 ∨ k = 17 ∨ k = 18 ∨ k = 19 ∨ k = 20 ∨ k = 21 ∨ k = 22 ∨ k = 23 ∨ k = 24 ∨ k = 25 ∨ k = 26 ∨ k = 27 ∨ k = 28 ∨ k = 29 ∨ k = 30 ∨ k = 31 ∨ k = 32 ∨ k = 33 ∨ k = 34 ∨ k = 35 ∨ k = 36 := by omega
    rcases hc with rfl | rfl | rfl | rfl | rfl | rfl | rfl | rfl | rfl | rfl | rfl | rfl | rfl | rfl | rfl | rfl | rfl | rfl | rfl | rfl | rfl | rfl | rfl | rfl | rfl | rfl | rfl | rfl | rfl | rfl | rfl | rfl | rfl | rfl | rfl | rfl | rfl
    · exact lv_tableIn (off := 164) (tgt := 204) C.1 C.2.1 dL_law_40 h1 h2 (by rw [hk]; rfl) (by decide) (z_feed C hX hbl hL hi hP hS hC hM hO hl hcl hsl kn)
    · exact lv_tableIn (off := 237) (tgt := 277) C.1 C.2.1 dL_law_40 h1 h2 (by rw [hk]; rfl) (by decide) (z_town C hX hbl hL hi hP hS hC hM hO hl hcl hsl kn)
    · exact lv_tableIn (off := 293) (tgt := 333) C.1 C.2.1 dL_law_40 h1 h2 (by rw [hk]; rfl) (by decide) (z_fault C hX hbl hL hi hP hS hC hM hO hl hcl hsl kn)
    · exact lv_tableIn (off := 306) (tgt := 346) C.1 C.2.1 dL_law_40 h1 h2 (by rw [hk]; rfl) (by decide) (z_count C hX hbl hL hi hP hS hC hM hO hl hcl hsl kn)
    · exact lv_tableIn (off := 362) (tgt := 402) C.1 C.2.1 dL_law_40 h1 h2 (by rw [hk]; rfl) (by decide) (z_person C hX hbl hL hi hP hS hC hM hO hl hcl hsl kn)
    · exact lv_tableIn (off := 430) (tgt := 470) C.1 C.2.1 dL_law_40 h1 h2 (by rw [hk]; rfl) (by decide) (z_feud C hX hbl hL hi hP hS hC hM hO hl hcl hsl kn)
    · exact lv_tableIn (off := 498) (tgt := 538) C.1 C.2.1 dL_law_40 h1 h2 (by rw [hk]; rfl) (by decide) (z_sign C hX hbl hL hi hP hS hC hM hO hl hcl hsl kn)
    · exact lv_tableIn (off := 566) (tgt := 606) C.1 C.2.1 dL_law_40 h1 h2 (by rw [hk]; rfl) (by decide) (z_other C hX hbl hL hi hP hS hC hM hO hl hcl hsl kn)
    · exact lv_tableIn (off := 622) (tgt := 662) C.1 C.2.1 dL_law_40 h1 h2 (by rw [hk]; rfl) (by decide) (z_years C hX hbl hL hi hP hS hC hM hO hl hcl hsl kn)
    · exact lv_tableIn (off := 647) (tgt := 687) C.1 C.2.1 dL_law_40 h1 h2 (by rw [hk]; rfl) (by decide) (z_away C hX hbl hL hi hP hS hC hM hO hl hcl hsl kn)
    · exact lv_tableIn (off := 738) (tgt := 778) C.1 C.2.1 dL_law_40 h1 h2 (by rw [hk]; rfl) (by decide) (z_dies C hX hbl hL hi hP hS hC hM hO hl hcl hsl kn)
    · exact lv_tableIn (off := 801) (tgt := 841) C.1 C.2.1 dL_law_40 h1 h2 (by rw [hk]; rfl) (by decide) (z_marry C hX hbl hL hi hP hS hC hM hO hl hcl hsl kn)
    · exact lv_tableIn (off := 869) (tgt := 909) C.1 C.2.1 dL_law_40 h1 h2 (by rw [hk]; rfl) (by decide) (z_quarrel C hX hbl hL hi hP hS hC hM hO hl hcl hsl kn)
    · exact lv_tableIn (off := 937) (tgt := 977) C.1 C.2.1 dL_law_40 h1 h2 (by rw [hk]; rfl) (by decide) (z_peace C hX hbl hL hi hP hS hC hM hO hl hcl hsl kn)
    · exact lv_tableIn (off := 962) (tgt := 1002) C.1 C.2.1 dL_law_40 h1 h2 (by rw [hk]; rfl) (by decide) (z_undo C hX hbl hL hi hP hS hC hM hO hl hcl hsl kn)
    · exact lv_tableIn (off := 975) (tgt := 1015) C.1 C.2.1 dL_law_40 h1 h2 (by rw [hk]; rfl) (by decide) (z_found C hX hbl hL hi hP hS hC hM hO hl hcl hsl kn)
    · exact lv_tableIn (off := 1055) (tgt := 1095) C.1 C.2.1 dL_law_40 h1 h2 (by rw [hk]; rfl) (by decide) (z_again C hX hbl hL hi hP hS hC hM hO hl hcl hsl kn)
    · exact lv_tableIn (off := 1111) (tgt := 1151) C.1 C.2.1 dL_law_40 h1 h2 (by rw [hk]; rfl) (by decide) (z_tritones C hX hbl hL hi hP hS hC hM hO hl hcl hsl kn)
    · exact lv_tableIn (off := 1124) (tgt := 1164) C.1 C.2.1 dL_law_40 h1 h2 (by rw [hk]; rfl) (by decide) (z_interval C hX hbl hL hi hP hS hC hM hO hl hcl hsl kn)
    · exact lv_tableIn (off := 1180) (tgt := 1220) C.1 C.2.1 dL_law_40 h1 h2 (by rw [hk]; rfl) (by decide) (z_own C hX hbl hL hi hP hS hC hM hO hl hcl hsl kn)
    · exact lv_tableIn (off := 1248) (tgt := 1288) C.1 C.2.1 dL_law_40 h1 h2 (by rw [hk]; rfl) (by decide) (z_breath C hX hbl hL hi hP hS hC hM hO hl hcl hsl kn)
    · exact lv_tableIn (off := 1304) (tgt := 1344) C.1 C.2.1 dL_law_40 h1 h2 (by rw [hk]; rfl) (by decide) (z_palindrome C hX hbl hL hi hP hS hC hM hO hl hcl hsl kn)
    · exact lv_tableIn (off := 1317) (tgt := 1357) C.1 C.2.1 dL_law_40 h1 h2 (by rw [hk]; rfl) (by decide) (z_tonic C hX hbl hL hi hP hS hC hM hO hl hcl hsl kn)
    · exact lv_tableIn (off := 1330) (tgt := 1370) C.1 C.2.1 dL_law_40 h1 h2 (by rw [hk]; rfl) (by decide) (z_like C hX hbl hL hi hP hS hC hM hO hl hcl hsl kn)
    · exact lv_tableIn (off := 1386) (tgt := 1426) C.1 C.2.1 dL_law_40 h1 h2 (by rw [hk]; rfl) (by decide) (z_then C hX hbl hL hi hP hS hC hM hO hl hcl hsl kn)
    · exact lv_tableIn (off := 1442) (tgt := 1482) C.1 C.2.1 dL_law_40 h1 h2 (by rw [hk]; rfl) (by decide) (z_when C hX hbl hL hi hP hS hC hM hO hl hcl hsl kn)
    · exact lv_tableIn (off := 1510) (tgt := 1550) C.1 C.2.1 dL_law_40 h1 h2 (by rw [hk]; rfl) (by decide) (z_quiet C hX hbl hL hi hP hS hC hM hO hl hcl hsl kn)
    · exact lv_tableIn (off := 1566) (tgt := 1606) C.1 C.2.1 dL_law_40 h1 h2 (by rw [hk]; rfl) (by decide) (z_match C hX hbl hL hi hP hS hC hM hO hl hcl hsl kn)
    · exact lv_tableIn (off := 1579) (tgt := 1619) C.1 C.2.1 dL_law_40 h1 h2 (by rw [hk]; rfl) (by decide) (z_hear C hX hbl hL hi hP hS hC hM hO hl hcl hsl kn)
    · exact lv_tableIn (off := 1616) (tgt := 1656) C.1 C.2.1 dL_law_40 h1 h2 (by rw [hk]; rfl) (by decide) (z_spy C hX hbl hL hi hP hS hC hM hO hl hcl hsl kn)
    · exact lv_tableIn (off := 1672) (tgt := 1712) C.1 C.2.1 dL_law_40 h1 h2 (by rw [hk]; rfl) (by decide) (z_listen C hX hbl hL hi hP hS hC hM hO hl hcl hsl kn)
    · exact lv_tableIn (off := 1728) (tgt := 1768) C.1 C.2.1 dL_law_40 h1 h2 (by rw [hk]; rfl) (by decide) (z_forget C hX hbl hL hi hP hS hC hM hO hl hcl hsl kn)
    · exact lv_tableIn (off := 1739) (tgt := 1779) C.1 C.2.1 dL_law_40 h1 h2 (by rw [hk]; rfl) (by decide) (z_vote C hX hbl hL hi hP hS hC hM hO hl hcl hsl kn)
    · exact lv_tableIn (off := 1752) (tgt := 1792) C.1 C.2.1 dL_law_40 h1 h2 (by rw [hk]; rfl) (by decide) (z_game C hX hbl hL hi hP hS hC hM hO hl hcl hsl kn)
    · exact lv_tableIn (off := 1832) (tgt := 1872) C.1 C.2.1 dL_law_40 h1 h2 (by rw [hk]; rfl) (by decide) (z_century C hX hbl hL hi hP hS hC hM hO hl hcl hsl kn)
    · exact lv_tableIn (off := 1912) (tgt := 1952) C.1 C.2.1 dL_law_40 h1 h2 (by rw [hk]; rfl) (by decide) (z_image C hX hbl hL hi hP hS hC hM hO hl hcl hsl kn)
    · exact lv_tableIn (off := 1923) (tgt := 1963) C.1 C.2.1 dL_law_40 h1 h2 (by rw [hk]; rfl) (by decide) (z_restore C hX hbl hL hi hP hS hC hM hO hl hcl hsl kn)
theorem law_loop {E : En} {o : Nat} {cL : ClassId} {p : Program} {l : Launch} {e : Env} {s : State} {m : MethodId} {below : List Frame} {meth : Method} {c : Code} {b L : Nat} {xs : Nat → Int32} (C : LXw E o cL (Alw s) p l s m #[Value.ref b] c cL_law 7) (hr : meth.sig.returnType = ret) (hlocks : meth.locks = false) (hX : va_X b L xs s s.heap) (hbl : b < s.heap.size) (hL : L ≤ 3072) : ∀ (n i : Nat), L - i ≤ n → i ≤ L → ∀ (σ : WS) (g : G2) (v : Nat → Int64) (H : Heap) (locs : List Loc) (ls : Array Slot) (cells slots : Nat), cells + (L - i) ≤ 601024 → slots + 4 * (L - i) ≤ 7293034 → LPw E o cL g v H → va_S (Alw s) s.heap H locs → CR g σ → MR g σ → OKs σ → lv_has ls 7 (lawlv E b o i) →
    W p l e room_1 s m #[Value.ref b] below meth c H locs cells slots (lw_Z below #[Value.ref b] s) (F0 m 23 ls []) := by
  intro n
  induction n with
  | zero =>
    intro i hn hi σ g v H locs ls cells slots hcl hsl hP hS hC hM hO hl
    refine lv_iload C.1 C.2.1 dL_law_23 (lv_at hl 4 rfl) ?_
    refine lv_aload_n C.1 C.2.1 dL_law_25 rfl (lv_at hl 0 rfl) ?_
    refine va_slen C.1 C.2.1 hX hbl (fun q => absurd hbl (Nat.not_lt.mpr q)) hS dL_law_26 ?_
    refine lv_bipush (v := 6) C.1 C.2.1 dL_law_27 (by decide +kernel) ?_
    refine lv_isub C.1 C.2.1 dL_law_29 ?_
    refine lv_icmp_gt (tgt := 1982) C.1 C.2.1 dL_law_30 (by decide) (fun q => ?_) (fun q => absurd ((nI_w6 hL hi).mpr (by omega)) q)
    refine lv_iconst (v := 1) C.1 C.2.1 dL_law_1982 (by decide +kernel) ?_
    refine va_forget (fun q hq => hS.2.2 q hq) ?_
    refine W.widen (k := 601024) (n := 7293034) (by omega) (by omega) ?_
    exact lw_ret C.1 C.2.1 hr hlocks dL_law_1983
  | succ n ih =>
    intro i hn hi σ g v H locs ls cells slots hcl hsl hP hS hC hM hO hl
    refine lv_iload C.1 C.2.1 dL_law_23 (lv_at hl 4 rfl) ?_
    refine lv_aload_n C.1 C.2.1 dL_law_25 rfl (lv_at hl 0 rfl) ?_
    refine va_slen C.1 C.2.1 hX hbl (fun q => absurd hbl (Nat.not_lt.mpr q)) hS dL_law_26 ?_
    refine lv_bipush (v := 6) C.1 C.2.1 dL_law_27 (by decide +kernel) ?_
    refine lv_isub C.1 C.2.1 dL_law_29 ?_
    refine lv_icmp_gt (tgt := 1982) C.1 C.2.1 dL_law_30 (by decide) (fun q => ?_) (fun q => ?_)
    · refine lv_iconst (v := 1) C.1 C.2.1 dL_law_1982 (by decide +kernel) ?_
      refine va_forget (fun q hq => hS.2.2 q hq) ?_
      refine W.widen (k := 601024) (n := 7293034) (by omega) (by omega) ?_
      exact lw_ret C.1 C.2.1 hr hlocks dL_law_1983
    · have hi6 : i + 5 < L := by
        have z9 : ¬ L < i + 6 := fun z => q ((nI_w6 hL hi).mpr z)
        omega
      refine lv_aload_n C.1 C.2.1 dL_law_33 rfl (lv_at hl 0 rfl) ?_
      refine lv_iload C.1 C.2.1 dL_law_34 (lv_at hl 4 rfl) ?_
      refine va_sld (A := Alw s) C.1 C.2.1 hX hbl (fun q => absurd hbl (Nat.not_lt.mpr q)) hS ?_ dL_law_36 ?_
      · unfold vp_in
        rw [nI_cl (by omega)]
        intro q
        rcases q with q | q
        · exact nI_pos (by omega) q
        · omega
      refine lv_bipush (v := 63) C.1 C.2.1 dL_law_37 (by decide +kernel) ?_
      refine lv_iand C.1 C.2.1 dL_law_39 ?_
      refine law_sw C hX hbl hL hi6 hP hS hC hM hO hl (by omega) (by omega) ?_
      intro σ1 g1 v1 H1 locs1 ls1 hP1 hS1 hC1 hM1 hO1 hl1
      refine lv_iinc (k := 4) (v := nI (i + 6)) C.1 C.2.1 dL_law_1976 hl1 rfl ?_ (by decide) rfl (fun ls2 hl2 => ?_)
      · rw [show Int32.ofInt 6 = nI 6 from by decide +kernel, nI_add]
      refine lv_goto (tgt := 23) C.1 C.2.1 dL_law_1979 (by decide) ?_
      exact ih (i + 6) (by omega) (by omega) σ1 g1 v1 H1 locs1 ls2 (cells + 4) (slots + 24) (by omega) (by omega) hP1 hS1 hC1 hM1 hO1 (lv_sub hl2 [1, 2, 3, 4, 0] rfl)
