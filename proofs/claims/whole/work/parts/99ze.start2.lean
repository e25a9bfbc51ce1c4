theorem narA : ∀ p ∈ strA, okSA p = true := by
  intro p hp
  have h0 : strA = (strA.drop 0).take 12 ++ ((strA.drop 12).take 12 ++ ((strA.drop 24).take 12 ++ (strA.drop 36).take 12)) := by rfl
  rw [h0] at hp
  rcases List.mem_append.mp hp with h | h
  · exact List.all_eq_true.mp narA0 p h
  rcases List.mem_append.mp h with h | h
  · exact List.all_eq_true.mp narA1 p h
  rcases List.mem_append.mp h with h | h
  · exact List.all_eq_true.mp narA2 p h
  · exact List.all_eq_true.mp narA3 p h
theorem zipA {α : Type} {w : α → Cond} : ∀ (L : List α) (P : List Nat), L.length = P.length → (L.zip P).all (fun x => decide (lw_tbl[x.2]? = some (w x.1))) = true → ∀ q ∈ L, w q ∈ lw_tbl
  | [], _, _, _, q, hq => by cases hq
  | a :: L, [], hl, _, _, _ => by cases hl
  | a :: L, i :: P, hl, h, q, hq => by
    simp only [List.zip_cons_cons, List.all_cons, Bool.and_eq_true, decide_eq_true_eq] at h
    rcases List.mem_cons.mp hq with e | hq
    · rw [e]; exact List.mem_of_getElem? h.1
    · exact zipA L P (Nat.succ.inj hl) h.2 q hq
theorem pickA {R : SA → Nat × Nat → Prop} : ∀ (L : List SA), (L.map (fun p => p.2.1)).Nodup → (∀ p ∈ L, ∃ v, R p v) → ∃ f : Nat → Nat × Nat, ∀ p ∈ L, R p (f p.2.1)
  | [], _, _ => ⟨fun _ => (0, 0), fun p hp => by cases hp⟩
  | a :: L, hn, h => by
    obtain ⟨v, hv⟩ := h a List.mem_cons_self
    rw [List.map_cons] at hn
    obtain ⟨hn1, hn2⟩ := List.nodup_cons.mp hn
    obtain ⟨f, hf⟩ := pickA L hn2 (fun p hp => h p (List.mem_cons_of_mem _ hp))
    refine ⟨fun n => if n = a.2.1 then v else f n, fun p hp => ?_⟩
    rcases List.mem_cons.mp hp with e | hp
    · rw [e]; show R a (if a.2.1 = a.2.1 then v else f a.2.1); rw [if_pos rfl]; exact hv
    · have hne : p.2.1 ≠ a.2.1 := fun e => hn1 (e ▸ List.mem_map.mpr ⟨p, hp, rfl⟩)
      show R p (if p.2.1 = a.2.1 then v else f p.2.1)
      rw [if_neg hne]
      exact hf p hp
theorem vk_one {len : List Nat} {byt : List (List Int32)} {adK adV : Nat → Nat} {A : Nat → Prop} {U : State} {H : Heap} (h : vk_S 1 len byt adK adV A U H) : vk_S 1 len byt (fun _ => adK 0) (fun _ => adV 0) A U H :=
  ⟨fun i hi => by obtain rfl : i = 0 := by omega
                  exact h.1 0 hi, fun i j hi hj _ => by omega⟩
theorem str_start {args : Array Value} {s : State} {A : Nat → Prop} (hn : narrow_1.before args s = true) (hts : ∀ w ∈ lw_tbl, w.before args s = true) (hA : ∀ a : Nat, a < s.heap.size → ¬ A a) :
    ∃ f : Nat → Nat × Nat, ∀ p ∈ strA, vk_R p.2.2.1 p.2.2.2.1 p.2.2.2.2.1 (f p.2.1).1 s ∧ vk_S 1 [p.2.2.2.2.2.1] [p.2.2.2.2.2.2.1] (fun _ => (f p.2.1).1) (fun _ => (f p.2.1).2) A s s.heap := by
  refine pickA (R := fun p v => vk_R p.2.2.1 p.2.2.2.1 p.2.2.2.2.1 v.1 s ∧ vk_S 1 [p.2.2.2.2.2.1] [p.2.2.2.2.2.2.1] (fun _ => v.1) (fun _ => v.2) A s s.heap) strA keyA (fun p hp => ?_)
  have hk : ∀ k, k < 4 + p.2.2.2.2.2.1 → (wdA p k).before args s = true := by
    intro k hk
    have h1 := List.all_eq_true.mp (narA p hp) k (List.mem_range.mpr hk)
    exact ixC_ok 12 636 (p.1 + k) narrow_1 _ hn (of_decide_eq_true h1)
  have hs := List.all_eq_true.mp srA p hp
  rw [Bool.and_eq_true] at hs
  have h31 : p.2.2.2.2.2.1 < 2 ^ 31 := of_decide_eq_true hs.2
  obtain ⟨adK, adV, h1, h2⟩ := vk_Sof (args := args) (s := s) (N := 1) (tm := fun _ => tmA p) (len := [p.2.2.2.2.2.1]) (byt := [p.2.2.2.2.2.2.1]) (A := A)
    (fun i hi => by obtain rfl : i = 0 := by omega
                    exact h31) (fun i hi => hk 0 (by omega)) (fun i hi => hk 1 (by omega)) (fun i hi => hk 2 (by omega))
    (fun i hi => by obtain rfl : i = 0 := by omega
                    exact hk 3 (by omega)) (fun i hi j hj => by
                    obtain rfl : i = 0 := by omega
                    exact hk (j + 4) (by have : j < p.2.2.2.2.2.1 := hj
                                         omega)) (fun i j hi hj hne => absurd (by omega) hne) hA
  exact ⟨(adK 0, adV 0), vk_R.of (hts _ (List.mem_of_getElem? (of_decide_eq_true hs.1))) (h2 0 (by decide)), vk_one h1⟩
theorem numA : ∀ p ∈ strA, p.2.1 < 1000 := by decide +kernel
/-- the statics and the strings, at the start, wherever the strings' numbers lie -/
theorem STs_start {args : Array Value} {s : State} {A : Nat → Prop} (hn : narrow_1.before args s = true) (hts : ∀ w ∈ lw_tbl, w.before args s = true) (hA : ∀ a : Nat, a < s.heap.size → ¬ A a) :
    ∃ a : Nat → Nat, ∀ E : En, (∀ n, 1000 ≤ n → E.1 n = a n) → STs E A s s.heap := by
  obtain ⟨f, hf⟩ := str_start hn hts hA
  have hz : ∃ t : Nat, ZqE "jdk/internal/util/Preconditions" "SIOOBE_FORMATTER" "Ljava/util/function/BiFunction;" t A s s.heap := by
    rcases va_Zqof (hts _ (List.mem_of_getElem? (i := 914) (by decide +kernel))) (hts _ (List.mem_of_getElem? (i := 124) (by decide +kernel))) (ixC_ok 12 636 _ narrow_1 _ hn st_sf) hA with h | ⟨t, h⟩
    · exact ⟨0, Or.inl h⟩
    · exact ⟨t, Or.inr h⟩
  obtain ⟨fm, hfm⟩ := hz
  refine ⟨fun n => if n < 2000 then (f (n - 1000)).1 else if n < 3000 then (f (n - 2000)).2 else fm, fun E hE => ?_⟩
  have hE : ∀ n, 1000 ≤ n → E.1 n = if n < 2000 then (f (n - 1000)).1 else if n < 3000 then (f (n - 2000)).2 else fm := hE
  have eK : ∀ n, n < 1000 → E.1 (1000 + n) = (f n).1 := fun n hn => by rw [hE _ (by omega), if_pos (by omega), show 1000 + n - 1000 = n by omega]
  have eV : ∀ n, n < 1000 → E.1 (2000 + n) = (f n).2 := fun n hn => by rw [hE _ (by omega), if_neg (by omega), if_pos (by omega), show 2000 + n - 2000 = n by omega]
  have eF : E.1 3000 = fm := by rw [hE _ (by omega), if_neg (by decide), if_neg (by decide)]
  refine ⟨vx_Zqof (hts _ (List.mem_of_getElem? (i := 812) (by decide +kernel))) (hts _ (List.mem_of_getElem? (i := 117) (by decide +kernel))) (ixC_ok 12 636 _ narrow_1 _ hn st_us) hA, vx_Zqof (hts _ (List.mem_of_getElem? (i := 814) (by decide +kernel))) (hts _ (List.mem_of_getElem? (i := 117) (by decide +kernel))) (ixC_ok 12 636 _ narrow_1 _ hn st_ss) hA, ⟨fun q hq => ?_, va_Zof (hts _ (List.mem_of_getElem? (i := 898) (by decide +kernel))) (hts _ (List.mem_of_getElem? (i := 122) (by decide +kernel))) (va_eqi (ixC_ok 12 636 _ narrow_1 _ hn st_cs)) hA, by rw [eF]; exact hfm⟩, fun q hq => ?_, fun q hq => ?_, fun q hq => ?_, fun q hq => ?_⟩
  · obtain ⟨p, hp, e1, e2, e3⟩ := subC q hq
    have h := (hf p hp).2
    have hl := numA p hp
    rw [e1] at h hl
    rw [e2, e3] at h
    rw [eK _ hl, eV _ hl]
    exact h
  · obtain ⟨p, hp, e1, e2, e3, e4⟩ := subL q hq
    have h := (hf p hp).1
    have hl := numA p hp
    rw [e4] at h hl
    rw [e1, e2, e3] at h
    rw [eK _ hl]
    exact h
  · exact va_Nw.of rfl (hts _ (zipA (w := fun q => Cond.methodLinkNest q.1 q.2 yX11_isIn "TownTune") nestL [569, 1321] rfl (by decide +kernel) q hq))
  · exact va_Nw.of rfl (hts _ (zipA (w := fun q => Cond.castable q.1 q.2) castL [787, 1085, 2050, 2051, 2052, 2053, 2054, 2055, 2056, 2057, 2058, 2059, 2060, 2061, 2062, 2063, 2064, 2065, 2066] rfl (by decide +kernel) q hq))
  · exact va_Nw.of rfl (hts _ (zipA (w := fun q => Cond.declares q) declL [788, 789, 790, 791, 792, 793] rfl (by decide +kernel) q hq))
theorem CSt_start {args : Array Value} {s : State} {A : Nat → Prop} {E : En} (hts : ∀ w ∈ lw_tbl, w.before args s = true) (h : STs E A s s.heap) : CSt E A s s.heap :=
  ⟨h, fun q hq => va_Nw.of rfl (hts _ (zipA (w := fun q => Cond.methodLinkNest q.1 q.2.1 q.2.2 "TownTune") nestC [151, 174, 145, 249, 327, 434, 436, 438, 139, 319, 322, 398, 412, 429, 462, 475] rfl (by decide +kernel) q hq)), va_AO.of (hts _ (List.mem_of_getElem? (i := 1371) (by decide +kernel)))⟩
theorem Nc_start {args : Array Value} {s : State} (hn : narrow_1.before args s = true) : va_Nc iaN nsN s := va_Nc.of (ixC_ok 12 636 _ narrow_1 _ hn st_nc)
