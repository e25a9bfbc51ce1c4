theorem c_X7_readOther {E : En} {d : Nat} {Q : QT} {X : XT} {g : G2} {f : Nat → Nat} {n u : Nat} {s : TxS} (hu : is_town u) (hC : RCl g f n u s) (hO : okLs f n s) (hq : LQ Q f n u g (lnO f n s)) : M E md_X7_readOther (d + 7) [.ref 1] g Q X := by
  refine M.of _ rfl rfl (Nat.le_of_ble_eq_true rfl) ?_
  unfold lnO at hq
  have h1 := hC.2.2.1.1
  have h8 := hO.2.1
  have h6 := hO.2.2.1
  have h24 := hO.2.2.2.1
  have hn6 := hC.1.2.1
  have hk := hO.1.vd.1
  have hu5 : u = 5 ∨ u = 18 := hu
  have key : ∀ (F : Nat) (s : TxS) (h : G2), RCl h f n u s → isTk f n s.t → s.np ≤ 8 → s.no ≤ 24 → s.no + F = 25 → FLn u g h → LQ Q f n u g (otL f n F s) → B E md_X7_readOther (d + 7) Q X 27 [(0, .ref 1), (1, .int (nI s.no))] [] h 0 := by
    clear hq hC hO h1 h8 h6 h24 hk
    clear s
    intro F
    induction F with
    | zero => intro s h hC hO h8 h24 hF; omega
    | succ F ih =>
      intro s h hC hO h8 h24 hF L hq
      have h1 := hC.2.2.1.1
      obtain ⟨hk, hv, hd⟩ := hO.vd
      simp only [otL] at hq
      have K111 : ¬ (s.no = 0 ∨ s.t.k = 2) → B E md_X7_readOther (d + 7) Q X 111 [(0, .ref 1), (1, .int (nI s.no))] [] h 0 := by
        intro c0
        refine b_iconst (v := 1) dX7_readOther_111 (by decide +kernel) ?_
        refine b_zret (Or.inr rfl) rfl (by decide) dX7_readOther_112 ?_
        rw [if_neg c0] at hq
        exact hq.1 _ rfl L hC
      have K48 : (s.no = 0 ∨ s.t.k = 2) → B E md_X7_readOther (d + 7) Q X 48 [(0, .ref 1), (1, .int (nI s.no))] [] h 0 := by
        intro c0
        rw [if_pos c0] at hq
        refine b_aload_n dX7_readOther_48 rfl rfl ?_
        refine b_iconst (v := 0) dX7_readOther_49 (by decide +kernel) ?_
        refine b_bipush (v := 12) dX7_readOther_50 (by decide +kernel) ?_
        refine b_callV (As := [_, _]) (st := []) dX7_readOther_52 lk_X7_106 lm_X7_isNumber lv_X7_isNumber rfl (by decide) rfl rfl rfl (Nat.le_of_ble_eq_true rfl) (Nat.le_refl _) (by decide) ?_
        refine c_X7_isNumber (lo := 0) (hi := 12) hC.2.1 hk (by omega) hv (by decide) (by decide) (fun y1 => ?_) (fun z1 x1 y1 => ?_)
        · rw [if_neg (Decidable.not_not.mpr y1)] at hq
          obtain ⟨q1, -, -, m1⟩ := nuC_0 y1
          refine b_if_ne (tgt := 60) dX7_readOther_55 (by decide) (fun h55 => ?_) (fun h55 => ?_)
          · refine b_iload_n dX7_readOther_60 rfl rfl ?_
            refine b_bipush (v := 24) dX7_readOther_61 (by decide +kernel) ?_
            refine b_icmp_ne (tgt := 72) dX7_readOther_63 (by decide) (fun h63 => ?_) (fun h63 => ?_)
            · have e63 : s.no ≠ 24 := fun q => h63 (congrArg nI q)
              rw [if_neg e63] at hq
              refine b_aload_n dX7_readOther_72 rfl rfl ?_
              refine b_getD lf_X7_12 rfl h1 (town_31 hu) dX7_readOther_73 ?_
              refine b_getR (b := (u + 9)) lf_X7_139 (town_c hu) (town_r8 hu) dX7_readOther_76 ?_
              refine b_iload_n dX7_readOther_79 rfl rfl ?_
              refine b_aload_n dX7_readOther_80 rfl rfl ?_
              refine b_getR (b := 3) lf_X7_21 rfl rfl dX7_readOther_81 ?_
              refine b_getI lf_X7_100 rfl dX7_readOther_84 ?_
              refine b_topE (y := nI s.t.v) ((hC.2.1.2.2.2 q1).1) ?_
              refine b_istN (j := s.no) dX7_readOther_87 (rfl) (by rw [(town_n9 hu)]; omega) ?_
              refine b_aload_n dX7_readOther_88 rfl rfl ?_
              refine b_getD lf_X7_12 rfl ((up2_a _ _ _ _ (by omega) _).trans hC.2.2.1.1) (town_31 hu) dX7_readOther_89 ?_
              refine b_iload_n dX7_readOther_92 rfl rfl ?_
              refine b_iconst (v := 1) dX7_readOther_93 (by decide +kernel) ?_
              refine b_iadd dX7_readOther_94 ?_
              refine b_topE (nI_add s.no 1) ?_
              refine b_putI lf_X7_142 lp_10_9 (town_c hu) dX7_readOther_95 ?_
              refine b_aload_n dX7_readOther_98 rfl rfl ?_
              refine b_getR (b := 3) lf_X7_21 rfl rfl dX7_readOther_99 ?_
              refine b_callV (As := []) (st := []) dX7_readOther_102 lk_X7_94 lm_X9_next lv_X9_next rfl (by decide) rfl rfl rfl (Nat.le_of_ble_eq_true rfl) (Nat.le_refl _) (by decide) ?_
              have C4 := hC.oth (v := s.t.v) hu
              refine c_X9_next C4.1 C4.2.1.1 hO.ok.1 (fun h5 F5 T5 => ?_)
              have C5 := RCl.tk hu C4 F5 T5
              refine b_incN (j := s.no) (lv' := [(0, _), (1, _)]) dX7_readOther_105 rfl rfl (by decide) rfl rfl ?_
              refine b_goto (tgt := 27) dX7_readOther_108 (by decide) ?_
              exact ih (_, s.np, s.nf, s.no + 1, s.dk, s.dt, s.ds, s.c, uN s.H 4 s.no s.t.v) _ C5 hO.nx h8 (by show s.no + 1 ≤ 24; omega) (by show s.no + 1 + F = 25; omega) ((L.tr ((FLn.upu hu (by omega) (by omega)).tr (FLn.upu hu (Nat.le_refl _) (by omega)))).tr (FLn.tk F5)) hq
            · have e63 : s.no = 24 := nI_inj (a := s.no) (b := 24) (by omega) (by omega) h63
              rw [if_pos e63] at hq
              refine b_aload_n dX7_readOther_66 rfl rfl ?_
              refine b_iconst (v := 2) dX7_readOther_67 (by decide +kernel) ?_
              refine b_callV (As := [_]) (st := []) dX7_readOther_68 lk_X7_91 lm_X7_refuse lv_X7_refuse rfl (by decide) rfl rfl rfl (Nat.le_of_ble_eq_true rfl) (Nat.le_refl _) (by decide) ?_
              refine c_X7_refuse (k := 2) hC.2.1.2.2.1 ?_
              refine b_zret (Or.inl rfl) rfl (by decide) dX7_readOther_71 ?_
              exact hq.2 _ (Nat.succ_ne_zero _) (L.tr FLn.ref) (FLt.ref hu hC.2.2.2.1.1 h8)
          · exact absurd h55 (by decide)
        · rw [y1, if_pos x1] at hq
          refine b_if_ne (tgt := 60) dX7_readOther_55 (by decide) (fun h55 => ?_) (fun h55 => ?_)
          · exact absurd rfl h55
          · refine b_iconst (v := 0) dX7_readOther_58 (by decide +kernel) ?_
            refine b_zret (Or.inl rfl) rfl (by decide) dX7_readOther_59 ?_
            exact hq.2 _ x1 (L.tr FLn.ref) (FLt.ref hu hC.2.2.2.1.1 h8)
      refine b_iload_n dX7_readOther_27 rfl rfl ?_
      refine b_bipush (v := 24) dX7_readOther_28 (by decide +kernel) ?_
      refine b_icmp_gt (tgt := 111) dX7_readOther_30 (by decide) (fun h30 => ?_) (fun h30 => ?_)
      · have e30 : 24 < s.no := nn_lt (a := 24) (b := s.no) (by omega) (by omega) h30
        exact absurd e30 (by omega)
      · have e30 : s.no ≤ 24 := nn_nlt (a := 24) (b := s.no) (by omega) (by omega) h30
        refine b_iload_n dX7_readOther_33 rfl rfl ?_
        refine b_if_eq (tgt := 48) dX7_readOther_34 (by decide) (fun h34 => ?_) (fun h34 => ?_)
        · have e34 : s.no = 0 := nI_inj (b := 0) (by omega) (by decide) h34
          exact K48 (by omega)
        · have e34 : s.no ≠ 0 := fun q => h34 (by rw [q]; rfl)
          refine b_aload_n dX7_readOther_37 rfl rfl ?_
          refine b_getR (b := 3) lf_X7_21 rfl rfl dX7_readOther_38 ?_
          refine b_getI lf_X7_59 rfl dX7_readOther_41 ?_
          refine b_topE (hC.2.1.2.1) ?_
          refine b_iconst (v := 2) dX7_readOther_44 (by decide +kernel) ?_
          refine b_icmp_ne (tgt := 111) dX7_readOther_45 (by decide) (fun h45 => ?_) (fun h45 => ?_)
          · have e45 : s.t.k ≠ 2 := fun q => h45 (congrArg nI q)
            exact K111 (by omega)
          · have e45 : s.t.k = 2 := nI_inj (a := s.t.k) (b := 2) (by omega) (by omega) h45
            exact K48 (by omega)
  refine b_aload_n dX7_readOther_0 rfl rfl ?_
  refine b_getZ lf_X7_36 rfl dX7_readOther_1 ?_
  refine b_topE (hC.2.2.1.2.2.2.2.1) ?_
  refine b_if_eq (tgt := 13) dX7_readOther_4 (by decide) (fun h4 => ?_) (fun h4 => ?_)
  · have e4 := b2i_0 h4
    rw [if_neg (by rw [e4]; exact Bool.false_ne_true)] at hq
    refine b_aload_n dX7_readOther_13 rfl rfl ?_
    refine b_iconst (v := 1) dX7_readOther_14 (by decide +kernel) ?_
    refine b_putZ (Or.inr rfl) lf_X7_36 lp_7_5 rfl dX7_readOther_15 ?_
    refine b_aload_n dX7_readOther_18 rfl rfl ?_
    refine b_getR (b := 3) lf_X7_21 rfl rfl dX7_readOther_19 ?_
    refine b_callV (As := []) (st := []) dX7_readOther_22 lk_X7_94 lm_X9_next lv_X9_next rfl (by decide) rfl rfl rfl (Nat.le_of_ble_eq_true rfl) (Nat.le_refl _) (by decide) ?_
    have C0 : RCl (up2 g 1 5 1) f n u (s.t, s.np, s.nf, s.no, s.dk, true, s.ds, s.c, s.H) := RCl.fl hu hC (by decide) s.dk true s.ds (by rw [up2_k _ _ _ _ (by decide)]; exact hC.2.2.1.2.2.2.1) (up2_s _ _ _ _) (by rw [up2_k _ _ _ _ (by decide)]; exact hC.2.2.1.2.2.2.2.2)
    have L0 : FLn u g (up2 g 1 5 1) := FLn.up1 (by decide)
    refine c_X9_next C0.1 C0.2.1.1 hO.1.ok.1 (fun h5 F5 T5 => ?_)
    have C5 := RCl.tk hu C0 F5 T5
    refine b_iconst (v := 0) dX7_readOther_25 (by decide +kernel) ?_
    refine b_istore_n (lv' := [(0, _), (1, _)]) dX7_readOther_26 rfl (by decide) rfl rfl ?_
    have n0 : s.no = 0 := hO.2.2.2.2.2.2.2.2.2.2.2.2.2 e4
    have z := key 25 _ _ C5 hO.1.nx h8 (by show s.no ≤ 24; omega) (by show s.no + 25 = 25; omega) (L0.tr (FLn.tk F5)) hq
    rw [show TxS.no (tkL _ _) = 0 from n0] at z
    exact z
  · have e4 := b2i_1 h4
    rw [if_pos e4] at hq
    refine b_aload_n dX7_readOther_7 rfl rfl ?_
    refine b_iconst (v := 5) dX7_readOther_8 (by decide +kernel) ?_
    refine b_callV (As := [_]) (st := []) dX7_readOther_9 lk_X7_91 lm_X7_refuse lv_X7_refuse rfl (by decide) rfl rfl rfl (Nat.le_of_ble_eq_true rfl) (Nat.le_refl _) (by decide) ?_
    refine c_X7_refuse (k := 5) hC.2.1.2.2.1 ?_
    refine b_zret (Or.inl rfl) rfl (by decide) dX7_readOther_12 ?_
    exact hq.2 _ (Nat.succ_ne_zero _) FLn.ref (FLt.ref hu hC.2.2.2.1.1 h8)
theorem sing_eq {f : Nat → Nat} {n : Nat} {s : TxS} (hn : n ≤ 600) (hO : isTk f n s.t) (hk : s.t.k ≠ 0) (hd : s.ds = false) : (∀ p, runC f n 600 ⟨true, nxt f n s.t.af, 0, [], []⟩ = (0, p) → (lnS f n s).b = 0 ∧ p.t.k = 59 ∧ (lnS f n s).s = (p.t, s.np, s.nf, s.no, s.dk, s.dt, true, (clsTo 0 p.op p.c).2, s.H)) ∧ (∀ k p, k ≠ 0 → runC f n 600 ⟨true, nxt f n s.t.af, 0, [], []⟩ = (k, p) → (enL f n (lnS f n s)).b = k ∧ (enL f n (lnS f n s)).p = p.t.pl) := by
  have hl := hO.lt hk
  obtain ⟨r1, r2⟩ := rule_eq (f := f) hn hO.nx.ok (by omega)
  have eS : lnS f n s = if (rE f n 6 (nxt f n s.t.af, 0, 0, [])).bad ≠ 0 then ((rE f n 6 (nxt f n s.t.af, 0, 0, [])).bad, (rE f n 6 (nxt f n s.t.af, 0, 0, [])).bp, s) else (0, 0, (rE f n 6 (nxt f n s.t.af, 0, 0, [])).t, s.np, s.nf, s.no, s.dk, s.dt, true, (rE f n 6 (nxt f n s.t.af, 0, 0, [])).c, s.H) := by
    unfold lnS; rw [if_neg (by rw [hd]; exact Bool.false_ne_true)]
  generalize rE f n 6 (nxt f n s.t.af, 0, 0, []) = r at r1 r2 eS
  by_cases hb : r.bad = 0
  · rw [if_neg (Decidable.not_not.mpr hb)] at eS
    obtain ⟨-, -, a3, a4⟩ := r2 hb
    rw [eS]
    by_cases h59 : r.t.k = 59
    · obtain ⟨o, c, e1, e2⟩ := a3 h59
      refine ⟨fun p hp => ?_, fun k p hk0 hp => ?_⟩
      · rw [e1] at hp
        cases hp
        refine ⟨rfl, h59, ?_⟩
        show _ = (r.t, s.np, s.nf, s.no, s.dk, s.dt, true, (clsTo 0 o c).2, s.H)
        rw [e2]
      · rw [e1] at hp; cases hp; exact absurd rfl hk0
    · obtain ⟨x, e1, e2⟩ := a4 h59
      refine ⟨fun p hp => (by rw [e1] at hp; cases hp), fun k p hk0 hp => ?_⟩
      rw [e1] at hp; cases hp
      unfold enL
      rw [if_neg (fun q => q rfl), if_neg h59]
      exact ⟨rfl, e2.symm⟩
  · rw [if_pos hb] at eS
    obtain ⟨x, e1, e2⟩ := r1 hb
    rw [eS]
    refine ⟨fun p hp => absurd (congrArg Prod.fst (e1.symm.trans hp)) hb, fun k p hk0 hp => ?_⟩
    rw [e1] at hp; cases hp
    unfold enL
    rw [if_pos hb]
    exact ⟨rfl, e2.symm⟩
theorem RCs.tk {g h : G2} {f : Nat → Nat} {n u : Nat} {s : PS} {t : Tk} {w : Bool} (hu : is_town u) (hS : RCs g f n u s) (F : FTk g h) (T : Rtk h t) : RCs h f n u ⟨w, t, s.ne, s.op, s.c⟩ := by
  unfold is_town at hu
  have e1 := F.1 1 (by decide)
  exact ⟨hS.1.cg F, T, hS.2.2.1.cg (by rw [e1]) (F.1 2 (by decide)), by rw [e1]; exact hS.2.2.2.1, hS.2.2.2.2.1.cg (F.1 _ (by omega)) (F.1 _ (by omega)), by rw [e1]; exact hS.2.2.2.2.2⟩
/-- behind the automaton -/
theorem RCl.sg {g h : G2} {f : Nat → Nat} {n u : Nat} {s : TxS} {t : Tk} {c : List Int32} (hu : is_town u) (hC : RCl g f n u s) (F : FSg u g h) (h2 : h 1 2 = 0) (h3 : h 1 3 = -1) (T : Rtk h t) (hP : RPc h u c) : RCl h f n u (t, s.np, s.nf, s.no, s.dk, s.dt, s.ds, c, s.H) := by
  unfold is_town at hu
  obtain ⟨c1, c2, c3, c4, c5, c6, c7, c8⟩ := hC
  have e : ∀ y, 4 ≤ y → y ≠ u + 10 → y ≠ u + 11 → h y = g y := fun y a b q => F.1 y (by omega) (by omega) (by omega) b q
  refine ⟨c1.c3 F.2.2 (e 4 (by omega) (by omega) (by omega)), T, ⟨?_, h2, h3, ?_, ?_, ?_⟩, ?_, ?_, ?_, ?_, hP⟩
  · rw [F.2.1 0 (by decide)]; exact c3.1
  · rw [F.2.1 4 (by decide)]; exact c3.2.2.2.1
  · rw [F.2.1 5 (by decide)]; exact c3.2.2.2.2.1
  · rw [F.2.1 6 (by decide)]; exact c3.2.2.2.2.2
  · unfold RPp; rw [e u (by omega) (by omega) (by omega), e (u + 1) (by omega) (by omega) (by omega), e (u + 2) (by omega) (by omega) (by omega), e (u + 3) (by omega) (by omega) (by omega), e (u + 4) (by omega) (by omega) (by omega)]; exact c4
  · rw [e u (by omega) (by omega) (by omega)]; exact c5
  · unfold RFd; rw [e (u + 6) (by omega) (by omega) (by omega), e (u + 7) (by omega) (by omega) (by omega), e (u + 8) (by omega) (by omega) (by omega)]; exact c6
  · unfold ROt; rw [e u (by omega) (by omega) (by omega), e (u + 9) (by omega) (by omega) (by omega)]; exact c7
theorem c_X7_readSings {E : En} {d : Nat} {Q : QT} {X : XT} {g : G2} {f : Nat → Nat} {n u : Nat} {s : TxS} (hu : is_town u) (hC : RCl g f n u s) (hO : okLs f n s) (hk0 : s.t.k ≠ 0) (hq1 : ∀ h, (lnS f n s).b = 0 → (lnS f n s).s.t.k = 59 → FLn u g h → RCl h f n u (lnS f n s).s → Q (some (.int 1)) h) (hq2 : ∀ h, (enL f n (lnS f n s)).b ≠ 0 → FLn u g h → FLt h u (enL f n (lnS f n s)).b (enL f n (lnS f n s)).p → Q (some (.int 0)) h) : M E md_X7_readSings (d + 7) [.ref 1] g Q X := by
  refine M.of _ rfl rfl (Nat.le_of_ble_eq_true rfl) ?_
  have h11 := hC.2.2.1.1
  have h8 := hO.2.1
  have h6 := hO.2.2.1
  have h24 := hO.2.2.2.1
  have hn6 := hC.1.2.1
  have hk := hO.1.vd.1
  have hu5 : u = 5 ∨ u = 18 := hu
  refine b_aload_n dX7_readSings_0 rfl rfl ?_
  refine b_getZ lf_X7_39 rfl dX7_readSings_1 ?_
  refine b_topE (hC.2.2.1.2.2.2.2.2) ?_
  refine b_if_eq (tgt := 13) dX7_readSings_4 (by decide) (fun h4 => ?_) (fun h4 => ?_)
  · have e4 := b2i_0 h4
    refine b_aload_n dX7_readSings_13 rfl rfl ?_
    refine b_iconst (v := 1) dX7_readSings_14 (by decide +kernel) ?_
    refine b_putZ (Or.inr rfl) lf_X7_39 lp_7_6 rfl dX7_readSings_15 ?_
    refine b_aload_n dX7_readSings_18 rfl rfl ?_
    refine b_iconst (v := 0) dX7_readSings_19 (by decide +kernel) ?_
    refine b_putI lf_X7_46 lp_7_8 rfl dX7_readSings_20 ?_
    refine b_aload_n dX7_readSings_23 rfl rfl ?_
    refine b_iconst (v := 0) dX7_readSings_24 (by decide +kernel) ?_
    refine b_putI lf_X7_49 lp_7_9 rfl dX7_readSings_25 ?_
    refine b_iconst (v := 1) dX7_readSings_28 (by decide +kernel) ?_
    refine b_istore_n (lv' := [(0, _), (1, _)]) dX7_readSings_29 rfl (by decide) rfl rfl ?_
    refine b_aload_n dX7_readSings_30 rfl rfl ?_
    refine b_getR (b := 3) lf_X7_21 rfl rfl dX7_readSings_31 ?_
    obtain ⟨hs1, hs2⟩ := sing_eq hn6 hO.1 hk0 e4
    have C0 : RCl (up2 g 1 6 1) f n u (s.t, s.np, s.nf, s.no, s.dk, s.dt, true, s.c, s.H) := RCl.fl hu hC (by decide) s.dk s.dt true (by rw [up2_k _ _ _ _ (by decide)]; exact hC.2.2.1.2.2.2.1) (by rw [up2_k _ _ _ _ (by decide)]; exact hC.2.2.1.2.2.2.2.1) (up2_s _ _ _ _)
    have F0 : FSg u (up2 g 1 6 1) (up2 (up2 (up2 g 1 6 1) 1 8 0) 1 9 0) := (FSg.up1 (by decide)).tr (FSg.up1 (by decide))
    have C0b : RCl (up2 (up2 (up2 g 1 6 1) 1 8 0) 1 9 0) f n u (s.t, s.np, s.nf, s.no, s.dk, s.dt, true, s.c, s.H) := RCl.sg hu C0 F0 (by rw [up2_k _ _ _ _ (by decide), up2_k _ _ _ _ (by decide)]; exact C0.2.2.1.2.1) (by rw [up2_k _ _ _ _ (by decide), up2_k _ _ _ _ (by decide)]; exact C0.2.2.1.2.2.1) (C0.2.1.c3 (by rw [up2_f _ _ _ _ (by decide), up2_f _ _ _ _ (by decide)])) ((C0.2.2.2.2.2.2.2.up hu (Or.inl rfl)).up hu (Or.inl rfl))
    have L0 : FLn u g (up2 (up2 (up2 g 1 6 1) 1 8 0) 1 9 0) := (FLn.up1 (by decide)).tr (FLn.fq F0)
    have o8 : up2 (up2 (up2 g 1 6 1) 1 8 0) 1 9 0 1 8 = 0 := by rw [up2_k _ _ _ _ (by decide)]; exact up2_s _ _ _ _
    have o9 : up2 (up2 (up2 g 1 6 1) 1 8 0) 1 9 0 1 9 = 0 := up2_s _ _ _ _
    generalize up2 (up2 (up2 g 1 6 1) 1 8 0) 1 9 0 = g1 at C0b L0 o8 o9 ⊢
    refine b_callV (As := []) (st := []) dX7_readSings_34 lk_X7_94 lm_X9_next lv_X9_next rfl (by decide) rfl rfl rfl (Nat.le_of_ble_eq_true rfl) (Nat.le_refl _) (by decide) ?_
    refine c_X9_next C0b.1 C0b.2.1.1 hO.1.ok.1 (fun h1 F1 T1 => ?_)
    have i1 := hO.1.nx
    generalize nxt f n s.t.af = t1 at T1 i1 hs1 hs2
    have C1 := RCl.tk hu C0b F1 T1
    have L1 : FLn u g h1 := L0.tr (FLn.tk F1)
    have hc0 : s.c = [] := hO.2.2.2.2.2.2.2.2.2.1 e4
    have S1 : RCs h1 f n u ⟨true, t1, 0, [], []⟩ := ⟨C1.1, T1, ⟨by rw [F1.1 1 (by decide)]; exact o8, trivial, Nat.zero_le _, fun x hx => by cases hx⟩, by rw [F1.1 1 (by decide)]; exact o9, by have := C1.2.2.2.2.2.2.2; rw [show TxS.c (tkL _ _) = [] from hc0] at this; exact this, C1.2.2.1.1, C1.2.2.1.2.1, C1.2.2.1.2.2.1⟩
    refine b_iconst (v := 0) dX7_readSings_37 (by decide +kernel) ?_
    refine b_istore_n (lv' := [(0, _), (1, _), (2, _)]) dX7_readSings_38 rfl (by decide) rfl rfl ?_
    have K136 : ∀ (p : PS) (h : G2) (i : Nat), RCs h f n u p → InvP f n p → FSg u h1 h → runC f n 600 ⟨true, t1, 0, [], []⟩ = (0, p) → B E md_X7_readSings (d + 7) Q X 136 [(0, .ref 1), (1, .int (b2i p.w)), (2, .int (nI i))] [] h 0 := by
      intro p h i hS hI F e
      refine b_aload_n dX7_readSings_136 rfl rfl ?_
      refine b_iconst (v := 0) dX7_readSings_137 (by decide +kernel) ?_
      refine b_callV (As := [_]) (st := []) dX7_readSings_138 lk_X7_154 lm_X7_closeDownTo lv_X7_closeDownTo rfl (by decide) rfl rfl rfl (Nat.le_of_ble_eq_true rfl) (Nat.le_refl _) (by decide) ?_
      refine c_X7_closeDownTo (u := u) (b := 0) hu (by decide) hS.2.2.2.2.2.1 hS.2.2.1 hS.2.2.2.2.1 (by have := hI.len; omega) (fun h2 F5 f5 hR5 hP5 => ?_)
      refine b_iconst (v := 1) dX7_readSings_141 (by decide +kernel) ?_
      refine b_zret (Or.inr rfl) rfl (by decide) dX7_readSings_142 ?_
      obtain ⟨s1, s2, s3⟩ := hs1 p e
      refine hq1 h2 s1 (by rw [s3]; exact s2) (L1.tr ((FLn.fq F).tr (FLn.fq F5))) ?_
      rw [s3]
      exact RCl.sg hu C1 (F.tr F5) (by rw [f5.2 2 (by decide)]; exact hS.2.2.2.2.2.2.1) (by rw [f5.2 3 (by decide)]; exact hS.2.2.2.2.2.2.2) (hS.2.1.c3 f5.1) hP5
    have key : ∀ (F : Nat) (i : Nat) (p : PS) (h : G2), i + F = 600 → RCs h f n u p → InvP f n p → FSg u h1 h → runC f n F p = runC f n 600 ⟨true, t1, 0, [], []⟩ → B E md_X7_readSings (d + 7) Q X 39 [(0, .ref 1), (1, .int (b2i p.w)), (2, .int (nI i))] [] h 0 := by
      intro F
      induction F with
      | zero =>
        intro i p h hF hS hI F e
        refine b_iload_n dX7_readSings_39 rfl rfl ?_
        refine b_sipush (v := 600) dX7_readSings_40 (by decide +kernel) ?_
        refine b_icmp_ge (tgt := 136) dX7_readSings_43 (by decide) (fun h43 => ?_) (fun h43 => ?_)
        · have e43 : 600 ≤ i := nn_le (a := 600) (b := i) (by omega) (by omega) h43
          exact K136 p h i hS hI F e.symm
        · have e43 : i < 600 := nn_nle (a := 600) (b := i) (by omega) (by omega) h43
          exact absurd e43 (by omega)
      | succ m ih =>
        intro i p h hF hS hI F e
        obtain ⟨hk, hv, hd⟩ := hI.2.2.2.2.2.1.vd
        have hne9 := hI.2.2.1
        have K57 : ¬ endP p → B E md_X7_readSings (d + 7) Q X 57 [(0, .ref 1), (1, .int (b2i p.w)), (2, .int (nI i))] [] h 0 := by
          intro hne
          have K88 : ∀ h2, FSg u h h2 → (tkX p).1 = 0 → RCs h2 f n u (tkX p).2 → B E md_X7_readSings (d + 7) Q X 88 [(0, .ref 1), (1, .int (b2i p.w)), (2, .int (nI i)), (3, .int (nI p.t.k))] [] h2 0 := by
            intro h2 F2 z2 R2
            refine b_iload_n dX7_readSings_88 rfl rfl ?_
            refine b_iconst (v := 2) dX7_readSings_89 (by decide +kernel) ?_
            refine b_icmp_eq (tgt := 105) dX7_readSings_90 (by decide) (fun h90 => ?_) (fun h90 => ?_)
            · have e90 : p.t.k = 2 := nI_inj (a := p.t.k) (b := 2) (by omega) (by omega) h90
              refine b_iconst (v := 1) dX7_readSings_105 (by decide +kernel) ?_
              refine b_goto (tgt := 110) dX7_readSings_106 (by decide) ?_
              refine b_istore (lv' := [(0, _), (1, _), (2, _), (3, _), (4, _)]) dX7_readSings_110 (by decide) rfl rfl ?_
              refine b_iload dX7_readSings_112 rfl ?_
              refine b_if_ne (tgt := 121) dX7_readSings_114 (by decide) (fun h114 => ?_) (fun h114 => ?_)
              · refine b_iconst (v := 0) dX7_readSings_121 (by decide +kernel) ?_
                refine b_istore_n (lv' := [(0, _), (1, _), (2, _), (3, _), (4, _)]) dX7_readSings_122 rfl (by decide) rfl rfl ?_
                refine b_aload_n dX7_readSings_123 rfl rfl ?_
                refine b_getR (b := 3) lf_X7_21 rfl rfl dX7_readSings_124 ?_
                refine b_callV (As := []) (st := []) dX7_readSings_127 lk_X7_94 lm_X9_next lv_X9_next rfl (by decide) rfl rfl rfl (Nat.le_of_ble_eq_true rfl) (Nat.le_refl _) (by decide) ?_
                refine c_X9_next R2.1 (by have := R2.2.1.1; rw [tkX_t] at this; exact this) hI.2.2.2.2.2.1.ok.1 (fun h3 F3 T3 => ?_)
                refine b_incN (j := i) (lv' := [(0, _), (1, _), (2, _), (3, _), (4, _)]) dX7_readSings_130 rfl rfl (by decide) rfl rfl ?_
                refine b_goto (tgt := 39) dX7_readSings_133 (by decide) ?_
                have eP : isPt p.t.k = true := by
                  unfold isPt
                  simp only [Bool.or_eq_true, beq_iff_eq, decide_eq_true_eq]
                  omega
                have hst : stepP f n p = ⟨false, nxt f n p.t.af, (tkX p).2.ne, (tkX p).2.op, (tkX p).2.c⟩ := by unfold stepP; rw [eP]; rfl
                refine b_take 3 ?_
                have y := ih (i + 1) (stepP f n p) h3 (by omega) (by rw [hst]; exact RCs.tk hu R2 F3 T3) (hI.step z2) (F.tr (F2.tr (FSg.tk F3))) (by rw [← e]; simp only [runC]; rw [if_neg hne, if_pos z2])
                rw [hst] at y
                exact y
              · exact absurd h114 (by decide)
            · have e90 : p.t.k ≠ 2 := fun q => h90 (congrArg nI q)
              refine b_iload_n dX7_readSings_93 rfl rfl ?_
              refine b_bipush (v := 110) dX7_readSings_94 (by decide +kernel) ?_
              refine b_icmp_ge (tgt := 105) dX7_readSings_96 (by decide) (fun h96 => ?_) (fun h96 => ?_)
              · have e96 : 110 ≤ p.t.k := nn_le (a := 110) (b := p.t.k) (by omega) (by omega) h96
                refine b_iconst (v := 1) dX7_readSings_105 (by decide +kernel) ?_
                refine b_goto (tgt := 110) dX7_readSings_106 (by decide) ?_
                refine b_istore (lv' := [(0, _), (1, _), (2, _), (3, _), (4, _)]) dX7_readSings_110 (by decide) rfl rfl ?_
                refine b_iload dX7_readSings_112 rfl ?_
                refine b_if_ne (tgt := 121) dX7_readSings_114 (by decide) (fun h114 => ?_) (fun h114 => ?_)
                · refine b_iconst (v := 0) dX7_readSings_121 (by decide +kernel) ?_
                  refine b_istore_n (lv' := [(0, _), (1, _), (2, _), (3, _), (4, _)]) dX7_readSings_122 rfl (by decide) rfl rfl ?_
                  refine b_aload_n dX7_readSings_123 rfl rfl ?_
                  refine b_getR (b := 3) lf_X7_21 rfl rfl dX7_readSings_124 ?_
                  refine b_callV (As := []) (st := []) dX7_readSings_127 lk_X7_94 lm_X9_next lv_X9_next rfl (by decide) rfl rfl rfl (Nat.le_of_ble_eq_true rfl) (Nat.le_refl _) (by decide) ?_
                  refine c_X9_next R2.1 (by have := R2.2.1.1; rw [tkX_t] at this; exact this) hI.2.2.2.2.2.1.ok.1 (fun h3 F3 T3 => ?_)
                  refine b_incN (j := i) (lv' := [(0, _), (1, _), (2, _), (3, _), (4, _)]) dX7_readSings_130 rfl rfl (by decide) rfl rfl ?_
                  refine b_goto (tgt := 39) dX7_readSings_133 (by decide) ?_
                  have eP : isPt p.t.k = true := by
                    unfold isPt
                    simp only [Bool.or_eq_true, beq_iff_eq, decide_eq_true_eq]
                    omega
                  have hst : stepP f n p = ⟨false, nxt f n p.t.af, (tkX p).2.ne, (tkX p).2.op, (tkX p).2.c⟩ := by unfold stepP; rw [eP]; rfl
                  refine b_take 3 ?_
                  have y := ih (i + 1) (stepP f n p) h3 (by omega) (by rw [hst]; exact RCs.tk hu R2 F3 T3) (hI.step z2) (F.tr (F2.tr (FSg.tk F3))) (by rw [← e]; simp only [runC]; rw [if_neg hne, if_pos z2])
                  rw [hst] at y
                  exact y
                · exact absurd h114 (by decide)
              · have e96 : p.t.k < 110 := nn_nle (a := 110) (b := p.t.k) (by omega) (by omega) h96
                refine b_iload_n dX7_readSings_99 rfl rfl ?_
                refine b_bipush (v := 41) dX7_readSings_100 (by decide +kernel) ?_
                refine b_icmp_ne (tgt := 109) dX7_readSings_102 (by decide) (fun h102 => ?_) (fun h102 => ?_)
                · have e102 : p.t.k ≠ 41 := fun q => h102 (congrArg nI q)
                  refine b_iconst (v := 0) dX7_readSings_109 (by decide +kernel) ?_
                  refine b_istore (lv' := [(0, _), (1, _), (2, _), (3, _), (4, _)]) dX7_readSings_110 (by decide) rfl rfl ?_
                  refine b_iload dX7_readSings_112 rfl ?_
                  refine b_if_ne (tgt := 121) dX7_readSings_114 (by decide) (fun h114 => ?_) (fun h114 => ?_)
                  · exact absurd rfl h114
                  · refine b_iconst (v := 1) dX7_readSings_117 (by decide +kernel) ?_
                    refine b_goto (tgt := 122) dX7_readSings_118 (by decide) ?_
                    refine b_istore_n (lv' := [(0, _), (1, _), (2, _), (3, _), (4, _)]) dX7_readSings_122 rfl (by decide) rfl rfl ?_
                    refine b_aload_n dX7_readSings_123 rfl rfl ?_
                    refine b_getR (b := 3) lf_X7_21 rfl rfl dX7_readSings_124 ?_
                    refine b_callV (As := []) (st := []) dX7_readSings_127 lk_X7_94 lm_X9_next lv_X9_next rfl (by decide) rfl rfl rfl (Nat.le_of_ble_eq_true rfl) (Nat.le_refl _) (by decide) ?_
                    refine c_X9_next R2.1 (by have := R2.2.1.1; rw [tkX_t] at this; exact this) hI.2.2.2.2.2.1.ok.1 (fun h3 F3 T3 => ?_)
                    refine b_incN (j := i) (lv' := [(0, _), (1, _), (2, _), (3, _), (4, _)]) dX7_readSings_130 rfl rfl (by decide) rfl rfl ?_
                    refine b_goto (tgt := 39) dX7_readSings_133 (by decide) ?_
                    have eP : isPt p.t.k = false := by
                      unfold isPt
                      simp only [Bool.or_eq_false_iff, beq_eq_false_iff_ne, decide_eq_false_iff_not]
                      omega
                    have hst : stepP f n p = ⟨true, nxt f n p.t.af, (tkX p).2.ne, (tkX p).2.op, (tkX p).2.c⟩ := by unfold stepP; rw [eP]; rfl
                    refine b_take 3 ?_
                    have y := ih (i + 1) (stepP f n p) h3 (by omega) (by rw [hst]; exact RCs.tk hu R2 F3 T3) (hI.step z2) (F.tr (F2.tr (FSg.tk F3))) (by rw [← e]; simp only [runC]; rw [if_neg hne, if_pos z2])
                    rw [hst] at y
                    exact y
                · have e102 : p.t.k = 41 := nI_inj (a := p.t.k) (b := 41) (by omega) (by omega) h102
                  refine b_iconst (v := 1) dX7_readSings_105 (by decide +kernel) ?_
                  refine b_goto (tgt := 110) dX7_readSings_106 (by decide) ?_
                  refine b_istore (lv' := [(0, _), (1, _), (2, _), (3, _), (4, _)]) dX7_readSings_110 (by decide) rfl rfl ?_
                  refine b_iload dX7_readSings_112 rfl ?_
                  refine b_if_ne (tgt := 121) dX7_readSings_114 (by decide) (fun h114 => ?_) (fun h114 => ?_)
                  · refine b_iconst (v := 0) dX7_readSings_121 (by decide +kernel) ?_
                    refine b_istore_n (lv' := [(0, _), (1, _), (2, _), (3, _), (4, _)]) dX7_readSings_122 rfl (by decide) rfl rfl ?_
                    refine b_aload_n dX7_readSings_123 rfl rfl ?_
                    refine b_getR (b := 3) lf_X7_21 rfl rfl dX7_readSings_124 ?_
                    refine b_callV (As := []) (st := []) dX7_readSings_127 lk_X7_94 lm_X9_next lv_X9_next rfl (by decide) rfl rfl rfl (Nat.le_of_ble_eq_true rfl) (Nat.le_refl _) (by decide) ?_
                    refine c_X9_next R2.1 (by have := R2.2.1.1; rw [tkX_t] at this; exact this) hI.2.2.2.2.2.1.ok.1 (fun h3 F3 T3 => ?_)
                    refine b_incN (j := i) (lv' := [(0, _), (1, _), (2, _), (3, _), (4, _)]) dX7_readSings_130 rfl rfl (by decide) rfl rfl ?_
                    refine b_goto (tgt := 39) dX7_readSings_133 (by decide) ?_
                    have eP : isPt p.t.k = true := by
                      unfold isPt
                      simp only [Bool.or_eq_true, beq_iff_eq, decide_eq_true_eq]
                      omega
                    have hst : stepP f n p = ⟨false, nxt f n p.t.af, (tkX p).2.ne, (tkX p).2.op, (tkX p).2.c⟩ := by unfold stepP; rw [eP]; rfl
                    refine b_take 3 ?_
                    have y := ih (i + 1) (stepP f n p) h3 (by omega) (by rw [hst]; exact RCs.tk hu R2 F3 T3) (hI.step z2) (F.tr (F2.tr (FSg.tk F3))) (by rw [← e]; simp only [runC]; rw [if_neg hne, if_pos z2])
                    rw [hst] at y
                    exact y
                  · exact absurd h114 (by decide)
          refine b_aload_n dX7_readSings_57 rfl rfl ?_
          refine b_getR (b := 3) lf_X7_21 rfl rfl dX7_readSings_58 ?_
          refine b_getI lf_X7_59 rfl dX7_readSings_61 ?_
          refine b_topE (hS.2.1.2.1) ?_
          refine b_istore_n (lv' := [(0, _), (1, _), (2, _), (3, _)]) dX7_readSings_64 rfl (by decide) rfl rfl ?_
          refine b_iload_n dX7_readSings_65 rfl rfl ?_
          refine b_if_eq (tgt := 79) dX7_readSings_66 (by decide) (fun h66 => ?_) (fun h66 => ?_)
          · have e66 := b2i_0 h66
            have eX : tkX p = tkO p := if_neg (by rw [e66]; exact Bool.false_ne_true)
            refine b_aload_n dX7_readSings_79 rfl rfl ?_
            refine b_callV (As := []) (st := []) dX7_readSings_80 lk_X7_151 lm_X7_takeOperator lv_X7_takeOperator rfl (by decide) rfl rfl rfl (Nat.le_of_ble_eq_true rfl) (Nat.le_refl _) (by decide) ?_
            refine c_X7_takeOperator hu hS hI e66 (fun h2 F2 z2 R2 => ?_) (fun h2 F2 z2 a2 b2 => ?_)
            all_goals rw [← eX] at *
            · refine b_if_ne (tgt := 88) dX7_readSings_83 (by decide) (fun h83 => ?_) (fun h83 => ?_)
              · exact K88 h2 F2 z2 R2
              · exact absurd h83 (by decide)
            · refine b_if_ne (tgt := 88) dX7_readSings_83 (by decide) (fun h83 => ?_) (fun h83 => ?_)
              · exact absurd rfl h83
              · refine b_iconst (v := 0) dX7_readSings_86 (by decide +kernel) ?_
                refine b_zret (Or.inl rfl) rfl (by decide) dX7_readSings_87 ?_
                have e2 : runC f n 600 ⟨true, t1, 0, [], []⟩ = ((tkX p).1, (tkX p).2) := by
                  rw [← e]; simp only [runC]; rw [if_neg hne, if_neg z2]
                obtain ⟨s1, s2⟩ := hs2 _ _ z2 e2
                rw [tkX_t] at s2
                exact hq2 h2 (by rw [s1]; exact z2) (L1.tr ((FLn.fq F).tr (FLn.fq F2))) ⟨by rw [s1]; exact a2, by rw [s2]; exact b2, s.np, h8, by rw [F2.1 u (by omega) (by omega) (by omega) (by omega) (by omega), F.1 u (by omega) (by omega) (by omega) (by omega) (by omega)]; exact C1.2.2.2.1.1⟩
          · have e66 := b2i_1 h66
            have eX : tkX p = tkP p := if_pos e66
            refine b_aload_n dX7_readSings_69 rfl rfl ?_
            refine b_callV (As := []) (st := []) dX7_readSings_70 lk_X7_148 lm_X7_takePart lv_X7_takePart rfl (by decide) rfl rfl rfl (Nat.le_of_ble_eq_true rfl) (Nat.le_refl _) (by decide) ?_
            refine c_X7_takePart hu hS hI (fun h2 F2 z2 R2 => ?_) (fun h2 F2 z2 a2 b2 => ?_)
            all_goals rw [← eX] at *
            · refine b_if_eq (tgt := 86) dX7_readSings_73 (by decide) (fun h73 => ?_) (fun h73 => ?_)
              · exact absurd h73 (by decide)
              · refine b_goto (tgt := 88) dX7_readSings_76 (by decide) ?_
                exact K88 h2 F2 z2 R2
            · refine b_if_eq (tgt := 86) dX7_readSings_73 (by decide) (fun h73 => ?_) (fun h73 => ?_)
              · refine b_iconst (v := 0) dX7_readSings_86 (by decide +kernel) ?_
                refine b_zret (Or.inl rfl) rfl (by decide) dX7_readSings_87 ?_
                have e2 : runC f n 600 ⟨true, t1, 0, [], []⟩ = ((tkX p).1, (tkX p).2) := by
                  rw [← e]; simp only [runC]; rw [if_neg hne, if_neg z2]
                obtain ⟨s1, s2⟩ := hs2 _ _ z2 e2
                rw [tkX_t] at s2
                exact hq2 h2 (by rw [s1]; exact z2) (L1.tr ((FLn.fq F).tr (FLn.fq F2))) ⟨by rw [s1]; exact a2, by rw [s2]; exact b2, s.np, h8, by rw [F2.1 u (by omega) (by omega) (by omega) (by omega) (by omega), F.1 u (by omega) (by omega) (by omega) (by omega) (by omega)]; exact C1.2.2.2.1.1⟩
              · exact absurd rfl h73
        refine b_iload_n dX7_readSings_39 rfl rfl ?_
        refine b_sipush (v := 600) dX7_readSings_40 (by decide +kernel) ?_
        refine b_icmp_ge (tgt := 136) dX7_readSings_43 (by decide) (fun h43 => ?_) (fun h43 => ?_)
        · have e43 : 600 ≤ i := nn_le (a := 600) (b := i) (by omega) (by omega) h43
          exact absurd e43 (by omega)
        · have e43 : i < 600 := nn_nle (a := 600) (b := i) (by omega) (by omega) h43
          refine b_iload_n dX7_readSings_46 rfl rfl ?_
          refine b_if_ne (tgt := 57) dX7_readSings_47 (by decide) (fun h47 => ?_) (fun h47 => ?_)
          · have e47 := b2i_1 h47
            exact K57 (fun q => by have := e47.symm.trans q.1; cases this)
          · have e47 := b2i_0 h47
            refine b_aload_n dX7_readSings_50 rfl rfl ?_
            refine b_callV (As := []) (st := []) dX7_readSings_51 lk_X7_145 lm_X7_isRuleEnd lv_X7_isRuleEnd rfl (by decide) rfl rfl rfl (Nat.le_of_ble_eq_true rfl) (Nat.le_refl _) (by decide) ?_
            refine c_X7_isRuleEnd (m := p.ne) (k := p.t.k) hS.2.2.2.1 hS.2.1.2.1 (by omega) hk ?_
            refine b_if_ne (tgt := 136) dX7_readSings_54 (by decide) (fun h54 => ?_) (fun h54 => ?_)
            · have e54 := b2i_1 h54
              have e54 := of_decide_eq_true e54
              exact K136 p h i hS hI F (by rw [← e]; simp only [runC]; rw [if_pos ⟨e47, e54⟩])
            · have e54 := b2i_0 h54
              have e54 := of_decide_eq_false e54
              exact K57 (fun q => e54 q.2)
    exact key 600 0 _ h1 rfl S1 (InvP.z i1) (FSg.rf u h1) rfl
  · have e4 := b2i_1 h4
    refine b_aload_n dX7_readSings_7 rfl rfl ?_
    refine b_iconst (v := 5) dX7_readSings_8 (by decide +kernel) ?_
    refine b_callV (As := [_]) (st := []) dX7_readSings_9 lk_X7_91 lm_X7_refuse lv_X7_refuse rfl (by decide) rfl rfl rfl (Nat.le_of_ble_eq_true rfl) (Nat.le_refl _) (by decide) ?_
    refine c_X7_refuse (k := 5) hC.2.1.2.2.1 ?_
    refine b_zret (Or.inl rfl) rfl (by decide) dX7_readSings_12 ?_
    have eS : enL f n (lnS f n s) = (5, s.t.pl, s) := by unfold lnS; rw [if_pos e4]; unfold enL; rw [if_pos (Nat.succ_ne_zero _)]
    exact hq2 _ (by rw [eS]; exact Nat.succ_ne_zero _) FLn.ref (by rw [eS]; exact FLt.ref hu hC.2.2.2.1.1 h8)
