theorem nI_of_toInt {x : Int32} {n : Nat} (h : x.toInt = n) (hn : n < 2 ^ 31) : x = nI n := Int32.toInt_inj.mp (by rw [h, nI_toInt hn])
theorem byM_ok (v : Int32) : ∃ b, b < 12 ∧ byM v = nI b := by
  have e := rmI_toInt v
  have b1 : v.toInt.tmod 12 < 12 := Int.tmod_lt_of_pos _ (by decide)
  have b2 : -12 < v.toInt.tmod 12 := Int.lt_tmod_of_pos _ (by decide)
  have hz : (0 : Int32).toInt = 0 := by decide
  unfold byM
  by_cases h : rmI v 12 < 0
  · have h1 := Int32.lt_iff_toInt_lt.mp h
    rw [hz] at h1
    rw [if_pos h]
    refine ⟨((rmI v 12).toInt + 12).toNat, by omega, nI_of_toInt ?_ (by omega)⟩
    rw [Int32.toInt_add, show (12 : Int32).toInt = 12 from by decide, Int.bmod_eq_of_le (by omega) (by omega)]
    omega
  · rw [if_neg h]
    have h1 := Int32.not_lt.mp h
    rw [Int32.le_iff_toInt_le, hz] at h1
    exact ⟨(rmI v 12).toInt.toNat, by omega, nI_of_toInt (by omega) (by omega)⟩
theorem rmI_nI {a : Nat} (h : a < 2 ^ 31) : rmI (nI a) 12 = nI (a % 12) := pk_rem (d := 12) h (by decide) (by decide)
theorem byM_nI {b : Nat} (h : b < 12) : byM (nI b) = nI b := by
  unfold byM
  rw [rmI_nI (by omega), Nat.mod_eq_of_lt h, if_neg (nI_pos (by omega))]
theorem ntI_ok {v : Int32} {b : Nat} (h : v = nI b) (hb : b < 12) (k : Int32) (lo : Bool) : ∃ s, s < 12 ∧ ntI v k lo = nI s := by
  unfold ntI
  subst h
  by_cases h1 : k = 1
  · rw [if_pos h1]
    cases lo with
    | true => exact ⟨(b + 7 + 11) % 12, Nat.mod_lt _ (by decide), by rw [if_pos rfl, show (7 : Int32) = nI 7 from rfl, show (11 : Int32) = nI 11 from rfl, nI_add, nI_add, rmI_nI (by omega)]⟩
    | false => exact ⟨(b + 7) % 12, Nat.mod_lt _ (by decide), by rw [if_neg (by decide), Int32.add_zero, show (7 : Int32) = nI 7 from rfl, nI_add, rmI_nI (by omega)]⟩
  · rw [if_neg h1]
    cases lo with
    | true => exact ⟨(b + 11) % 12, Nat.mod_lt _ (by decide), by rw [if_pos rfl, show (11 : Int32) = nI 11 from rfl, nI_add, rmI_nI (by omega)]⟩
    | false => exact ⟨b % 12, Nat.mod_lt _ (by decide), by rw [if_neg (by decide), Int32.add_zero, rmI_nI (by omega)]⟩
def noM (T : TD) (sp : Int32) (S : LfS) (p : Nat) : Int32 :=
  if foeB (l_g S 0) (l_g S 1) (l_g S 6) (l_g S 7) (l_n S) (l_fn S) (nI p) then rmI (l_g S 0 (l_n S - 1) + 6) 12 else ntI (byM (vaM T S p)) (t_g T 0 p) (lowB T sp p)
theorem nsM_no (T : TD) (sp : Int32) (S : LfS) (p : Nat) : nsM T sp S p = if !(btI (l_g S 3 2) (nI p) == 0) then 12 else noM T sp S p := rfl
theorem nsM_ok {T : TD} {sp : Int32} {S : LfS} {p : Nat} (oS : okS T S) : ∃ s, s ≤ 12 ∧ nsM T sp S p = nI s := by
  rw [nsM_no]
  by_cases h1 : (!(btI (l_g S 3 2) (nI p) == 0)) = true
  · rw [if_pos h1]; exact ⟨12, by decide, rfl⟩
  · rw [if_neg h1]
    unfold noM
    by_cases h2 : foeB (l_g S 0) (l_g S 1) (l_g S 6) (l_g S 7) (l_n S) (l_fn S) (nI p) = true
    · rw [if_pos h2]
      have h0 : 0 < l_n S := by
        unfold foeB at h2
        simp only [Bool.and_eq_true, decide_eq_true_eq] at h2
        exact h2.1.1
      obtain ⟨s, hs, e⟩ := oS.2.1 (l_n S - 1) (by omega)
      refine ⟨(s + 6) % 12, by omega, ?_⟩
      rw [e, show (6 : Int32) = nI 6 from rfl, nI_add, rmI_nI (by omega)]
    · rw [if_neg h2]
      obtain ⟨b, hb, e⟩ := byM_ok (vaM T S p)
      obtain ⟨s, hs, e2⟩ := ntI_ok e hb (t_g T 0 p) (lowB T sp p)
      exact ⟨s, by omega, e2⟩
theorem addM_0 (S : LfS) (p : Nat) (x : Int32) (i : Nat) : l_g (addM S p x) 0 i = if i = l_n S then x else l_g S 0 i := by
  show (up2 (up2 (up2 (l_g S) 0 (l_n S) x) 1 (l_n S) (nI p)) 2 (l_n S) (l_g S 3 0)) 0 i = _; rw [up2_a _ _ _ _ (by decide), up2_a _ _ _ _ (by decide), up2_if]
theorem addM_1 (S : LfS) (p : Nat) (x : Int32) (i : Nat) : l_g (addM S p x) 1 i = if i = l_n S then nI p else l_g S 1 i := by
  show (up2 (up2 (up2 (l_g S) 0 (l_n S) x) 1 (l_n S) (nI p)) 2 (l_n S) (l_g S 3 0)) 1 i = _; rw [up2_a _ _ _ _ (by decide), up2_if, up2_a _ _ _ _ (by decide)]
theorem addM_2 (S : LfS) (p : Nat) (x : Int32) (i : Nat) : l_g (addM S p x) 2 i = if i = l_n S then l_g S 3 0 else l_g S 2 i := by
  show (up2 (up2 (up2 (l_g S) 0 (l_n S) x) 1 (l_n S) (nI p)) 2 (l_n S) (l_g S 3 0)) 2 i = _; rw [up2_if, up2_a _ _ _ _ (by decide), up2_a _ _ _ _ (by decide)]
theorem addM_c (S : LfS) (p : Nat) (x : Int32) {c : Nat} (hc : 3 ≤ c) : l_g (addM S p x) c = l_g S c := by
  show (up2 (up2 (up2 (l_g S) 0 (l_n S) x) 1 (l_n S) (nI p)) 2 (l_n S) (l_g S 3 0)) c = _; rw [up2_f _ _ _ _ (by omega), up2_f _ _ _ _ (by omega), up2_f _ _ _ _ (by omega)]
theorem okS.add {T : TD} {S : LfS} {p : Nat} {x : Int32} (oS : okS T S) (hn : l_n S < 400) (hp : p < t_n T) (hx : ∃ s, s ≤ 12 ∧ x = nI s) : okS T (addM S p x) := by
  refine ⟨by show l_n S + 1 ≤ 400; omega, fun i hi => ?_, fun i hi => ?_, fun q hq => ?_⟩
  · have hi : i < l_n S + 1 := hi
    rw [addM_0]; by_cases e : i = l_n S
    · rw [if_pos e]; exact hx
    · rw [if_neg e]; exact oS.2.1 i (by omega)
  · have hi : i < l_n S + 1 := hi
    rw [addM_1]; by_cases e : i = l_n S
    · rw [if_pos e]; exact ⟨p, hp, rfl⟩
    · rw [if_neg e]; exact oS.2.2.1 i (by omega)
  · rw [addM_c S p x (by decide)]; exact oS.2.2.2 q hq
theorem okS.stp {T : TD} {sp : Int32} {S : LfS} {i : Nat} (oT : okT T) (oS : okS T S) (hi : i < t_n T) : okS T (stpM T sp S i) := by
  unfold stpM
  split
  · rename_i h
    obtain ⟨p, hp, e⟩ := oT.2.2 i hi
    have e2 : ordM T i = p := by unfold ordM; rw [e, nI_clamp (by have := oT.1; omega)]
    rw [e2]
    exact oS.add h.1 hp (nsM_ok oS)
  · exact oS
theorem okS.run {T : TD} {sp : Int32} {S : LfS} (oT : okT T) (oS : okS T S) : ∀ i, i ≤ t_n T → okS T (runM T sp S i)
  | 0, _ => oS
  | i + 1, h => okS.stp oT (okS.run oT oS i (by omega)) (by omega)
theorem okS.yr {T : TD} {sp : Int32} {S : LfS} (oT : okT T) (oS : okS T S) : okS T (yrM T sp S) := by
  have h := okS.run (sp := sp) oT oS (t_n T) (Nat.le_refl _)
  have e : ∀ c, c ≠ 3 → l_g (yrM T sp S) c = l_g (runM T sp S (t_n T)) c := fun c hc => up2_f _ _ _ _ hc
  refine ⟨h.1, fun i hi => ?_, fun i hi => ?_, fun p hp => ?_⟩
  · rw [e 0 (by decide)]; exact h.2.1 i hi
  · rw [e 1 (by decide)]; exact h.2.2.1 i hi
  · rw [e 5 (by decide)]; exact h.2.2.2 p hp
theorem okS.yrs {T : TD} {sp : Int32} {S : LfS} (oT : okT T) (oS : okS T S) : ∀ k, okS T (yrsM T sp S k)
  | 0 => oS
  | k + 1 => okS.yr oT (okS.yrs oT oS k)
theorem c_X12_noteOf {E : En} {d : Nat} {Q : QT} {X : XT} {g : G2} {T : TD} {S : LfS} {p : Nat} {sp : Int32} (hT : RMt g T) (hR : RMl g T S) (oT : okT T) (oS : okS T S) (hp : p < t_n T) (hsp : g 84 44 = sp) (hq : ∀ h, (∀ z, z ≠ 107 → z ≠ 108 → h z = g z) → Q (some (.int (noM T sp S p))) h) : M E md_X12_noteOf (d + 3) [.ref 84, .int (nI p)] g Q X := by
  refine M.of _ rfl rfl (Nat.le_of_ble_eq_true rfl) ?_
  obtain ⟨q1, q2, q3, q4, q5, q6, q7, q8, q9, q10, q11⟩ := id hT
  obtain ⟨r1, r2, r3, r4, r5, r6, r7, r8, r9, r10, r11, r12, r13, r14, r15, r16⟩ := id hR
  have N132 : ∀ h : G2, (∀ z, z ≠ 107 → z ≠ 108 → h z = g z) → ∀ v : Int32, noM T sp S p = rmI v 12 → B E md_X12_noteOf (d + 3) Q X 132 [(0, .ref 84), (1, .int (nI p)), (2, .int v)] [] h 0 := by
    intro h hz v hv
    refine b_iload_n dX12_noteOf_132 rfl rfl ?_
    refine b_bipush (v := 12) dX12_noteOf_133 (by decide +kernel) ?_
    refine b_irem dX12_noteOf_135 (by decide +kernel) ?_
    refine b_iret rfl (by decide) dX12_noteOf_136 ?_
    rw [show v - v / 12 * 12 = rmI v 12 from rfl, ← hv]
    exact hq h hz
  have N75 : ∀ h : G2, (∀ z, z ≠ 107 → z ≠ 108 → h z = g z) → ∀ v : Int32, ntI (byM (vaM T S p)) (t_g T 0 p) (lowB T sp p) = rmI v 12 → B E md_X12_noteOf (d + 3) Q X 75 [(0, .ref 84), (1, .int (nI p)), (2, .int v)] [] h 0 := by
    intro h hz v hv
    have k1 : h 84 32 = nI (l_n S) := by rw [hz 84 (by decide) (by decide)]; exact r1
    have k3 : ∀ i, i < l_n S → h 104 i = l_g S 0 i := fun i hi => by rw [hz 104 (by decide) (by decide)]; exact r3 i hi
    have k4 : ∀ i, i < l_n S → h 105 i = l_g S 1 i := fun i hi => by rw [hz 105 (by decide) (by decide)]; exact r4 i hi
    have k7 : h 88 p = t_g T 0 p := by rw [hz 88 (by decide) (by decide)]; exact q7 p hp
    have k13 : h 84 36 = nI (l_fn S) := by rw [hz 84 (by decide) (by decide)]; exact r13
    have ksp : h 84 44 = sp := by rw [hz 84 (by decide) (by decide)]; exact hsp
    refine b_aload_n dX12_noteOf_75 rfl rfl ?_
    refine b_getI lf_X12_320 rfl dX12_noteOf_76 ?_
    refine b_if_le (tgt := 132) dX12_noteOf_79 (by decide) (fun h79 => ?_) (fun h79 => ?_)
    · have e79 : l_n S = 0 := by
        rcases Nat.eq_zero_or_pos (l_n S) with q | q
        · exact q
        · rw [k1] at h79; exact absurd h79 (nI_nle q (by omega))
      exact N132 h hz _ (by unfold noM; rw [if_neg (by unfold foeB; rw [decide_eq_false (by omega)]; simp), hv])
    · have e79 : 0 < l_n S := by
        rcases Nat.eq_zero_or_pos (l_n S) with q | q
        · rw [k1, q] at h79; exact absurd (show nI 0 ≤ 0 from by decide +kernel) h79
        · exact q
      refine b_aload_n dX12_noteOf_82 rfl rfl ?_
      refine b_getR (b := 104) lf_X12_93 rfl rfl dX12_noteOf_83 ?_
      refine b_aload_n dX12_noteOf_86 rfl rfl ?_
      refine b_getI lf_X12_320 rfl dX12_noteOf_87 ?_
      refine b_iconst (v := 1) dX12_noteOf_90 (by decide +kernel) ?_
      refine b_isub dX12_noteOf_91 ?_
      refine b_ildN (j := (l_n S - 1)) dX12_noteOf_92 (by rw [k1]; exact nI_m1 e79) (by show _ < 400; omega) ?_
      refine b_bipush (v := 12) dX12_noteOf_93 (by decide +kernel) ?_
      refine b_icmp_eq (tgt := 132) dX12_noteOf_95 (by decide) (fun h95 => ?_) (fun h95 => ?_)
      · rw [k3 _ (by omega)] at h95
        have h95b : (l_g S 0 (l_n S - 1) == 12) = true := by rw [h95]; rfl
        exact N132 h hz _ (by unfold noM; rw [if_neg (by unfold foeB; rw [h95b]; simp), hv])
      · rw [k3 _ (by omega)] at h95
        have h95b : (l_g S 0 (l_n S - 1) == 12) = false := by simp [h95]
        refine b_aload_n dX12_noteOf_98 rfl rfl ?_
        refine b_iload_n dX12_noteOf_99 rfl rfl ?_
        refine b_aload_n dX12_noteOf_100 rfl rfl ?_
        refine b_getR (b := 105) lf_X12_96 rfl rfl dX12_noteOf_101 ?_
        refine b_aload_n dX12_noteOf_104 rfl rfl ?_
        refine b_getI lf_X12_320 rfl dX12_noteOf_105 ?_
        refine b_iconst (v := 1) dX12_noteOf_108 (by decide +kernel) ?_
        refine b_isub dX12_noteOf_109 ?_
        refine b_ildN (j := (l_n S - 1)) dX12_noteOf_110 (by rw [k1]; exact nI_m1 e79) (by show _ < 400; omega) ?_
        refine b_callV (As := [_, _]) (st := []) dX12_noteOf_111 lk_X12_367 lm_X12_isFeud lv_X12_isFeud rfl (by decide) rfl rfl rfl (Nat.le_of_ble_eq_true rfl) (Nat.le_refl _) (by decide) ?_
        refine c_X12_isFeud (n := l_fn S) k13 r14 ?_
        rw [k4 _ (by omega), hz 101 (by decide) (by decide), hz 102 (by decide) (by decide), anyN_cg (P := fdP (g 101) (g 102) (nI p) (l_g S 1 (l_n S - 1))) (R := fdP (l_g S 6) (l_g S 7) (nI p) (l_g S 1 (l_n S - 1))) (fun i hi => by unfold fdP; rw [r15 i hi, r16 i hi])]
        refine b_if_eq (tgt := 132) dX12_noteOf_114 (by decide) (fun h114 => ?_) (fun h114 => ?_)
        · have e114 := b2i_0 h114
          exact N132 h hz _ (by unfold noM; rw [if_neg (by unfold foeB; rw [e114]; simp), hv])
        · have e114 := b2i_1 h114
          refine b_aload_n dX12_noteOf_117 rfl rfl ?_
          refine b_getR (b := 104) lf_X12_93 rfl rfl dX12_noteOf_118 ?_
          refine b_aload_n dX12_noteOf_121 rfl rfl ?_
          refine b_getI lf_X12_320 rfl dX12_noteOf_122 ?_
          refine b_iconst (v := 1) dX12_noteOf_125 (by decide +kernel) ?_
          refine b_isub dX12_noteOf_126 ?_
          refine b_ildN (j := (l_n S - 1)) dX12_noteOf_127 (by rw [k1]; exact nI_m1 e79) (by show _ < 400; omega) ?_
          refine b_bipush (v := 6) dX12_noteOf_128 (by decide +kernel) ?_
          refine b_iadd dX12_noteOf_130 ?_
          rw [k3 _ (by omega)]
          refine b_istore_n (lv' := [(0, _), (1, _), (2, _)]) dX12_noteOf_131 rfl (by decide) rfl rfl ?_
          exact N132 h hz _ (by unfold noM; rw [if_pos (by unfold foeB; rw [decide_eq_true e79, h95b]; exact e114)])
  have N28 : ∀ h : G2, (∀ z, z ≠ 107 → z ≠ 108 → h z = g z) → B E md_X12_noteOf (d + 3) Q X 28 [(0, .ref 84), (1, .int (nI p)), (2, .int (byM (vaM T S p)))] [] h 0 := by
    intro h hz
    have k1 : h 84 32 = nI (l_n S) := by rw [hz 84 (by decide) (by decide)]; exact r1
    have k3 : ∀ i, i < l_n S → h 104 i = l_g S 0 i := fun i hi => by rw [hz 104 (by decide) (by decide)]; exact r3 i hi
    have k4 : ∀ i, i < l_n S → h 105 i = l_g S 1 i := fun i hi => by rw [hz 105 (by decide) (by decide)]; exact r4 i hi
    have k7 : h 88 p = t_g T 0 p := by rw [hz 88 (by decide) (by decide)]; exact q7 p hp
    have k13 : h 84 36 = nI (l_fn S) := by rw [hz 84 (by decide) (by decide)]; exact r13
    have ksp : h 84 44 = sp := by rw [hz 84 (by decide) (by decide)]; exact hsp
    refine b_aload_n dX12_noteOf_28 rfl rfl ?_
    refine b_getR (b := 88) lf_X12_44 rfl rfl dX12_noteOf_29 ?_
    refine b_iload_n dX12_noteOf_32 rfl rfl ?_
    refine b_ildN (j := p) dX12_noteOf_33 (rfl) (by show _ < 16; omega) ?_
    rw [k7]
    refine b_iconst (v := 1) dX12_noteOf_34 (by decide +kernel) ?_
    refine b_icmp_ne (tgt := 41) dX12_noteOf_35 (by decide) (fun h35 => ?_) (fun h35 => ?_)
    · refine b_aload_n dX12_noteOf_41 rfl rfl ?_
      refine b_getR (b := 88) lf_X12_44 rfl rfl dX12_noteOf_42 ?_
      refine b_iload_n dX12_noteOf_45 rfl rfl ?_
      refine b_ildN (j := p) dX12_noteOf_46 (rfl) (by show _ < 16; omega) ?_
      rw [k7]
      refine b_iconst (v := 3) dX12_noteOf_47 (by decide +kernel) ?_
      refine b_icmp_ne (tgt := 55) dX12_noteOf_48 (by decide) (fun h48 => ?_) (fun h48 => ?_)
      · refine b_iconst (v := 0) dX12_noteOf_55 (by decide +kernel) ?_
        refine b_aload_n dX12_noteOf_56 rfl rfl ?_
        refine b_getI lf_X12_108 rfl dX12_noteOf_57 ?_
        rw [ksp]
        refine b_iload_n dX12_noteOf_60 rfl rfl ?_
        refine b_icmp_ne (tgt := 68) dX12_noteOf_61 (by decide) (fun h61 => ?_) (fun h61 => ?_)
        · refine b_iconst (v := 0) dX12_noteOf_68 (by decide +kernel) ?_
          refine b_icmp_eq (tgt := 75) dX12_noteOf_69 (by decide) (fun h69 => ?_) (fun h69 => ?_)
          · have elow : lowB T sp p = false := by unfold lowB; rw [show (t_g T 0 p == 3) = false from by simp [h48], show (sp == nI p) = false from by simp [h61]]; rfl
            exact N75 h hz _ (by unfold ntI; rw [if_neg h35, elow, if_neg (by decide), Int32.add_zero])
          · exact absurd rfl h69
        · refine b_iconst (v := 1) dX12_noteOf_64 (by decide +kernel) ?_
          refine b_goto (tgt := 69) dX12_noteOf_65 (by decide) ?_
          refine b_icmp_eq (tgt := 75) dX12_noteOf_69 (by decide) (fun h69 => ?_) (fun h69 => ?_)
          · exact absurd h69 (by decide)
          · refine b_iinc (v := byM (vaM T S p) + 11) (lv' := [(0, _), (1, _), (2, _)]) dX12_noteOf_72 rfl rfl (by decide) rfl rfl ?_
            have elow : lowB T sp p = true := by unfold lowB; rw [show (t_g T 0 p == 3) = false from by simp [h48], show (sp == nI p) = true from by simp [h61]]; rfl
            exact N75 h hz _ (by unfold ntI; rw [if_neg h35, elow, if_pos rfl])
      · refine b_iconst (v := 1) dX12_noteOf_51 (by decide +kernel) ?_
        refine b_goto (tgt := 56) dX12_noteOf_52 (by decide) ?_
        refine b_aload_n dX12_noteOf_56 rfl rfl ?_
        refine b_getI lf_X12_108 rfl dX12_noteOf_57 ?_
        rw [ksp]
        refine b_iload_n dX12_noteOf_60 rfl rfl ?_
        refine b_icmp_ne (tgt := 68) dX12_noteOf_61 (by decide) (fun h61 => ?_) (fun h61 => ?_)
        · refine b_iconst (v := 0) dX12_noteOf_68 (by decide +kernel) ?_
          refine b_icmp_eq (tgt := 75) dX12_noteOf_69 (by decide) (fun h69 => ?_) (fun h69 => ?_)
          · exact absurd h69 (by decide)
          · refine b_iinc (v := byM (vaM T S p) + 11) (lv' := [(0, _), (1, _), (2, _)]) dX12_noteOf_72 rfl rfl (by decide) rfl rfl ?_
            have elow : lowB T sp p = true := by unfold lowB; rw [show (t_g T 0 p == 3) = true from by simp [h48], show (sp == nI p) = false from by simp [h61]]; rfl
            exact N75 h hz _ (by unfold ntI; rw [if_neg h35, elow, if_pos rfl])
        · refine b_iconst (v := 1) dX12_noteOf_64 (by decide +kernel) ?_
          refine b_goto (tgt := 69) dX12_noteOf_65 (by decide) ?_
          refine b_icmp_eq (tgt := 75) dX12_noteOf_69 (by decide) (fun h69 => ?_) (fun h69 => ?_)
          · have elow : lowB T sp p = false := by unfold lowB; rw [show (t_g T 0 p == 3) = true from by simp [h48], show (sp == nI p) = true from by simp [h61]]; rfl
            exact N75 h hz _ (by unfold ntI; rw [if_neg h35, elow, if_neg (by decide), Int32.add_zero])
          · exact absurd rfl h69
    · refine b_iinc (v := byM (vaM T S p) + 7) (lv' := [(0, _), (1, _), (2, _)]) dX12_noteOf_38 rfl rfl (by decide) rfl rfl ?_
      refine b_aload_n dX12_noteOf_41 rfl rfl ?_
      refine b_getR (b := 88) lf_X12_44 rfl rfl dX12_noteOf_42 ?_
      refine b_iload_n dX12_noteOf_45 rfl rfl ?_
      refine b_ildN (j := p) dX12_noteOf_46 (rfl) (by show _ < 16; omega) ?_
      rw [k7]
      refine b_iconst (v := 3) dX12_noteOf_47 (by decide +kernel) ?_
      refine b_icmp_ne (tgt := 55) dX12_noteOf_48 (by decide) (fun h48 => ?_) (fun h48 => ?_)
      · refine b_iconst (v := 0) dX12_noteOf_55 (by decide +kernel) ?_
        refine b_aload_n dX12_noteOf_56 rfl rfl ?_
        refine b_getI lf_X12_108 rfl dX12_noteOf_57 ?_
        rw [ksp]
        refine b_iload_n dX12_noteOf_60 rfl rfl ?_
        refine b_icmp_ne (tgt := 68) dX12_noteOf_61 (by decide) (fun h61 => ?_) (fun h61 => ?_)
        · refine b_iconst (v := 0) dX12_noteOf_68 (by decide +kernel) ?_
          refine b_icmp_eq (tgt := 75) dX12_noteOf_69 (by decide) (fun h69 => ?_) (fun h69 => ?_)
          · have elow : lowB T sp p = false := by unfold lowB; rw [show (t_g T 0 p == 3) = false from by simp [h48], show (sp == nI p) = false from by simp [h61]]; rfl
            exact N75 h hz _ (by unfold ntI; rw [if_pos h35, elow, if_neg (by decide), Int32.add_zero])
          · exact absurd rfl h69
        · refine b_iconst (v := 1) dX12_noteOf_64 (by decide +kernel) ?_
          refine b_goto (tgt := 69) dX12_noteOf_65 (by decide) ?_
          refine b_icmp_eq (tgt := 75) dX12_noteOf_69 (by decide) (fun h69 => ?_) (fun h69 => ?_)
          · exact absurd h69 (by decide)
          · refine b_iinc (v := byM (vaM T S p) + 7 + 11) (lv' := [(0, _), (1, _), (2, _)]) dX12_noteOf_72 rfl rfl (by decide) rfl rfl ?_
            have elow : lowB T sp p = true := by unfold lowB; rw [show (t_g T 0 p == 3) = false from by simp [h48], show (sp == nI p) = true from by simp [h61]]; rfl
            exact N75 h hz _ (by unfold ntI; rw [if_pos h35, elow, if_pos rfl])
      · refine b_iconst (v := 1) dX12_noteOf_51 (by decide +kernel) ?_
        refine b_goto (tgt := 56) dX12_noteOf_52 (by decide) ?_
        refine b_aload_n dX12_noteOf_56 rfl rfl ?_
        refine b_getI lf_X12_108 rfl dX12_noteOf_57 ?_
        rw [ksp]
        refine b_iload_n dX12_noteOf_60 rfl rfl ?_
        refine b_icmp_ne (tgt := 68) dX12_noteOf_61 (by decide) (fun h61 => ?_) (fun h61 => ?_)
        · refine b_iconst (v := 0) dX12_noteOf_68 (by decide +kernel) ?_
          refine b_icmp_eq (tgt := 75) dX12_noteOf_69 (by decide) (fun h69 => ?_) (fun h69 => ?_)
          · exact absurd h69 (by decide)
          · refine b_iinc (v := byM (vaM T S p) + 7 + 11) (lv' := [(0, _), (1, _), (2, _)]) dX12_noteOf_72 rfl rfl (by decide) rfl rfl ?_
            have elow : lowB T sp p = true := by unfold lowB; rw [show (t_g T 0 p == 3) = true from by simp [h48], show (sp == nI p) = false from by simp [h61]]; rfl
            exact N75 h hz _ (by unfold ntI; rw [if_pos h35, elow, if_pos rfl])
        · refine b_iconst (v := 1) dX12_noteOf_64 (by decide +kernel) ?_
          refine b_goto (tgt := 69) dX12_noteOf_65 (by decide) ?_
          refine b_icmp_eq (tgt := 75) dX12_noteOf_69 (by decide) (fun h69 => ?_) (fun h69 => ?_)
          · have elow : lowB T sp p = false := by unfold lowB; rw [show (t_g T 0 p == 3) = true from by simp [h48], show (sp == nI p) = true from by simp [h61]]; rfl
            exact N75 h hz _ (by unfold ntI; rw [if_pos h35, elow, if_neg (by decide), Int32.add_zero])
          · exact absurd rfl h69
  refine b_aload_n dX12_noteOf_0 rfl rfl ?_
  refine b_getR (b := 88) lf_X12_44 rfl rfl dX12_noteOf_1 ?_
  refine b_iload_n dX12_noteOf_4 rfl rfl ?_
  refine b_ildN (j := p) dX12_noteOf_5 (rfl) (by show _ < 16; omega) ?_
  rw [q7 p hp]
  refine b_iconst (v := 2) dX12_noteOf_6 (by decide +kernel) ?_
  refine b_icmp_ne (tgt := 19) dX12_noteOf_7 (by decide) (fun h7 => ?_) (fun h7 => ?_)
  · refine b_aload_n dX12_noteOf_19 rfl rfl ?_
    refine b_iload_n dX12_noteOf_20 rfl rfl ?_
    refine b_callV (As := [_]) (st := []) dX12_noteOf_21 lk_X12_361 lm_X12_byRule lv_X12_byRule rfl (by decide) rfl rfl rfl (Nat.le_of_ble_eq_true rfl) (Nat.le_refl _) (by decide) ?_
    refine c_X12_byRule hT hR oT oS hp (fun g2 hg2 => ?_)
    refine b_callS (As := [_]) (st := []) dX12_noteOf_24 lk_X12_364 lm_X12_by12 ls_X12_by12 rfl rfl (Nat.le_of_ble_eq_true rfl) (Nat.le_refl _) (by decide) ?_
    refine c_X12_by12 ?_
    refine b_topE (y := byM (vaM T S p)) (by unfold vaM ruM; rw [if_neg h7]) ?_
    refine b_istore_n (lv' := [(0, _), (1, _), (2, _)]) dX12_noteOf_27 rfl (by decide) rfl rfl ?_
    exact N28 g2 hg2
  · refine b_aload_n dX12_noteOf_10 rfl rfl ?_
    refine b_getR (b := 100) lf_X12_82 rfl rfl dX12_noteOf_11 ?_
    refine b_iload_n dX12_noteOf_14 rfl rfl ?_
    refine b_ildN (j := p) dX12_noteOf_15 (rfl) (by show _ < 8; omega) ?_
    refine b_goto (tgt := 27) dX12_noteOf_16 (by decide) ?_
    refine b_topE (y := byM (vaM T S p)) (by
      obtain ⟨b, hb, e⟩ := oS.2.2.2 p hp
      unfold vaM; rw [if_pos h7, r12 p hp, e, byM_nI hb]) ?_
    refine b_istore_n (lv' := [(0, _), (1, _), (2, _)]) dX12_noteOf_27 rfl (by decide) rfl rfl ?_
    exact N28 g (fun _ _ _ => rfl)
