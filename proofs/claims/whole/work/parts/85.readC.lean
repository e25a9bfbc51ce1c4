/-! the reader of the class, at s : PS, reading into the town u -/
def rpO (f : Nat → Int32) : List Nat → Prop
  | [] => True
  | x :: r => f r.length = nI x ∧ rpO f r
theorem rpO_cg {f h : Nat → Int32} : ∀ {o : List Nat}, rpO f o → (∀ j, j < o.length → h j = f j) → rpO h o
  | [], _, _ => trivial
  | x :: r, a, b => ⟨by rw [b _ (by simp)]; exact a.1, rpO_cg a.2 (fun j hj => b j (by simp; omega))⟩
/-- the operators that wait -/
def RCo (g : G2) (o : List Nat) : Prop := g 1 8 = nI o.length ∧ rpO (g 2) o ∧ o.length ≤ 84 ∧ ∀ x ∈ o, x < 128
theorem c_X7_lastOpen {E : En} {d : Nat} {Q : QT} {X : XT} {g : G2} {o : List Nat} (hR : RCo g o) (hq : Q (some (.int (nI (lastO o)))) g) : M E md_X7_lastOpen d [.ref 1] g Q X := by
  refine M.of _ rfl rfl (Nat.le_of_ble_eq_true rfl) ?_
  have h84 := hR.2.2.1
  refine b_aload_n dX7_lastOpen_0 rfl rfl ?_
  refine b_getI lf_X7_46 rfl dX7_lastOpen_1 ?_
  refine b_topE (hR.1) ?_
  refine b_if_le (tgt := 21) dX7_lastOpen_4 (by decide) (fun h4 => ?_) (fun h4 => ?_)
  · have e4 : o.length = 0 := Nat.le_zero.mp (nn_le (b := 0) (by omega) (by decide) h4)
    have e0 : o = [] := List.length_eq_zero_iff.mp e4
    refine b_bipush (v := 40) dX7_lastOpen_21 (by decide +kernel) ?_
    refine b_iret rfl (by decide) dX7_lastOpen_23 ?_
    rw [e0] at hq
    exact hq
  · have e4 : 0 < o.length := nn_nle (b := 0) (by omega) (by decide) h4
    obtain ⟨x, r, e0⟩ : ∃ x r, o = x :: r := by
      cases o with
      | nil => cases e4
      | cons x r => exact ⟨x, r, rfl⟩
    have hl9 : o.length = r.length + 1 := by rw [e0]; rfl
    have hr : rpO (g 2) (x :: r) := by have := hR.2.1; rwa [e0] at this
    refine b_aload_n dX7_lastOpen_7 rfl rfl ?_
    refine b_getR (b := 2) lf_X7_42 rfl rfl dX7_lastOpen_8 ?_
    refine b_aload_n dX7_lastOpen_11 rfl rfl ?_
    refine b_getI lf_X7_46 rfl dX7_lastOpen_12 ?_
    refine b_topE (hR.1) ?_
    refine b_iconst (v := 1) dX7_lastOpen_15 (by decide +kernel) ?_
    refine b_isub dX7_lastOpen_16 ?_
    refine b_topE (nI_sub o.length 1 (by omega)) ?_
    refine b_ildN (j := r.length) dX7_lastOpen_17 (congrArg nI (by omega)) (by show _ < 84; omega) ?_
    refine b_topE (y := (nI x)) (hr.1) ?_
    refine b_goto (tgt := 23) dX7_lastOpen_18 (by decide) ?_
    refine b_iret rfl (by decide) dX7_lastOpen_23 ?_
    rw [e0] at hq
    exact hq
theorem c_X7_binding0 {E : En} {d : Nat} {Q : QT} {X : XT} {g : G2} {x : Nat} {y : Int32} (hy : y = nI x) (hx : x < 128) (hq : Q (some (.int (nI (bnd x)))) g) : M E md_X7_binding d [.int y] g Q X := by
  refine M.of _ rfl rfl (Nat.le_of_ble_eq_true rfl) ?_
  refine b_iload_n dX7_binding_0 rfl rfl ?_
  by_cases k42 : y = 42
  · rw [k42] at hy; rw [k42]
    refine b_lookup (off := 93) (tgt := 94) dX7_binding_1 (by decide +kernel) (by decide +kernel) (by decide) ?_
    refine b_bipush (v := 6) dX7_binding_94 (by decide +kernel) ?_
    refine b_iret rfl (by decide) dX7_binding_96 ?_
    rw [show bnd x = 6 from by rw [nI_inj (b := 42) (by omega) (by decide) hy.symm]; decide] at hq
    exact hq
  by_cases k43 : y = 43
  · rw [k43] at hy; rw [k43]
    refine b_lookup (off := 91) (tgt := 92) dX7_binding_1 (by decide +kernel) (by decide +kernel) (by decide) ?_
    refine b_iconst (v := 5) dX7_binding_92 (by decide +kernel) ?_
    refine b_iret rfl (by decide) dX7_binding_93 ?_
    rw [show bnd x = 5 from by rw [nI_inj (b := 43) (by omega) (by decide) hy.symm]; decide] at hq
    exact hq
  by_cases k45 : y = 45
  · rw [k45] at hy; rw [k45]
    refine b_lookup (off := 91) (tgt := 92) dX7_binding_1 (by decide +kernel) (by decide +kernel) (by decide) ?_
    refine b_iconst (v := 5) dX7_binding_92 (by decide +kernel) ?_
    refine b_iret rfl (by decide) dX7_binding_93 ?_
    rw [show bnd x = 5 from by rw [nI_inj (b := 45) (by omega) (by decide) hy.symm]; decide] at hq
    exact hq
  by_cases k47 : y = 47
  · rw [k47] at hy; rw [k47]
    refine b_lookup (off := 93) (tgt := 94) dX7_binding_1 (by decide +kernel) (by decide +kernel) (by decide) ?_
    refine b_bipush (v := 6) dX7_binding_94 (by decide +kernel) ?_
    refine b_iret rfl (by decide) dX7_binding_96 ?_
    rw [show bnd x = 6 from by rw [nI_inj (b := 47) (by omega) (by decide) hy.symm]; decide] at hq
    exact hq
  by_cases k60 : y = 60
  · rw [k60] at hy; rw [k60]
    refine b_lookup (off := 89) (tgt := 90) dX7_binding_1 (by decide +kernel) (by decide +kernel) (by decide) ?_
    refine b_iconst (v := 4) dX7_binding_90 (by decide +kernel) ?_
    refine b_iret rfl (by decide) dX7_binding_91 ?_
    rw [show bnd x = 4 from by rw [nI_inj (b := 60) (by omega) (by decide) hy.symm]; decide] at hq
    exact hq
  by_cases k61 : y = 61
  · rw [k61] at hy; rw [k61]
    refine b_lookup (off := 89) (tgt := 90) dX7_binding_1 (by decide +kernel) (by decide +kernel) (by decide) ?_
    refine b_iconst (v := 4) dX7_binding_90 (by decide +kernel) ?_
    refine b_iret rfl (by decide) dX7_binding_91 ?_
    rw [show bnd x = 4 from by rw [nI_inj (b := 61) (by omega) (by decide) hy.symm]; decide] at hq
    exact hq
  by_cases k107 : y = 107
  · rw [k107] at hy; rw [k107]
    refine b_lookup (off := 83) (tgt := 84) dX7_binding_1 (by decide +kernel) (by decide +kernel) (by decide) ?_
    refine b_iconst (v := 1) dX7_binding_84 (by decide +kernel) ?_
    refine b_iret rfl (by decide) dX7_binding_85 ?_
    rw [show bnd x = 1 from by rw [nI_inj (b := 107) (by omega) (by decide) hy.symm]; decide] at hq
    exact hq
  by_cases k108 : y = 108
  · rw [k108] at hy; rw [k108]
    refine b_lookup (off := 85) (tgt := 86) dX7_binding_1 (by decide +kernel) (by decide +kernel) (by decide) ?_
    refine b_iconst (v := 2) dX7_binding_86 (by decide +kernel) ?_
    refine b_iret rfl (by decide) dX7_binding_87 ?_
    rw [show bnd x = 2 from by rw [nI_inj (b := 108) (by omega) (by decide) hy.symm]; decide] at hq
    exact hq
  by_cases k109 : y = 109
  · rw [k109] at hy; rw [k109]
    refine b_lookup (off := 87) (tgt := 88) dX7_binding_1 (by decide +kernel) (by decide +kernel) (by decide) ?_
    refine b_iconst (v := 3) dX7_binding_88 (by decide +kernel) ?_
    refine b_iret rfl (by decide) dX7_binding_89 ?_
    rw [show bnd x = 3 from by rw [nI_inj (b := 109) (by omega) (by decide) hy.symm]; decide] at hq
    exact hq
  refine b_lookup (off := 96) (tgt := 97) dX7_binding_1 (by decide +kernel) ?_ (by decide) ?_
  · show Op.lookupswitch.offset [(42, 93), (43, 91), (45, 91), (47, 93), (60, 89), (61, 89), (107, 83), (108, 85), (109, 87)] 96 (y).toInt = 96
    rw [lv_osw k42 (by decide +kernel), lv_osw k43 (by decide +kernel), lv_osw k45 (by decide +kernel), lv_osw k47 (by decide +kernel), lv_osw k60 (by decide +kernel), lv_osw k61 (by decide +kernel), lv_osw k107 (by decide +kernel), lv_osw k108 (by decide +kernel), lv_osw k109 (by decide +kernel)]; rfl
  refine b_iconst (v := 0) dX7_binding_97 (by decide +kernel) ?_
  refine b_iret rfl (by decide) dX7_binding_98 ?_
  rw [show bnd x = 0 from ?_] at hq
  · exact hq
  · unfold bnd
    rw [if_neg (fun e => k107 (by rw [hy, e]; rfl)), if_neg (fun e => k108 (by rw [hy, e]; rfl)), if_neg (fun e => k109 (by rw [hy, e]; rfl)), if_neg (fun e => e.elim (fun e => k60 (by rw [hy, e]; rfl)) (fun e => k61 (by rw [hy, e]; rfl))), if_neg (fun e => e.elim (fun e => k43 (by rw [hy, e]; rfl)) (fun e => k45 (by rw [hy, e]; rfl))), if_neg (fun e => e.elim (fun e => k42 (by rw [hy, e]; rfl)) (fun e => k47 (by rw [hy, e]; rfl)))]
theorem c_X7_pushOpen {E : En} {d : Nat} {Q : QT} {X : XT} {g : G2} {o : List Nat} {x : Nat} (hR : RCo g o) (hl : o.length < 84) (hq : Q none (up2 (up2 g 2 o.length (nI x)) 1 8 (nI (o.length + 1)))) : M E md_X7_pushOpen d [.ref 1, .int (nI x)] g Q X := by
  refine M.of _ rfl rfl (Nat.le_of_ble_eq_true rfl) ?_
  refine b_aload_n dX7_pushOpen_0 rfl rfl ?_
  refine b_getI lf_X7_46 rfl dX7_pushOpen_1 ?_
  refine b_topE (hR.1) ?_
  refine b_aload_n dX7_pushOpen_4 rfl rfl ?_
  refine b_getR (b := 2) lf_X7_42 rfl rfl dX7_pushOpen_5 ?_
  refine b_ilen (n := 84) dX7_pushOpen_8 rfl (by decide) ?_
  refine b_icmp_ge (tgt := 32) dX7_pushOpen_9 (by decide) (fun h9 => ?_) (fun h9 => ?_)
  · have e9 : 84 ≤ o.length := nn_le (a := 84) (b := o.length) (by omega) (by omega) h9
    exact absurd e9 (by omega)
  · have e9 : o.length < 84 := nn_nle (a := 84) (b := o.length) (by omega) (by omega) h9
    refine b_aload_n dX7_pushOpen_12 rfl rfl ?_
    refine b_getR (b := 2) lf_X7_42 rfl rfl dX7_pushOpen_13 ?_
    refine b_aload_n dX7_pushOpen_16 rfl rfl ?_
    refine b_getI lf_X7_46 rfl dX7_pushOpen_17 ?_
    refine b_topE (hR.1) ?_
    refine b_iload_n dX7_pushOpen_20 rfl rfl ?_
    refine b_istN (j := o.length) dX7_pushOpen_21 (rfl) (by show _ < 84; omega) ?_
    refine b_aload_n dX7_pushOpen_22 rfl rfl ?_
    refine b_dup dX7_pushOpen_23 rfl ?_
    refine b_getI lf_X7_46 rfl dX7_pushOpen_24 ?_
    refine b_topE (y := nI o.length) (by rw [up2_a _ _ _ _ (by decide)]; exact hR.1) ?_
    refine b_iconst (v := 1) dX7_pushOpen_27 (by decide +kernel) ?_
    refine b_iadd dX7_pushOpen_28 ?_
    refine b_topE (nI_add o.length 1) ?_
    refine b_putI lf_X7_46 lp_7_8 rfl dX7_pushOpen_29 ?_
    refine b_vret rfl (by decide) dX7_pushOpen_32 ?_
    exact hq
theorem RCo.push {g : G2} {o : List Nat} {x : Nat} (hR : RCo g o) (hl : o.length < 84) (hx : x < 128) : RCo (up2 (up2 g 2 o.length (nI x)) 1 8 (nI (o.length + 1))) (x :: o) := ⟨up2_s _ _ _ _, by rw [up2_f _ _ _ _ (by decide)]; exact ⟨up2_s _ _ _ _, rpO_cg hR.2.1 (fun j hj => up2_k _ _ _ _ (by omega))⟩, hl, fun y hy => by rcases List.mem_cons.mp hy with e | e; rw [e]; exact hx; exact hR.2.2.2 y e⟩
theorem c_X7_refuse {E : En} {d : Nat} {Q : QT} {X : XT} {g : G2} {k p : Nat} (h5 : g 3 5 = nI p) (hq : Q (some (.int 0)) (up2 (up2 g 1 2 (nI k)) 1 3 (nI p))) : M E md_X7_refuse d [.ref 1, .int (nI k)] g Q X := by
  refine M.of _ rfl rfl (Nat.le_of_ble_eq_true rfl) ?_
  refine b_aload_n dX7_refuse_0 rfl rfl ?_
  refine b_iload_n dX7_refuse_1 rfl rfl ?_
  refine b_putI lf_X7_25 lp_7_2 rfl dX7_refuse_2 ?_
  refine b_aload_n dX7_refuse_5 rfl rfl ?_
  refine b_aload_n dX7_refuse_6 rfl rfl ?_
  refine b_getR (b := 3) lf_X7_21 rfl rfl dX7_refuse_7 ?_
  refine b_getI lf_X7_69 rfl dX7_refuse_10 ?_
  refine b_topE (y := nI p) (by rw [up2_a _ _ _ _ (by decide)]; exact h5) ?_
  refine b_putI lf_X7_29 lp_7_3 rfl dX7_refuse_13 ?_
  refine b_iconst (v := 0) dX7_refuse_16 (by decide +kernel) ?_
  refine b_zret (Or.inl rfl) rfl (by decide) dX7_refuse_17 ?_
  exact hq
theorem c_X7_isRuleEnd {E : En} {d : Nat} {Q : QT} {X : XT} {g : G2} {m k : Nat} (h9 : g 1 9 = nI m) (hk4 : g 3 4 = nI k) (hm : m < 100) (hk : k < 128) (hq : Q (some (.int (b2i (decide (m = 0 ∧ k = 59))))) g) : M E md_X7_isRuleEnd d [.ref 1] g Q X := by
  refine M.of _ rfl rfl (Nat.le_of_ble_eq_true rfl) ?_
  refine b_aload_n dX7_isRuleEnd_0 rfl rfl ?_
  refine b_getI lf_X7_49 rfl dX7_isRuleEnd_1 ?_
  refine b_topE (h9) ?_
  refine b_if_ne (tgt := 23) dX7_isRuleEnd_4 (by decide) (fun h4 => ?_) (fun h4 => ?_)
  · have e4 : m ≠ 0 := fun q => h4 (by rw [q]; rfl)
    refine b_iconst (v := 0) dX7_isRuleEnd_23 (by decide +kernel) ?_
    refine b_zret (Or.inl rfl) rfl (by decide) dX7_isRuleEnd_24 ?_
    rw [show decide (m = 0 ∧ k = 59) = false from decide_eq_false (by omega)] at hq
    exact hq
  · have e4 : m = 0 := nI_inj (b := 0) (by omega) (by decide) h4
    refine b_aload_n dX7_isRuleEnd_7 rfl rfl ?_
    refine b_getR (b := 3) lf_X7_21 rfl rfl dX7_isRuleEnd_8 ?_
    refine b_getI lf_X7_59 rfl dX7_isRuleEnd_11 ?_
    refine b_topE (hk4) ?_
    refine b_bipush (v := 59) dX7_isRuleEnd_14 (by decide +kernel) ?_
    refine b_icmp_ne (tgt := 23) dX7_isRuleEnd_16 (by decide) (fun h16 => ?_) (fun h16 => ?_)
    · have e16 : k ≠ 59 := fun q => h16 (congrArg nI q)
      refine b_iconst (v := 0) dX7_isRuleEnd_23 (by decide +kernel) ?_
      refine b_zret (Or.inl rfl) rfl (by decide) dX7_isRuleEnd_24 ?_
      rw [show decide (m = 0 ∧ k = 59) = false from decide_eq_false (by omega)] at hq
      exact hq
    · have e16 : k = 59 := nI_inj (a := k) (b := 59) (by omega) (by omega) h16
      refine b_iconst (v := 1) dX7_isRuleEnd_19 (by decide +kernel) ?_
      refine b_goto (tgt := 24) dX7_isRuleEnd_20 (by decide) ?_
      refine b_zret (Or.inr rfl) rfl (by decide) dX7_isRuleEnd_24 ?_
      rw [show decide (m = 0 ∧ k = 59) = true from decide_eq_true (by omega)] at hq
      exact hq
theorem RCo.last {g : G2} {o : List Nat} (hR : RCo g o) : lastO o < 128 := by
  cases o with
  | nil => show 40 < 128; decide
  | cons x r => exact hR.2.2.2 x List.mem_cons_self
theorem c_X7_mayBeNot {E : En} {d : Nat} {Q : QT} {X : XT} {g : G2} {o : List Nat} (hR : RCo g o) (hq : Q (some (.int (b2i (decide (mbN o))))) g) : M E md_X7_mayBeNot (d + 1) [.ref 1] g Q X := by
  refine M.of _ rfl rfl (Nat.le_of_ble_eq_true rfl) ?_
  have hl := hR.last
  refine b_aload_n dX7_mayBeNot_0 rfl rfl ?_
  refine b_callV (As := []) (st := []) dX7_mayBeNot_1 lk_X7_160 lm_X7_lastOpen lv_X7_lastOpen rfl (by decide) rfl rfl rfl (Nat.le_of_ble_eq_true rfl) (Nat.le_refl _) (by decide) ?_
  refine c_X7_lastOpen hR ?_
  refine b_istore_n (lv' := [(0, _), (1, _)]) dX7_mayBeNot_4 rfl (by decide) rfl rfl ?_
  refine b_iload_n dX7_mayBeNot_5 rfl rfl ?_
  refine b_bipush (v := 40) dX7_mayBeNot_6 (by decide +kernel) ?_
  refine b_icmp_eq (tgt := 29) dX7_mayBeNot_8 (by decide) (fun h8 => ?_) (fun h8 => ?_)
  · have e8 : (lastO o) = 40 := nI_inj (a := (lastO o)) (b := 40) (by omega) (by omega) h8
    refine b_iconst (v := 1) dX7_mayBeNot_29 (by decide +kernel) ?_
    refine b_goto (tgt := 34) dX7_mayBeNot_30 (by decide) ?_
    refine b_zret (Or.inr rfl) rfl (by decide) dX7_mayBeNot_34 ?_
    rw [show decide (mbN o) = true from decide_eq_true (by unfold mbN; omega)] at hq
    exact hq
  · have e8 : (lastO o) ≠ 40 := fun q => h8 (congrArg nI q)
    refine b_iload_n dX7_mayBeNot_11 rfl rfl ?_
    refine b_bipush (v := 107) dX7_mayBeNot_12 (by decide +kernel) ?_
    refine b_icmp_eq (tgt := 29) dX7_mayBeNot_14 (by decide) (fun h14 => ?_) (fun h14 => ?_)
    · have e14 : (lastO o) = 107 := nI_inj (a := (lastO o)) (b := 107) (by omega) (by omega) h14
      refine b_iconst (v := 1) dX7_mayBeNot_29 (by decide +kernel) ?_
      refine b_goto (tgt := 34) dX7_mayBeNot_30 (by decide) ?_
      refine b_zret (Or.inr rfl) rfl (by decide) dX7_mayBeNot_34 ?_
      rw [show decide (mbN o) = true from decide_eq_true (by unfold mbN; omega)] at hq
      exact hq
    · have e14 : (lastO o) ≠ 107 := fun q => h14 (congrArg nI q)
      refine b_iload_n dX7_mayBeNot_17 rfl rfl ?_
      refine b_bipush (v := 108) dX7_mayBeNot_18 (by decide +kernel) ?_
      refine b_icmp_eq (tgt := 29) dX7_mayBeNot_20 (by decide) (fun h20 => ?_) (fun h20 => ?_)
      · have e20 : (lastO o) = 108 := nI_inj (a := (lastO o)) (b := 108) (by omega) (by omega) h20
        refine b_iconst (v := 1) dX7_mayBeNot_29 (by decide +kernel) ?_
        refine b_goto (tgt := 34) dX7_mayBeNot_30 (by decide) ?_
        refine b_zret (Or.inr rfl) rfl (by decide) dX7_mayBeNot_34 ?_
        rw [show decide (mbN o) = true from decide_eq_true (by unfold mbN; omega)] at hq
        exact hq
      · have e20 : (lastO o) ≠ 108 := fun q => h20 (congrArg nI q)
        refine b_iload_n dX7_mayBeNot_23 rfl rfl ?_
        refine b_bipush (v := 109) dX7_mayBeNot_24 (by decide +kernel) ?_
        refine b_icmp_ne (tgt := 33) dX7_mayBeNot_26 (by decide) (fun h26 => ?_) (fun h26 => ?_)
        · have e26 : (lastO o) ≠ 109 := fun q => h26 (congrArg nI q)
          refine b_iconst (v := 0) dX7_mayBeNot_33 (by decide +kernel) ?_
          refine b_zret (Or.inl rfl) rfl (by decide) dX7_mayBeNot_34 ?_
          rw [show decide (mbN o) = false from decide_eq_false (by unfold mbN; omega)] at hq
          exact hq
        · have e26 : (lastO o) = 109 := nI_inj (a := (lastO o)) (b := 109) (by omega) (by omega) h26
          refine b_iconst (v := 1) dX7_mayBeNot_29 (by decide +kernel) ?_
          refine b_goto (tgt := 34) dX7_mayBeNot_30 (by decide) ?_
          refine b_zret (Or.inr rfl) rfl (by decide) dX7_mayBeNot_34 ?_
          rw [show decide (mbN o) = true from decide_eq_true (by unfold mbN; omega)] at hq
          exact hq
theorem c_X7_takeNot {E : En} {d : Nat} {Q : QT} {X : XT} {g : G2} {o : List Nat} {p : Nat} (hR : RCo g o) (hl : o.length < 84) (h5 : g 3 5 = nI p) (hy : ¬ 6 ≤ ntsO o → Q (some (.int 1)) (up2 (up2 g 2 o.length (nI 109)) 1 8 (nI (o.length + 1)))) (hn : 6 ≤ ntsO o → Q (some (.int 0)) (up2 (up2 g 1 2 (nI 2)) 1 3 (nI p))) : M E md_X7_takeNot (d + 1) [.ref 1] g Q X := by
  refine M.of _ rfl rfl (Nat.le_of_ble_eq_true rfl) ?_
  have K33 : ∀ c, ntsO o = c → c ≤ 84 → ∀ z2 : Int32, B E md_X7_takeNot (d + 1) Q X 33 [(0, .ref 1), (1, .int (nI c)), (2, .int z2)] [] g 0 := by
    intro c hc hc84 z2
    refine b_iload_n dX7_takeNot_33 rfl rfl ?_
    refine b_bipush (v := 6) dX7_takeNot_34 (by decide +kernel) ?_
    refine b_icmp_lt (tgt := 45) dX7_takeNot_36 (by decide) (fun h36 => ?_) (fun h36 => ?_)
    · have e36 : c < 6 := nn_lt (a := c) (b := 6) (by omega) (by omega) h36
      refine b_aload_n dX7_takeNot_45 rfl rfl ?_
      refine b_bipush (v := 109) dX7_takeNot_46 (by decide +kernel) ?_
      refine b_callV (As := [_]) (st := []) dX7_takeNot_48 lk_X7_173 lm_X7_pushOpen lv_X7_pushOpen rfl (by decide) rfl rfl rfl (Nat.le_of_ble_eq_true rfl) (Nat.le_refl _) (by decide) ?_
      refine c_X7_pushOpen (x := 109) hR hl ?_
      refine b_iconst (v := 1) dX7_takeNot_51 (by decide +kernel) ?_
      refine b_zret (Or.inr rfl) rfl (by decide) dX7_takeNot_52 ?_
      exact hy (by omega)
    · have e36 : 6 ≤ c := nn_nlt (a := c) (b := 6) (by omega) (by omega) h36
      refine b_aload_n dX7_takeNot_39 rfl rfl ?_
      refine b_iconst (v := 2) dX7_takeNot_40 (by decide +kernel) ?_
      refine b_callV (As := [_]) (st := []) dX7_takeNot_41 lk_X7_91 lm_X7_refuse lv_X7_refuse rfl (by decide) rfl rfl rfl (Nat.le_of_ble_eq_true rfl) (Nat.le_refl _) (by decide) ?_
      refine c_X7_refuse (k := 2) h5 ?_
      refine b_zret (Or.inl rfl) rfl (by decide) dX7_takeNot_44 ?_
      exact hn (by omega)
  have key : ∀ (r : List Nat) (c : Nat), rpO (g 2) r → r.length ≤ 84 → (∀ x ∈ r, x < 128) → c + r.length ≤ 84 → ntsO o = c + ntsO r → B E md_X7_takeNot (d + 1) Q X 9 [(0, .ref 1), (1, .int (nI c)), (2, .int (nI r.length - 1))] [] g 0 := by
    intro r
    induction r with
    | nil =>
      intro c hr h84 h128 hcl hc
      refine b_iload_n dX7_takeNot_9 rfl rfl ?_
      refine b_if_lt (tgt := 33) dX7_takeNot_10 (by decide) (fun _ => K33 c hc (by omega) _) (fun q => absurd (by decide +kernel) q)
    | cons x r ih =>
      intro c hr h84 h128 hcl hc
      have hl9 : (x :: r).length = r.length + 1 := rfl
      have hx128 := h128 x List.mem_cons_self
      rw [hl9] at h84 hcl
      rw [show nI (x :: r).length - 1 = nI r.length from nI_pred _]
      refine b_iload_n dX7_takeNot_9 rfl rfl ?_
      refine b_if_lt (tgt := 33) dX7_takeNot_10 (by decide) (fun h10 => ?_) (fun h10 => ?_)
      · exact absurd h10 (nI_pos (by omega))
      · refine b_aload_n dX7_takeNot_13 rfl rfl ?_
        refine b_getR (b := 2) lf_X7_42 rfl rfl dX7_takeNot_14 ?_
        refine b_iload_n dX7_takeNot_17 rfl rfl ?_
        refine b_ildN (j := r.length) dX7_takeNot_18 (rfl) (by show _ < 84; omega) ?_
        refine b_topE (y := nI x) (hr.1) ?_
        refine b_bipush (v := 109) dX7_takeNot_19 (by decide +kernel) ?_
        refine b_icmp_ne (tgt := 33) dX7_takeNot_21 (by decide) (fun h21 => ?_) (fun h21 => ?_)
        · have e21 : x ≠ 109 := fun q => h21 (congrArg nI q)
          exact K33 c (by rw [hc, show ntsO (x :: r) = 0 from if_neg e21]; rfl) (by omega) _
        · have e21 : x = 109 := nI_inj (a := x) (b := 109) (by omega) (by omega) h21
          refine b_incN (j := c) (lv' := [(0, _), (1, _), (2, _)]) dX7_takeNot_24 rfl rfl (by decide) rfl rfl ?_
          refine b_iinc (lv' := [(0, _), (1, _), (2, _)]) dX7_takeNot_27 rfl rfl (by decide) rfl rfl ?_
          refine b_goto (tgt := 9) dX7_takeNot_30 (by decide) ?_
          have z := ih (c + 1) hr.2 (by omega) (fun y hy => h128 y (List.mem_cons_of_mem _ hy)) (by omega) (by rw [hc, show ntsO (x :: r) = ntsO r + 1 from if_pos e21]; omega)
          rw [Int32.sub_eq_add_neg] at z
          exact z
  refine b_iconst (v := 0) dX7_takeNot_0 (by decide +kernel) ?_
  refine b_istore_n (lv' := [(0, _), (1, _)]) dX7_takeNot_1 rfl (by decide) rfl rfl ?_
  refine b_aload_n dX7_takeNot_2 rfl rfl ?_
  refine b_getI lf_X7_46 rfl dX7_takeNot_3 ?_
  refine b_topE (hR.1) ?_
  refine b_iconst (v := 1) dX7_takeNot_6 (by decide +kernel) ?_
  refine b_isub dX7_takeNot_7 ?_
  refine b_istore_n (lv' := [(0, _), (1, _), (2, _)]) dX7_takeNot_8 rfl (by decide) rfl rfl ?_
  exact key o 0 hR.2.1 (by omega) hR.2.2.2 (by omega) (Nat.zero_add _).symm
