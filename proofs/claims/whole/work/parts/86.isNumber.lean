/-- a number that must lie between: 0 if it does, else why not -/
def nuC (lo hi : Nat) (t : Tk) : Nat := if t.k = 2 then (if 4 < t.dg ∨ t.v < lo ∨ hi < t.v then 2 else 0) else 1
theorem c_X7_isNumber {E : En} {d : Nat} {Q : QT} {X : XT} {g : G2} {t : Tk} {lo hi : Nat} (ht : Rtk g t) (hk : t.k < 128) (hd : t.dg ≤ 600) (hv : t.v ≤ 9999) (hlo : lo ≤ 9999) (hhi : hi ≤ 9999) (hy : nuC lo hi t = 0 → Q (some (.int 1)) g) (hn : ∀ k, k ≠ 0 → nuC lo hi t = k → Q (some (.int 0)) (up2 (up2 g 1 2 (nI k)) 1 3 (nI t.pl))) : M E md_X7_isNumber (d + 1) [.ref 1, .int (nI lo), .int (nI hi)] g Q X := by
  refine M.of _ rfl rfl (Nat.le_of_ble_eq_true rfl) ?_
  refine b_aload_n dX7_isNumber_0 rfl rfl ?_
  refine b_getR (b := 3) lf_X7_21 rfl rfl dX7_isNumber_1 ?_
  refine b_getI lf_X7_59 rfl dX7_isNumber_4 ?_
  refine b_topE (ht.2.1) ?_
  refine b_iconst (v := 2) dX7_isNumber_7 (by decide +kernel) ?_
  refine b_icmp_eq (tgt := 17) dX7_isNumber_8 (by decide) (fun h8 => ?_) (fun h8 => ?_)
  · have e8 : t.k = 2 := nI_inj (a := t.k) (b := 2) (by omega) (by omega) h8
    refine b_aload_n dX7_isNumber_17 rfl rfl ?_
    refine b_getR (b := 3) lf_X7_21 rfl rfl dX7_isNumber_18 ?_
    refine b_getI lf_X7_97 rfl dX7_isNumber_21 ?_
    refine b_topE (y := nI t.dg) ((ht.2.2.2 (by omega)).2) ?_
    refine b_iconst (v := 4) dX7_isNumber_24 (by decide +kernel) ?_
    refine b_icmp_gt (tgt := 50) dX7_isNumber_25 (by decide) (fun h25 => ?_) (fun h25 => ?_)
    · have e25 : 4 < t.dg := nn_lt (a := 4) (b := t.dg) (by omega) (by omega) h25
      refine b_aload_n dX7_isNumber_50 rfl rfl ?_
      refine b_iconst (v := 2) dX7_isNumber_51 (by decide +kernel) ?_
      refine b_callV (As := [_]) (st := []) dX7_isNumber_52 lk_X7_91 lm_X7_refuse lv_X7_refuse rfl (by decide) rfl rfl rfl (Nat.le_of_ble_eq_true rfl) (Nat.le_refl _) (by decide) ?_
      refine c_X7_refuse (k := 2) ht.2.2.1 ?_
      refine b_zret (Or.inl rfl) rfl (by decide) dX7_isNumber_55 ?_
      exact hn 2 (by decide) (by unfold nuC; rw [if_pos (by omega), if_pos (by omega)])
    · have e25 : t.dg ≤ 4 := nn_nlt (a := 4) (b := t.dg) (by omega) (by omega) h25
      refine b_aload_n dX7_isNumber_28 rfl rfl ?_
      refine b_getR (b := 3) lf_X7_21 rfl rfl dX7_isNumber_29 ?_
      refine b_getI lf_X7_100 rfl dX7_isNumber_32 ?_
      refine b_topE (y := nI t.v) ((ht.2.2.2 (by omega)).1) ?_
      refine b_iload_n dX7_isNumber_35 rfl rfl ?_
      refine b_icmp_lt (tgt := 50) dX7_isNumber_36 (by decide) (fun h36 => ?_) (fun h36 => ?_)
      · have e36 : t.v < lo := nn_lt (a := t.v) (b := lo) (by omega) (by omega) h36
        refine b_aload_n dX7_isNumber_50 rfl rfl ?_
        refine b_iconst (v := 2) dX7_isNumber_51 (by decide +kernel) ?_
        refine b_callV (As := [_]) (st := []) dX7_isNumber_52 lk_X7_91 lm_X7_refuse lv_X7_refuse rfl (by decide) rfl rfl rfl (Nat.le_of_ble_eq_true rfl) (Nat.le_refl _) (by decide) ?_
        refine c_X7_refuse (k := 2) ht.2.2.1 ?_
        refine b_zret (Or.inl rfl) rfl (by decide) dX7_isNumber_55 ?_
        exact hn 2 (by decide) (by unfold nuC; rw [if_pos (by omega), if_pos (by omega)])
      · have e36 : lo ≤ t.v := nn_nlt (a := t.v) (b := lo) (by omega) (by omega) h36
        refine b_aload_n dX7_isNumber_39 rfl rfl ?_
        refine b_getR (b := 3) lf_X7_21 rfl rfl dX7_isNumber_40 ?_
        refine b_getI lf_X7_100 rfl dX7_isNumber_43 ?_
        refine b_topE (y := nI t.v) ((ht.2.2.2 (by omega)).1) ?_
        refine b_iload_n dX7_isNumber_46 rfl rfl ?_
        refine b_icmp_le (tgt := 56) dX7_isNumber_47 (by decide) (fun h47 => ?_) (fun h47 => ?_)
        · have e47 : t.v ≤ hi := nn_le (a := t.v) (b := hi) (by omega) (by omega) h47
          refine b_iconst (v := 1) dX7_isNumber_56 (by decide +kernel) ?_
          refine b_zret (Or.inr rfl) rfl (by decide) dX7_isNumber_57 ?_
          exact hy (by unfold nuC; rw [if_pos (by omega), if_neg (by omega)])
        · have e47 : hi < t.v := nn_nle (a := t.v) (b := hi) (by omega) (by omega) h47
          refine b_aload_n dX7_isNumber_50 rfl rfl ?_
          refine b_iconst (v := 2) dX7_isNumber_51 (by decide +kernel) ?_
          refine b_callV (As := [_]) (st := []) dX7_isNumber_52 lk_X7_91 lm_X7_refuse lv_X7_refuse rfl (by decide) rfl rfl rfl (Nat.le_of_ble_eq_true rfl) (Nat.le_refl _) (by decide) ?_
          refine c_X7_refuse (k := 2) ht.2.2.1 ?_
          refine b_zret (Or.inl rfl) rfl (by decide) dX7_isNumber_55 ?_
          exact hn 2 (by decide) (by unfold nuC; rw [if_pos (by omega), if_pos (by omega)])
  · have e8 : t.k ≠ 2 := fun q => h8 (congrArg nI q)
    refine b_aload_n dX7_isNumber_11 rfl rfl ?_
    refine b_iconst (v := 1) dX7_isNumber_12 (by decide +kernel) ?_
    refine b_callV (As := [_]) (st := []) dX7_isNumber_13 lk_X7_91 lm_X7_refuse lv_X7_refuse rfl (by decide) rfl rfl rfl (Nat.le_of_ble_eq_true rfl) (Nat.le_refl _) (by decide) ?_
    refine c_X7_refuse (k := 1) ht.2.2.1 ?_
    refine b_zret (Or.inl rfl) rfl (by decide) dX7_isNumber_16 ?_
    exact hn 1 (by decide) (by unfold nuC; rw [if_neg (by omega)]) 
