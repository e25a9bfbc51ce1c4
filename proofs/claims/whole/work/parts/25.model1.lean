theorem c_X12_isOf {E : En} {d : Nat} {Q : QT} {X : XT} {g : G2} {m p : Int32} (hq : Q (some (.int (b2i (btI m p == 1)))) g) : M E md_X12_isOf d [.int m, .int p] g Q X := by
  refine M.of _ rfl rfl (Nat.le_of_ble_eq_true rfl) ?_
  refine b_iload_n dX12_isOf_0 rfl rfl ?_
  refine b_iload_n dX12_isOf_1 rfl rfl ?_
  refine b_ishr dX12_isOf_2 ?_
  refine b_iconst (v := 1) dX12_isOf_3 (by decide +kernel) ?_
  refine b_iand dX12_isOf_4 ?_
  refine b_iconst (v := 1) dX12_isOf_5 (by decide +kernel) ?_
  refine b_icmp_ne (tgt := 13) dX12_isOf_6 (by decide) (fun h6 => ?_) (fun h6 => ?_)
  · have e : b2i (btI m p == 1) = 0 := by unfold btI; simp [b2i, h6]
    rw [e] at hq
    refine b_iconst (v := 0) dX12_isOf_13 (by decide +kernel) ?_
    refine b_zret (by first | exact Or.inl rfl | exact Or.inr rfl) rfl (by decide) dX12_isOf_14 ?_
    exact hq
  · have e : b2i (btI m p == 1) = 1 := by unfold btI; rw [h6]; rfl
    rw [e] at hq
    refine b_iconst (v := 1) dX12_isOf_9 (by decide +kernel) ?_
    refine b_goto (tgt := 14) dX12_isOf_10 (by decide) ?_
    refine b_zret (by first | exact Or.inl rfl | exact Or.inr rfl) rfl (by decide) dX12_isOf_14 ?_
    exact hq
theorem c_X12_by12 {E : En} {d : Nat} {Q : QT} {X : XT} {g : G2} {v : Int32} (hq : Q (some (.int (byM v))) g) : M E md_X12_by12 d [.int v] g Q X := by
  refine M.of _ rfl rfl (Nat.le_of_ble_eq_true rfl) ?_
  refine b_iload_n dX12_by12_0 rfl rfl ?_
  refine b_bipush (v := 12) dX12_by12_1 (by decide +kernel) ?_
  refine b_irem dX12_by12_3 (by decide +kernel) ?_
  refine b_istore_n (lv' := [(0, _), (1, _)]) dX12_by12_4 rfl (by decide) rfl rfl ?_
  refine b_iload_n dX12_by12_5 rfl rfl ?_
  refine b_if_ge (tgt := 16) dX12_by12_6 (by decide) (fun h6 => ?_) (fun h6 => ?_)
  · have hq : Q (some (.int (rmI v 12))) g := by unfold byM at hq; rw [if_neg (show ¬ rmI v 12 < 0 from Int32.not_lt.mpr h6)] at hq; exact hq
    refine b_iload_n dX12_by12_16 rfl rfl ?_
    refine b_iret rfl (by decide) dX12_by12_17 ?_
    exact hq
  · have hq : Q (some (.int (rmI v 12 + 12))) g := by unfold byM at hq; rw [if_pos (show rmI v 12 < 0 from Int32.not_le.mp h6)] at hq; exact hq
    refine b_iload_n dX12_by12_9 rfl rfl ?_
    refine b_bipush (v := 12) dX12_by12_10 (by decide +kernel) ?_
    refine b_iadd dX12_by12_12 ?_
    refine b_goto (tgt := 17) dX12_by12_13 (by decide) ?_
    refine b_iret rfl (by decide) dX12_by12_17 ?_
    exact hq
theorem c_X12_reckon {E : En} {d : Nat} {Q : QT} {X : XT} {g : G2} {x a b : Int32} (hq : Q (some (.int (rknM x a b))) g) : M E md_X12_reckon d [.int x, .int a, .int b] g Q X := by
  refine M.of _ rfl rfl (Nat.le_of_ble_eq_true rfl) ?_
  refine b_iload_n dX12_reckon_0 rfl rfl ?_
  by_cases km26 : x = (-26)
  · subst km26
    have hq : Q (some (.int (rknM (-26) a b))) g := hq
    unfold rknM at hq
    refine b_tableIn (off := 89) (tgt := 90) dX12_reckon_1 (by decide +kernel) (by decide +kernel) (by decide +kernel) (by decide) ?_
    refine b_iload_n dX12_reckon_90 rfl rfl ?_
    refine b_if_eq (tgt := 102) dX12_reckon_91 (by decide) (fun h91 => ?_) (fun h91 => ?_)
    · refine b_iconst (v := 0) dX12_reckon_102 (by decide +kernel) ?_
      refine b_iret rfl (by decide) dX12_reckon_103 ?_
      first
        | exact hq
        | (simp at hq; exact hq)
        | (simp at hq; grind)
        | grind
    · refine b_iload_n dX12_reckon_94 rfl rfl ?_
      refine b_if_eq (tgt := 102) dX12_reckon_95 (by decide) (fun h95 => ?_) (fun h95 => ?_)
      · refine b_iconst (v := 0) dX12_reckon_102 (by decide +kernel) ?_
        refine b_iret rfl (by decide) dX12_reckon_103 ?_
        first
          | exact hq
          | (simp at hq; exact hq)
          | (simp at hq; grind)
          | grind
      · refine b_iconst (v := 1) dX12_reckon_98 (by decide +kernel) ?_
        refine b_goto (tgt := 103) dX12_reckon_99 (by decide) ?_
        refine b_iret rfl (by decide) dX12_reckon_103 ?_
        first
          | exact hq
          | (simp at hq; exact hq)
          | (simp at hq; grind)
          | grind
  by_cases km25 : x = (-25)
  · subst km25
    have hq : Q (some (.int (rknM (-25) a b))) g := hq
    unfold rknM at hq
    refine b_tableIn (off := 78) (tgt := 79) dX12_reckon_1 (by decide +kernel) (by decide +kernel) (by decide +kernel) (by decide) ?_
    refine b_iload_n dX12_reckon_79 rfl rfl ?_
    refine b_iload_n dX12_reckon_80 rfl rfl ?_
    refine b_icmp_ne (tgt := 88) dX12_reckon_81 (by decide) (fun h81 => ?_) (fun h81 => ?_)
    · refine b_iconst (v := 0) dX12_reckon_88 (by decide +kernel) ?_
      refine b_iret rfl (by decide) dX12_reckon_89 ?_
      first
        | exact hq
        | (simp at hq; exact hq)
        | (simp at hq; grind)
        | grind
    · refine b_iconst (v := 1) dX12_reckon_84 (by decide +kernel) ?_
      refine b_goto (tgt := 89) dX12_reckon_85 (by decide) ?_
      refine b_iret rfl (by decide) dX12_reckon_89 ?_
      first
        | exact hq
        | (simp at hq; exact hq)
        | (simp at hq; grind)
        | grind
  by_cases km24 : x = (-24)
  · subst km24
    have hq : Q (some (.int (rknM (-24) a b))) g := hq
    unfold rknM at hq
    refine b_tableIn (off := 67) (tgt := 68) dX12_reckon_1 (by decide +kernel) (by decide +kernel) (by decide +kernel) (by decide) ?_
    refine b_iload_n dX12_reckon_68 rfl rfl ?_
    refine b_iload_n dX12_reckon_69 rfl rfl ?_
    refine b_icmp_ge (tgt := 77) dX12_reckon_70 (by decide) (fun h70 => ?_) (fun h70 => ?_)
    · refine b_iconst (v := 0) dX12_reckon_77 (by decide +kernel) ?_
      refine b_iret rfl (by decide) dX12_reckon_78 ?_
      first
        | exact hq
        | (simp at hq; exact hq)
        | (simp at hq; grind)
        | grind
    · refine b_iconst (v := 1) dX12_reckon_73 (by decide +kernel) ?_
      refine b_goto (tgt := 78) dX12_reckon_74 (by decide) ?_
      refine b_iret rfl (by decide) dX12_reckon_78 ?_
      first
        | exact hq
        | (simp at hq; exact hq)
        | (simp at hq; grind)
        | grind
  by_cases km23 : x = (-23)
  · subst km23
    have hq : Q (some (.int (rknM (-23) a b))) g := hq
    unfold rknM at hq
    refine b_tableIn (off := 55) (tgt := 56) dX12_reckon_1 (by decide +kernel) (by decide +kernel) (by decide +kernel) (by decide) ?_
    refine b_iload_n dX12_reckon_56 rfl rfl ?_
    refine b_if_ne (tgt := 64) dX12_reckon_57 (by decide) (fun h57 => ?_) (fun h57 => ?_)
    · refine b_iload_n dX12_reckon_64 rfl rfl ?_
      refine b_iload_n dX12_reckon_65 rfl rfl ?_
      refine b_idiv dX12_reckon_66 h57 ?_
      refine b_iret rfl (by decide) dX12_reckon_67 ?_
      first
        | (have h9 : Q (some (.int (if b = 0 then 0 else a / b))) g := by simpa using hq
           first
           | (rw [if_neg h57] at h9; exact h9)
           | (rw [if_pos h57] at h9; exact h9))
    · refine b_iconst (v := 0) dX12_reckon_60 (by decide +kernel) ?_
      refine b_goto (tgt := 67) dX12_reckon_61 (by decide) ?_
      refine b_iret rfl (by decide) dX12_reckon_67 ?_
      first
        | (have h9 : Q (some (.int (if b = 0 then 0 else a / b))) g := by simpa using hq
           first
           | (rw [if_neg h57] at h9; exact h9)
           | (rw [if_pos h57] at h9; exact h9))
  by_cases km22 : x = (-22)
  · subst km22
    have hq : Q (some (.int (rknM (-22) a b))) g := hq
    unfold rknM at hq
    refine b_tableIn (off := 51) (tgt := 52) dX12_reckon_1 (by decide +kernel) (by decide +kernel) (by decide +kernel) (by decide) ?_
    refine b_iload_n dX12_reckon_52 rfl rfl ?_
    refine b_iload_n dX12_reckon_53 rfl rfl ?_
    refine b_imul dX12_reckon_54 ?_
    refine b_iret rfl (by decide) dX12_reckon_55 ?_
    first
      | exact hq
      | (simp at hq; exact hq)
      | (simp at hq; grind)
      | grind
  by_cases km21 : x = (-21)
  · subst km21
    have hq : Q (some (.int (rknM (-21) a b))) g := hq
    unfold rknM at hq
    refine b_tableIn (off := 47) (tgt := 48) dX12_reckon_1 (by decide +kernel) (by decide +kernel) (by decide +kernel) (by decide) ?_
    refine b_iload_n dX12_reckon_48 rfl rfl ?_
    refine b_iload_n dX12_reckon_49 rfl rfl ?_
    refine b_isub dX12_reckon_50 ?_
    refine b_iret rfl (by decide) dX12_reckon_51 ?_
    first
      | exact hq
      | (simp at hq; exact hq)
      | (simp at hq; grind)
      | grind
  by_cases km20 : x = (-20)
  · subst km20
    have hq : Q (some (.int (rknM (-20) a b))) g := hq
    unfold rknM at hq
    refine b_tableIn (off := 43) (tgt := 44) dX12_reckon_1 (by decide +kernel) (by decide +kernel) (by decide +kernel) (by decide) ?_
    refine b_iload_n dX12_reckon_44 rfl rfl ?_
    refine b_iload_n dX12_reckon_45 rfl rfl ?_
    refine b_iadd dX12_reckon_46 ?_
    refine b_iret rfl (by decide) dX12_reckon_47 ?_
    first
      | exact hq
      | (simp at hq; exact hq)
      | (simp at hq; grind)
      | grind
  have hq : Q (some (.int (rknM x a b))) g := hq
  unfold rknM at hq
  rw [if_neg km20, if_neg km21, if_neg km22, if_neg km23, if_neg km24, if_neg km25, if_neg km26] at hq
  refine b_tableOut (tgt := 104) dX12_reckon_1 ?_ (by decide) ?_
  · have jm26 : ¬ (x).toInt = -26 := fun q => km26 (Int32.toInt_inj.mp q); have jm25 : ¬ (x).toInt = -25 := fun q => km25 (Int32.toInt_inj.mp q); have jm24 : ¬ (x).toInt = -24 := fun q => km24 (Int32.toInt_inj.mp q); have jm23 : ¬ (x).toInt = -23 := fun q => km23 (Int32.toInt_inj.mp q); have jm22 : ¬ (x).toInt = -22 := fun q => km22 (Int32.toInt_inj.mp q); have jm21 : ¬ (x).toInt = -21 := fun q => km21 (Int32.toInt_inj.mp q); have jm20 : ¬ (x).toInt = -20 := fun q => km20 (Int32.toInt_inj.mp q); omega
  refine b_iload_n dX12_reckon_104 rfl rfl ?_
  refine b_if_ne (tgt := 112) dX12_reckon_105 (by decide) (fun h105 => ?_) (fun h105 => ?_)
  · refine b_iconst (v := 1) dX12_reckon_112 (by decide +kernel) ?_
    refine b_goto (tgt := 117) dX12_reckon_113 (by decide) ?_
    refine b_iret rfl (by decide) dX12_reckon_117 ?_
    first
      | exact hq
      | (simp at hq; exact hq)
      | (simp at hq; grind)
      | grind
  · refine b_iload_n dX12_reckon_108 rfl rfl ?_
    refine b_if_eq (tgt := 116) dX12_reckon_109 (by decide) (fun h109 => ?_) (fun h109 => ?_)
    · refine b_iconst (v := 0) dX12_reckon_116 (by decide +kernel) ?_
      refine b_iret rfl (by decide) dX12_reckon_117 ?_
      first
        | exact hq
        | (simp at hq; exact hq)
        | (simp at hq; grind)
        | grind
    · refine b_iconst (v := 1) dX12_reckon_112 (by decide +kernel) ?_
      refine b_goto (tgt := 117) dX12_reckon_113 (by decide) ?_
      refine b_iret rfl (by decide) dX12_reckon_117 ?_
      first
        | exact hq
        | (simp at hq; exact hq)
        | (simp at hq; grind)
        | grind
def lstR (f : Nat → Int32) (k : Int32) : Nat → Int32
  | 0 => k
  | n + 1 => if f n = 12 then lstR f k n else f n
theorem c_X12_lastNote {E : En} {d : Nat} {Q : QT} {X : XT} {g : G2} {n : Nat} (hn : g 84 32 = nI n) (h4 : n ≤ 400) (hq : Q (some (.int (lstR (g 104) (g 84 31) n))) g) : M E md_X12_lastNote d [.ref 84] g Q X := by
  refine M.of _ rfl rfl (Nat.le_of_ble_eq_true rfl) ?_
  have LP : ∀ i, i ≤ n → Q (some (.int (lstR (g 104) (g 84 31) i))) g → B E md_X12_lastNote d Q X 7 [(0, .ref 84), (1, .int (bgI i))] [] g 0 := by
    intro i
    induction i with
    | zero =>
      intro _ hq2
      show B E md_X12_lastNote d Q X 7 [(0, .ref 84), (1, .int (-1))] [] g 0
      refine b_iload_n dX12_lastNote_7 rfl rfl ?_
      refine b_if_lt (tgt := 35) dX12_lastNote_8 (by decide) (fun h8 => ?_) (fun h8 => ?_)
      · refine b_aload_n dX12_lastNote_35 rfl rfl ?_
        refine b_getI lf_X12_318 rfl dX12_lastNote_36 ?_
        refine b_iret rfl (by decide) dX12_lastNote_39 ?_
        exact hq2
      · exact absurd (show (-1 : Int32) < 0 from by decide +kernel) h8
    | succ i ih =>
      intro hi hq2
      have hi2 : i ≤ n := by omega
      show B E md_X12_lastNote d Q X 7 [(0, .ref 84), (1, .int (nI i))] [] g 0
      refine b_iload_n dX12_lastNote_7 rfl rfl ?_
      refine b_if_lt (tgt := 35) dX12_lastNote_8 (by decide) (fun h8 => ?_) (fun h8 => ?_)
      · exact absurd h8 (nI_pos (by omega))
      · refine b_aload_n dX12_lastNote_11 rfl rfl ?_
        refine b_getR (b := 104) lf_X12_93 rfl rfl dX12_lastNote_12 ?_
        refine b_iload_n dX12_lastNote_15 rfl rfl ?_
        refine b_ildN (j := i) dX12_lastNote_16 (rfl) (by show _ < 400; omega) ?_
        refine b_bipush (v := 12) dX12_lastNote_17 (by decide +kernel) ?_
        refine b_icmp_eq (tgt := 29) dX12_lastNote_19 (by decide) (fun h19 => ?_) (fun h19 => ?_)
        · refine b_iinc (v := bgI i) (lv' := [(0, _), (1, _)]) dX12_lastNote_29 rfl (by cases i with | zero => decide +kernel | succ c => exact pk_m1 c) (by decide) rfl rfl ?_
          refine b_goto (tgt := 7) dX12_lastNote_32 (by decide) ?_
          exact ih hi2 (by rw [lstR, if_pos h19] at hq2; exact hq2)
        · refine b_aload_n dX12_lastNote_22 rfl rfl ?_
          refine b_getR (b := 104) lf_X12_93 rfl rfl dX12_lastNote_23 ?_
          refine b_iload_n dX12_lastNote_26 rfl rfl ?_
          refine b_ildN (j := i) dX12_lastNote_27 (rfl) (by show _ < 400; omega) ?_
          refine b_iret rfl (by decide) dX12_lastNote_28 ?_
          rw [lstR, if_neg h19] at hq2
          exact hq2
  refine b_aload_n dX12_lastNote_0 rfl rfl ?_
  refine b_getI lf_X12_320 rfl dX12_lastNote_1 ?_
  refine b_iconst (v := 1) dX12_lastNote_4 (by decide +kernel) ?_
  refine b_isub dX12_lastNote_5 ?_
  refine b_topE (y := bgI n) (by rw [hn]; cases n with | zero => decide +kernel | succ c => exact nI_pred c) ?_
  refine b_istore_n (lv' := [(0, _), (1, _)]) dX12_lastNote_6 rfl (by decide) rfl rfl ?_
  exact LP n (Nat.le_refl _) hq
theorem c_X12_signsOf {E : En} {d : Nat} {Q : QT} {X : XT} {g : G2} {n : Nat} {p : Int32} (hn : g 84 32 = nI n) (h4 : n ≤ 400) (hq : Q (some (.int (nI (cntN (fun i => g 105 i == p) n)))) g) : M E md_X12_signsOf d [.ref 84, .int p] g Q X := by
  refine M.of _ rfl rfl (Nat.le_of_ble_eq_true rfl) ?_
  have LP : ∀ i, i ≤ n → B E md_X12_signsOf d Q X 4 [(0, .ref 84), (1, .int p), (2, .int (nI (cntN (fun i => g 105 i == p) i))), (3, .int (nI i))] [] g 0 := by
    refine lp_up (fun i hi ih => ?_)
    refine b_iload_n dX12_signsOf_4 rfl rfl ?_
    refine b_aload_n dX12_signsOf_5 rfl rfl ?_
    refine b_getI lf_X12_320 rfl dX12_signsOf_6 ?_
    refine b_icmp_ge (tgt := 36) dX12_signsOf_9 (by decide) (fun h9 => ?_) (fun h9 => ?_)
    · have e : i = n := by have := (nI_leI (by omega) (by omega)).mp (hn ▸ h9); omega
      subst e
      refine b_iload_n dX12_signsOf_36 rfl rfl ?_
      refine b_iret rfl (by decide) dX12_signsOf_37 ?_
      exact hq
    · have e : i < n := by
        rcases Nat.lt_or_ge i n with q | q
        · exact q
        · exact absurd (hn ▸ (nI_leI (by omega) (by omega)).mpr q) h9
      refine b_iload_n dX12_signsOf_12 rfl rfl ?_
      refine b_aload_n dX12_signsOf_13 rfl rfl ?_
      refine b_getR (b := 105) lf_X12_96 rfl rfl dX12_signsOf_14 ?_
      refine b_iload_n dX12_signsOf_17 rfl rfl ?_
      refine b_ildN (j := i) dX12_signsOf_18 (rfl) (by show _ < 400; omega) ?_
      refine b_iload_n dX12_signsOf_19 rfl rfl ?_
      refine b_icmp_ne (tgt := 27) dX12_signsOf_20 (by decide) (fun h20 => ?_) (fun h20 => ?_)
      · refine b_iconst (v := 0) dX12_signsOf_27 (by decide +kernel) ?_
        refine b_iadd dX12_signsOf_28 ?_
        refine b_topE (y := nI (cntN (fun i => g 105 i == p) i)) (Int32.add_zero _) ?_
        refine b_istore_n (lv' := [(0, _), (1, _), (2, _), (3, _)]) dX12_signsOf_29 rfl (by decide) rfl rfl ?_
        refine b_incN (j := i) (lv' := [(0, _), (1, _), (2, _), (3, _)]) dX12_signsOf_30 rfl rfl (by decide) rfl rfl ?_
        refine b_goto (tgt := 4) dX12_signsOf_33 (by decide) ?_
        have ih2 := ih (i + 1) (by omega) (by omega)
        rw [cntN] at ih2
        rw [if_neg (by simp [h20]), Nat.add_zero] at ih2
        exact ih2
      · refine b_iconst (v := 1) dX12_signsOf_23 (by decide +kernel) ?_
        refine b_goto (tgt := 28) dX12_signsOf_24 (by decide) ?_
        refine b_iadd dX12_signsOf_28 ?_
        refine b_topE (y := nI (cntN (fun i => g 105 i == p) i + 1)) (nI_1 _) ?_
        refine b_istore_n (lv' := [(0, _), (1, _), (2, _), (3, _)]) dX12_signsOf_29 rfl (by decide) rfl rfl ?_
        refine b_incN (j := i) (lv' := [(0, _), (1, _), (2, _), (3, _)]) dX12_signsOf_30 rfl rfl (by decide) rfl rfl ?_
        refine b_goto (tgt := 4) dX12_signsOf_33 (by decide) ?_
        have ih2 := ih (i + 1) (by omega) (by omega)
        rw [cntN] at ih2
        rw [if_pos (by simp [h20])] at ih2
        exact ih2
  refine b_iconst (v := 0) dX12_signsOf_0 (by decide +kernel) ?_
  refine b_istore_n (lv' := [(0, _), (1, _), (2, _)]) dX12_signsOf_1 rfl (by decide) rfl rfl ?_
  refine b_iconst (v := 0) dX12_signsOf_2 (by decide +kernel) ?_
  refine b_istore_n (lv' := [(0, _), (1, _), (2, _), (3, _)]) dX12_signsOf_3 rfl (by decide) rfl rfl ?_
  exact LP 0 (Nat.zero_le _)
theorem c_X12_isFeud {E : En} {d : Nat} {Q : QT} {X : XT} {g : G2} {n : Nat} {a b : Int32} (hn : g 84 36 = nI n) (h6 : n ≤ 6) (hq : Q (some (.int (b2i (anyN (fdP (g 101) (g 102) a b) n)))) g) : M E md_X12_isFeud d [.ref 84, .int a, .int b] g Q X := by
  refine M.of _ rfl rfl (Nat.le_of_ble_eq_true rfl) ?_
  have LP : ∀ i, i ≤ n → anyN (fdP (g 101) (g 102) a b) i = false → B E md_X12_isFeud d Q X 2 [(0, .ref 84), (1, .int a), (2, .int b), (3, .int (nI i))] [] g 0 := by
    refine lp_up (fun i hi ih hF => ?_)
    refine b_iload_n dX12_isFeud_2 rfl rfl ?_
    refine b_aload_n dX12_isFeud_3 rfl rfl ?_
    refine b_getI lf_X12_332 rfl dX12_isFeud_4 ?_
    refine b_icmp_ge (tgt := 58) dX12_isFeud_7 (by decide) (fun h7 => ?_) (fun h7 => ?_)
    · have e : i = n := by have := (nI_leI (by omega) (by omega)).mp (hn ▸ h7); omega
      subst e
      refine b_iconst (v := 0) dX12_isFeud_58 (by decide +kernel) ?_
      refine b_zret (Or.inl rfl) rfl (by decide) dX12_isFeud_59 ?_
      rw [hF] at hq
      exact hq
    · have e : i < n := by
        rcases Nat.lt_or_ge i n with q | q
        · exact q
        · exact absurd (hn ▸ (nI_leI (by omega) (by omega)).mpr q) h7
      refine b_aload_n dX12_isFeud_10 rfl rfl ?_
      refine b_getR (b := 101) lf_X12_84 rfl rfl dX12_isFeud_11 ?_
      refine b_iload_n dX12_isFeud_14 rfl rfl ?_
      refine b_ildN (j := i) dX12_isFeud_15 (rfl) (by show _ < 6; omega) ?_
      refine b_iload_n dX12_isFeud_16 rfl rfl ?_
      refine b_icmp_ne (tgt := 30) dX12_isFeud_17 (by decide) (fun h17 => ?_) (fun h17 => ?_)
      · refine b_aload_n dX12_isFeud_30 rfl rfl ?_
        refine b_getR (b := 101) lf_X12_84 rfl rfl dX12_isFeud_31 ?_
        refine b_iload_n dX12_isFeud_34 rfl rfl ?_
        refine b_ildN (j := i) dX12_isFeud_35 (rfl) (by show _ < 6; omega) ?_
        refine b_iload_n dX12_isFeud_36 rfl rfl ?_
        refine b_icmp_ne (tgt := 52) dX12_isFeud_37 (by decide) (fun h37 => ?_) (fun h37 => ?_)
        · refine b_incN (j := i) (lv' := [(0, _), (1, _), (2, _), (3, _)]) dX12_isFeud_52 rfl rfl (by decide) rfl rfl ?_
          refine b_goto (tgt := 2) dX12_isFeud_55 (by decide) ?_
          exact ih (i + 1) (by omega) (by omega) (anyN_f hF (by grind [fdP]))
        · refine b_aload_n dX12_isFeud_40 rfl rfl ?_
          refine b_getR (b := 102) lf_X12_87 rfl rfl dX12_isFeud_41 ?_
          refine b_iload_n dX12_isFeud_44 rfl rfl ?_
          refine b_ildN (j := i) dX12_isFeud_45 (rfl) (by show _ < 6; omega) ?_
          refine b_iload_n dX12_isFeud_46 rfl rfl ?_
          refine b_icmp_ne (tgt := 52) dX12_isFeud_47 (by decide) (fun h47 => ?_) (fun h47 => ?_)
          · refine b_incN (j := i) (lv' := [(0, _), (1, _), (2, _), (3, _)]) dX12_isFeud_52 rfl rfl (by decide) rfl rfl ?_
            refine b_goto (tgt := 2) dX12_isFeud_55 (by decide) ?_
            exact ih (i + 1) (by omega) (by omega) (anyN_f hF (by grind [fdP]))
          · refine b_iconst (v := 1) dX12_isFeud_50 (by decide +kernel) ?_
            refine b_zret (Or.inr rfl) rfl (by decide) dX12_isFeud_51 ?_
            rw [anyN_t (P := fdP (g 101) (g 102) a b) e (by grind [fdP])] at hq
            exact hq
      · refine b_aload_n dX12_isFeud_20 rfl rfl ?_
        refine b_getR (b := 102) lf_X12_87 rfl rfl dX12_isFeud_21 ?_
        refine b_iload_n dX12_isFeud_24 rfl rfl ?_
        refine b_ildN (j := i) dX12_isFeud_25 (rfl) (by show _ < 6; omega) ?_
        refine b_iload_n dX12_isFeud_26 rfl rfl ?_
        refine b_icmp_eq (tgt := 50) dX12_isFeud_27 (by decide) (fun h27 => ?_) (fun h27 => ?_)
        · refine b_iconst (v := 1) dX12_isFeud_50 (by decide +kernel) ?_
          refine b_zret (Or.inr rfl) rfl (by decide) dX12_isFeud_51 ?_
          rw [anyN_t (P := fdP (g 101) (g 102) a b) e (by grind [fdP])] at hq
          exact hq
        · refine b_aload_n dX12_isFeud_30 rfl rfl ?_
          refine b_getR (b := 101) lf_X12_84 rfl rfl dX12_isFeud_31 ?_
          refine b_iload_n dX12_isFeud_34 rfl rfl ?_
          refine b_ildN (j := i) dX12_isFeud_35 (rfl) (by show _ < 6; omega) ?_
          refine b_iload_n dX12_isFeud_36 rfl rfl ?_
          refine b_icmp_ne (tgt := 52) dX12_isFeud_37 (by decide) (fun h37 => ?_) (fun h37 => ?_)
          · refine b_incN (j := i) (lv' := [(0, _), (1, _), (2, _), (3, _)]) dX12_isFeud_52 rfl rfl (by decide) rfl rfl ?_
            refine b_goto (tgt := 2) dX12_isFeud_55 (by decide) ?_
            exact ih (i + 1) (by omega) (by omega) (anyN_f hF (by grind [fdP]))
          · refine b_aload_n dX12_isFeud_40 rfl rfl ?_
            refine b_getR (b := 102) lf_X12_87 rfl rfl dX12_isFeud_41 ?_
            refine b_iload_n dX12_isFeud_44 rfl rfl ?_
            refine b_ildN (j := i) dX12_isFeud_45 (rfl) (by show _ < 6; omega) ?_
            refine b_iload_n dX12_isFeud_46 rfl rfl ?_
            refine b_icmp_ne (tgt := 52) dX12_isFeud_47 (by decide) (fun h47 => ?_) (fun h47 => ?_)
            · refine b_incN (j := i) (lv' := [(0, _), (1, _), (2, _), (3, _)]) dX12_isFeud_52 rfl rfl (by decide) rfl rfl ?_
              refine b_goto (tgt := 2) dX12_isFeud_55 (by decide) ?_
              exact ih (i + 1) (by omega) (by omega) (anyN_f hF (by grind [fdP]))
            · refine b_iconst (v := 1) dX12_isFeud_50 (by decide +kernel) ?_
              refine b_zret (Or.inr rfl) rfl (by decide) dX12_isFeud_51 ?_
              rw [anyN_t (P := fdP (g 101) (g 102) a b) e (by grind [fdP])] at hq
              exact hq
  refine b_iconst (v := 0) dX12_isFeud_0 (by decide +kernel) ?_
  refine b_istore_n (lv' := [(0, _), (1, _), (2, _), (3, _)]) dX12_isFeud_1 rfl (by decide) rfl rfl ?_
  exact LP 0 (Nat.zero_le _) rfl
