/-! strings: what the JDK's length and charAt answer at the constants -/
abbrev md_J0_charAt_5068e : MD := (RJ0, yJ0_charAt_5068e, cJ0_charAt_5068e, 2, (some .char), 0)
set_option maxRecDepth 20000 in
theorem lm_J0_charAt_5068e : Lm md_J0_charAt_5068e 1 := ⟨lw_mem 122 (by decide +kernel) (by decide +kernel), lw_mem 902 rfl rfl, by decide +kernel, by decide⟩
theorem lv_J0_charAt_5068e : LmV md_J0_charAt_5068e := ⟨lw_mem 900 (by decide +kernel) (by decide +kernel), lw_mem 901 (by decide +kernel) (by decide +kernel)⟩
abbrev md_J0_coder_7d493 : MD := (RJ0, yJ0_coder_7d493, cJ0_coder_7d493, 1, (some .byte), 0)
set_option maxRecDepth 20000 in
theorem lm_J0_coder_7d493 : Lm md_J0_coder_7d493 0 := ⟨lw_mem 122 (by decide +kernel) (by decide +kernel), lw_mem 896 rfl rfl, by decide +kernel, by decide⟩
theorem lv_J0_coder_7d493 : LmV md_J0_coder_7d493 := ⟨lw_mem 894 (by decide +kernel) (by decide +kernel), lw_mem 895 (by decide +kernel) (by decide +kernel)⟩
abbrev md_J1_charAt_3b067 : MD := (RJ1, yJ1_charAt_3b067, cJ1_charAt_3b067, 2, (some .char), 0)
set_option maxRecDepth 20000 in
theorem lm_J1_charAt_3b067 : Lm md_J1_charAt_3b067 2 := ⟨lw_mem 123 (by decide +kernel) (by decide +kernel), lw_mem 909 rfl rfl, by decide +kernel, by decide⟩
theorem ls_J1_charAt_3b067 : LmS md_J1_charAt_3b067 := lw_mem 908 (by decide +kernel) (by decide +kernel)
theorem lt_J0_9 : Cond.fieldLink RJ0 9 "java/lang/String" "value" "[B" ∈ lw_g := lw_mem 2067 (by decide +kernel) (by decide +kernel)
theorem lk_J0_335 : Cond.methodLink RJ0 335 yJ0_coder_7d493 ∈ lw_g := lw_mem 893 (by decide +kernel) (by decide +kernel)
theorem lk_J0_492 : Cond.methodLink RJ0 492 yJ0_isLatin1_aae02 ∈ lw_g := lw_mem 903 (by decide +kernel) (by decide +kernel)
theorem lk_J0_495 : Cond.methodLink RJ0 495 yJ1_charAt_3b067 ∈ lw_g := lw_mem 907 (by decide +kernel) (by decide +kernel)
theorem lk_J0_498 : Cond.methodLink RJ0 498 yJ2_charAt_3b067 ∈ lw_g := lw_mem 918 (by decide +kernel) (by decide +kernel)
theorem lt_J0_38 : Cond.fieldLink RJ0 38 "java/lang/String" "COMPACT_STRINGS" "Z" ∈ lw_g := lw_mem 897 (by decide +kernel) (by decide +kernel)
theorem lt_J0_15 : Cond.fieldLink RJ0 15 "java/lang/String" "coder" "B" ∈ lw_g := lw_mem 2068 (by decide +kernel) (by decide +kernel)
theorem lt_J0_1053 : Cond.fieldLink RJ0 1053 "jdk/internal/util/Preconditions" "SIOOBE_FORMATTER" "Ljava/util/function/BiFunction;" ∈ lw_g := lw_mem 913 (by decide +kernel) (by decide +kernel)
theorem lk_J0_1059 : Cond.methodLink RJ0 1059 yJ3_checkIndex_8e157 ∈ lw_g := lw_mem 915 (by decide +kernel) (by decide +kernel)
theorem lk_J1_9 : Cond.methodLink RJ1 9 yJ0_checkIndex_df160 ∈ lw_g := lw_mem 910 (by decide +kernel) (by decide +kernel)
section Rules
variable {E : En} {md : MD} {d : Nat} {Q : QT} {X : XT} {pc : Nat} {lv lv' : List (Nat × Value)} {st : List Value} {g : G2} {k : Nat}
theorem b_strV {q : Nat × Nat × List Int32} {idx : Nat} (hq : q ∈ strC) (hl : Cond.fieldLink (md_own md) idx "java/lang/String" "value" "[B" ∈ lw_g) (hd : decode (md_cc md) pc = .ok (.getfield idx, 3)) (kk : B E md d Q X (pc + 3) lv (.ref (2000 + q.1) :: st) g k) : B E md d Q X pc lv (.ref (1000 + q.1) :: st) g k := by
  intro p l e R s m args below meth c H locs ls C hl0 hP hS
  exact vk_getf C.1 C.2.1 ((C.2.2.2.2.2.2.2.2.2.2.2.1.2.2.1.1 q hq).1 0 (by decide)).2.2.1 hS C.2.2.2.2.2.1 (C.2.2.2.2.2.2.1 _ hl) (fun _ h => h) hd (kk p l e R s m args below meth c H locs ls C hl0 hP hS)
theorem b_strC {q : Nat × Nat × List Int32} {idx : Nat} (hq : q ∈ strC) (hl : Cond.fieldLink (md_own md) idx "java/lang/String" "coder" "B" ∈ lw_g) (hd : decode (md_cc md) pc = .ok (.getfield idx, 3)) (kk : B E md d Q X (pc + 3) lv (.int 0 :: st) g k) : B E md d Q X pc lv (.ref (1000 + q.1) :: st) g k := by
  intro p l e R s m args below meth c H locs ls C hl0 hP hS
  exact vk_getf C.1 C.2.1 ((C.2.2.2.2.2.2.2.2.2.2.2.1.2.2.1.1 q hq).1 0 (by decide)).2.1 hS C.2.2.2.2.2.1 (C.2.2.2.2.2.2.1 _ hl) (fun _ h => h) hd (kk p l e R s m args below meth c H locs ls C hl0 hP hS)
theorem b_strL {q : Nat × Nat × List Int32} (hq : q ∈ strC) (hd : decode (md_cc md) pc = .ok (.arraylength, 1)) (kk : B E md d Q X (pc + 1) lv (.int (nI q.2.1) :: st) g k) : B E md d Q X pc lv (.ref (2000 + q.1) :: st) g k := by
  intro p l e R s m args below meth c H locs ls C hl0 hP hS
  exact va_tlen C.1 C.2.1 ((C.2.2.2.2.2.2.2.2.2.2.2.1.2.2.1.1 q hq).1 0 (by decide)).2.2.2 hS rfl hd (kk p l e R s m args below meth c H locs ls C hl0 hP hS)
theorem b_strB {q : Nat × Nat × List Int32} {j : Nat} (hq : q ∈ strC) (hj : j < q.2.1) (hj2 : q.2.1 < 2 ^ 31) (hd : decode (md_cc md) pc = .ok (.baload, 1)) (kk : B E md d Q X (pc + 1) lv (.int (q.2.2.getD j 0) :: st) g k) : B E md d Q X pc lv (.int (nI j) :: .ref (2000 + q.1) :: st) g k := by
  intro p l e R s m args below meth c H locs ls C hl0 hP hS
  have hc : (nI j).toNatClampNeg = j := nI_clamp (by omega)
  refine va_tb C.1 C.2.1 ((C.2.2.2.2.2.2.2.2.2.2.2.1.2.2.1.1 q hq).1 0 (by decide)).2.2.2 hS ?_ (v := .int (q.2.2.getD j 0)) ?_ hd (kk p l e R s m args below meth c H locs ls C hl0 hP hS)
  · rintro (h | h)
    · exact absurd h (Int32.not_lt.mpr (nI_pos' (by omega)))
    · rw [hc] at h; exact absurd hj (Nat.not_lt.mpr h)
  · simp only [hc]; rfl
theorem b_strZ {idx : Nat} (hl : Cond.fieldLink (md_own md) idx "java/lang/String" "COMPACT_STRINGS" "Z" ∈ lw_g) (hd : decode (md_cc md) pc = .ok (.getstatic idx, 3)) (kk : B E md d Q X (pc + 3) lv (.int 1 :: st) g k) : B E md d Q X pc lv st g k := by
  intro p l e R s m args below meth c H locs ls C hl0 hP hS
  exact va_gets C.1 C.2.1 C.2.2.2.2.2.2.2.2.2.2.2.1.2.2.1.2.1 hS C.2.2.2.2.2.1 (C.2.2.2.2.2.2.1 _ hl) (fun _ h => h) hd (kk p l e R s m args below meth c H locs ls C hl0 hP hS)
theorem b_strF {idx : Nat} (hl : Cond.fieldLink (md_own md) idx "jdk/internal/util/Preconditions" "SIOOBE_FORMATTER" "Ljava/util/function/BiFunction;" ∈ lw_g) (hd : decode (md_cc md) pc = .ok (.getstatic idx, 3)) (kk : ∀ v : Value, v = .null ∨ v = .ref 3000 → B E md d Q X (pc + 3) lv (v :: st) g k) : B E md d Q X pc lv st g k := by
  intro p l e R s m args below meth c H locs ls C hl0 hP hS
  rcases C.2.2.2.2.2.2.2.2.2.2.2.1.2.2.1.2.2 with h | h
  · exact va_gets C.1 C.2.1 h hS C.2.2.2.2.2.1 (C.2.2.2.2.2.2.1 _ hl) (fun _ h => h) hd (kk .null (Or.inl rfl) p l e R s m args below meth c H locs ls C hl0 hP hS)
  · exact va_gets C.1 C.2.1 h hS C.2.2.2.2.2.1 (C.2.2.2.2.2.2.1 _ hl) (fun _ h => h) hd (kk (.ref 3000) (Or.inr rfl) p l e R s m args below meth c H locs ls C hl0 hP hS)
theorem b_i2c {x v : Int32} (hd : decode (md_cc md) pc = .ok (.i2c, 1)) (hv : (x.toUInt32 % 65536).toInt32 = v) (kk : B E md d Q X (pc + 1) lv (.int v :: st) g k) : B E md d Q X pc lv (.int x :: st) g k := by
  intro p l e R s m args below meth c H locs ls C hl hP hS
  exact lv_i2c C.1 C.2.1 hd hv (kk p l e R s m args below meth c H locs ls C hl hP hS)
theorem b_nret {x : Int32} {ty : FieldType} (hr : md_ret md = some ty) (hn : narrow ty (Value.int x) = Value.int x) (hk : k ≤ md_mc md) (hd : decode (md_cc md) pc = .ok (.ireturn, 1)) (hq : Q (some (.int x)) g) : B E md d Q X pc lv [.int x] g k := by
  intro p l e R s m args below meth c H locs ls C hl hP hS
  refine W.widen (k := md_mc md) (n := 6 * md_mc md) hk (by omega) (vx_ret ?_)
  exact W.zret (ty := ty) C.1 C.2.1 (by rw [C.2.2.2.1, hr]) hn (fun t ht _ => ⟨⟨some (.int x), g, rfl, hq, by rw [ht]; exact hP⟩, hS.F ht⟩) hS.2.2 hd (hlocks := C.2.2.2.2.1)
theorem b_callT {q : Nat × Nat × List Int32} {idx n d' : Nat} {md' : MD} {As : List Value} {st0 : List Value} (hq : q ∈ strC) (hd : decode (md_cc md) pc = .ok (.invokevirtual idx, 3)) (hl : Cond.methodLink (md_own md) idx (md_y md') ∈ lw_g) (hm : Lm md' n) (hv : LmV md') (hR : (md_y md').cls = "java/lang/String") (hn : As.length = n) (hst : st0 = As.reverse ++ .ref (1000 + q.1) :: st) (hw : (st.map fun v => v.category).sum ≤ 8) (hdd : d' + 1 ≤ d) (hmc : k + md_mc md' ≤ md_mc md)
    (hM : M E md' d' (.ref (1000 + q.1) :: As) g (fun v g' => B E md d Q X (pc + 3) lv (psh v st) g' (k + md_mc md')) X) : B E md d Q X pc lv st0 g k := by
  intro p l e R s m args below meth c H locs ls C hl0 hP hS
  have hts := C.2.2.2.2.2.2.1
  have hRm := C.2.2.2.2.2.2.2.2.2.2.2.2
  have hrecv := vk_recv (C.2.2.2.2.2.2.2.2.2.2.2.1.2.2.1.1 q hq) (i := 0) (by decide) hS
  have hcat : ((st.map (cv E)).map fun v => v.category).sum ≤ 8 := by rw [List.map_map, show ((fun v : Value => v.category) ∘ cv E) = (fun v => v.category) from funext (cv_cat E)]; exact hw
  refine b_ran (st := st) (a := (Value.ref (E.1 (1000 + q.1)) :: As.map (cv E)).toArray) C hl0 hP hS hmc ?_
  subst hst
  refine vx_runV (As := As.map (cv E)) (rest := st.map (cv E)) (C := (md_y md').cls) ⟨C.1, C.2.1, C.2.2.1, C.2.2.2.2.2.1, hts⟩ (hM l C.2.2.2.2.2.2.2.2.2.1 H.size) ⟨hm.cb hts hl hRm hdd, hts _ hv.1, hts _ hv.2⟩ ⟨WD_blind, by rw [hR]; exact hrecv, fun U hU hW => ⟨rfl, WD_at C hP hS hU hW⟩⟩ rfl (by simpa using hn) hl0.1 (by simp [List.map_reverse, cv]) (lv_room hcat) hd ?_
  rw [hRm]
  exact ⟨hmc, by simp only [rmD]; omega⟩
end Rules
section Strs
variable {E : En} {d : Nat} {Q : QT} {X : XT} {g : G2} {q : Nat × Nat × List Int32}
theorem strC_len : ∀ q ∈ strC, q.2.1 < 20 ∧ q.2.2.length = q.2.1 := by decide +kernel
theorem strC_b : ∀ q ∈ strC, ∀ x ∈ q.2.2, ((x &&& 255).toUInt32 % 65536).toInt32 = x ∧ 0 < x ∧ x < 128 := by decide +kernel
theorem strC_w : ∀ q ∈ strC, ∀ x ∈ q.2.2, (x.toUInt32 % 65536).toInt32 = x := by decide +kernel
theorem strC_at {j : Nat} (hq : q ∈ strC) (hj : j < q.2.1) : q.2.2.getD j 0 ∈ q.2.2 := by
  have := (strC_len q hq).2
  have h2 : j < q.2.2.length := by omega
  simp only [List.getD, List.getElem?_eq_getElem h2, Option.getD_some]
  exact List.getElem_mem _
theorem nrw_char {x : Int32} (h : (x.toUInt32 % 65536).toInt32 = x) : narrow .char (Value.int x) = Value.int x := by
  show Value.int ((x.toUInt32 % 65536).toInt32) = _
  rw [h]
theorem c_str_coder (hq : q ∈ strC) (hQ : Q (some (.int 0)) g) : M E md_J0_coder_7d493 d [.ref (1000 + q.1)] g Q X := by
  refine M.ofF _ (by decide +kernel) rfl (Nat.le_of_ble_eq_true rfl) ?_
  refine b_strZ lt_J0_38 dJ0_coder_7d493_0 ?_
  refine b_if_eq (tgt := 13) dJ0_coder_7d493_3 (by decide) (fun h => absurd h (by decide)) (fun _ => ?_)
  refine b_aload_n dJ0_coder_7d493_6 rfl rfl ?_
  refine b_strC hq lt_J0_15 dJ0_coder_7d493_7 ?_
  refine b_goto (tgt := 14) dJ0_coder_7d493_10 (by decide) ?_
  exact b_nret rfl rfl (by decide) dJ0_coder_7d493_14 hQ
theorem c_str_isLatin1 (hq : q ∈ strC) (hQ : Q (some (.int 1)) g) : M E md_J0_isLatin1_aae02 d [.ref (1000 + q.1)] g Q X := by
  refine M.ofF _ (by decide +kernel) rfl (Nat.le_of_ble_eq_true rfl) ?_
  refine b_strZ lt_J0_38 dJ0_isLatin1_aae02_0 ?_
  refine b_if_eq (tgt := 17) dJ0_isLatin1_aae02_3 (by decide) (fun h => absurd h (by decide)) (fun _ => ?_)
  refine b_aload_n dJ0_isLatin1_aae02_6 rfl rfl ?_
  refine b_strC hq lt_J0_15 dJ0_isLatin1_aae02_7 ?_
  refine b_if_ne (tgt := 17) dJ0_isLatin1_aae02_10 (by decide) (fun h => absurd rfl h) (fun _ => ?_)
  refine b_iconst (v := 1) dJ0_isLatin1_aae02_13 (by decide +kernel) ?_
  refine b_goto (tgt := 18) dJ0_isLatin1_aae02_14 (by decide) ?_
  exact b_zret (Or.inr rfl) rfl (by decide) dJ0_isLatin1_aae02_18 hQ
theorem c_str_length (hq : q ∈ strC) (hQ : Q (some (.int (nI q.2.1))) g) : M E md_J0_length_8abf5 (d + 1) [.ref (1000 + q.1)] g Q X := by
  refine M.ofF _ (by decide +kernel) rfl (Nat.le_of_ble_eq_true rfl) ?_
  refine b_aload_n dJ0_length_8abf5_0 rfl rfl ?_
  refine b_strV hq lt_J0_9 dJ0_length_8abf5_1 ?_
  refine b_strL hq dJ0_length_8abf5_4 ?_
  refine b_aload_n dJ0_length_8abf5_5 rfl rfl ?_
  refine b_callT (As := []) (st := [_]) hq dJ0_length_8abf5_6 lk_J0_335 lm_J0_coder_7d493 lv_J0_coder_7d493 rfl rfl rfl (by simp [Value.category]) (Nat.le_refl _) (by decide) ?_
  refine c_str_coder hq ?_
  refine b_ishr dJ0_length_8abf5_9 ?_
  refine b_iret rfl (by decide) dJ0_length_8abf5_10 ?_
  rw [show (nI q.2.1) >>> ((0 : Int32) &&& 31) = nI q.2.1 by simp]
  exact hQ
theorem c_pre_check {n j : Nat} {v : Value} (hv : v = .null ∨ v = .ref 3000) (hj : j < n) (hn : n < 2 ^ 31) (hQ : Q (some (.int (nI j))) g) : M E md_J3_checkIndex_8e157 d [.int (nI j), .int (nI n), v] g Q X := by
  refine M.ofF _ (by decide +kernel) rfl ?_ ?_
  · rcases hv with rfl | rfl <;> exact Nat.le_of_ble_eq_true rfl
  refine b_iload_n dJ3_checkIndex_8e157_0 rfl rfl ?_
  refine b_if_lt (tgt := 9) dJ3_checkIndex_8e157_1 (by decide) (fun h => absurd h (Int32.not_lt.mpr (nI_pos' (by omega)))) (fun _ => ?_)
  refine b_iload_n dJ3_checkIndex_8e157_4 rfl rfl ?_
  refine b_iload_n dJ3_checkIndex_8e157_5 rfl rfl ?_
  refine b_icmp_lt (tgt := 16) dJ3_checkIndex_8e157_6 (by decide) (fun _ => ?_) (fun h => absurd ((nI_ltI (by omega) hn).mpr hj) h)
  refine b_iload_n dJ3_checkIndex_8e157_16 rfl rfl ?_
  exact b_iret rfl (by decide) dJ3_checkIndex_8e157_17 hQ
theorem c_str_check {n j : Nat} (hj : j < n) (hn : n < 2 ^ 31) (hQ : Q none g) : M E md_J0_checkIndex_df160 (d + 1) [.int (nI j), .int (nI n)] g Q X := by
  refine M.ofF _ (by decide +kernel) rfl (Nat.le_of_ble_eq_true rfl) ?_
  refine b_iload_n dJ0_checkIndex_df160_0 rfl rfl ?_
  refine b_iload_n dJ0_checkIndex_df160_1 rfl rfl ?_
  refine b_strF lt_J0_1053 dJ0_checkIndex_df160_2 (fun v hv => ?_)
  refine b_callS (As := [_, _, _]) (st := []) dJ0_checkIndex_df160_5 lk_J0_1059 lm_J3_checkIndex_8e157 ls_J3_checkIndex_8e157 rfl rfl (Nat.le_of_ble_eq_true rfl) (Nat.le_refl _) (by decide) ?_
  refine c_pre_check hv hj hn ?_
  refine b_pop dJ0_checkIndex_df160_8 rfl ?_
  exact b_vret rfl (by decide) dJ0_checkIndex_df160_9 hQ
theorem c_lat_charAt {j : Nat} (hq : q ∈ strC) (hj : j < q.2.1) (hQ : Q (some (.int (q.2.2.getD j 0))) g) : M E md_J1_charAt_3b067 (d + 2) [.ref (2000 + q.1), .int (nI j)] g Q X := by
  have hl := (strC_len q hq).1
  have hb := (strC_b q hq _ (strC_at hq hj)).1
  refine M.ofF _ (by decide +kernel) rfl (Nat.le_of_ble_eq_true rfl) ?_
  refine b_iload_n dJ1_charAt_3b067_0 rfl rfl ?_
  refine b_aload_n dJ1_charAt_3b067_1 rfl rfl ?_
  refine b_strL hq dJ1_charAt_3b067_2 ?_
  refine b_callS (As := [_, _]) (st := []) dJ1_charAt_3b067_3 lk_J1_9 lm_J0_checkIndex_df160 ls_J0_checkIndex_df160 rfl rfl (Nat.le_of_ble_eq_true rfl) (Nat.le_refl _) (by decide) ?_
  refine c_str_check hj (by omega) ?_
  refine b_aload_n dJ1_charAt_3b067_6 rfl rfl ?_
  refine b_iload_n dJ1_charAt_3b067_7 rfl rfl ?_
  refine b_strB hq hj (by omega) dJ1_charAt_3b067_8 ?_
  refine b_sipush (v := 255) dJ1_charAt_3b067_9 (by decide +kernel) ?_
  refine b_iand dJ1_charAt_3b067_12 ?_
  refine b_i2c dJ1_charAt_3b067_13 hb ?_
  refine b_nret rfl (nrw_char ?_) (by decide) dJ1_charAt_3b067_14 hQ
  exact (strC_w q hq _ (strC_at hq hj))
theorem c_str_charAt {j : Nat} (hq : q ∈ strC) (hj : j < q.2.1) (hQ : Q (some (.int (q.2.2.getD j 0))) g) : M E md_J0_charAt_5068e (d + 3) [.ref (1000 + q.1), .int (nI j)] g Q X := by
  refine M.ofF _ (by decide +kernel) rfl (Nat.le_of_ble_eq_true rfl) ?_
  refine b_aload_n dJ0_charAt_5068e_0 rfl rfl ?_
  refine b_callT (As := []) (st := []) hq dJ0_charAt_5068e_1 lk_J0_492 lm_J0_isLatin1_aae02 lv_J0_isLatin1_aae02 rfl rfl rfl (by simp) (Nat.le_refl _) (by decide) ?_
  refine c_str_isLatin1 hq ?_
  refine b_if_eq (tgt := 16) dJ0_charAt_5068e_4 (by decide) (fun h => absurd h (by decide)) (fun _ => ?_)
  refine b_aload_n dJ0_charAt_5068e_7 rfl rfl ?_
  refine b_strV hq lt_J0_9 dJ0_charAt_5068e_8 ?_
  refine b_iload_n dJ0_charAt_5068e_11 rfl rfl ?_
  refine b_callS (As := [_, _]) (st := []) dJ0_charAt_5068e_12 lk_J0_495 lm_J1_charAt_3b067 ls_J1_charAt_3b067 rfl rfl (Nat.le_of_ble_eq_true rfl) (Nat.le_refl _) (by decide) ?_
  refine c_lat_charAt hq hj ?_
  exact b_nret rfl (nrw_char (strC_w q hq _ (strC_at hq hj))) (by decide) dJ0_charAt_5068e_15 hQ
end Strs

