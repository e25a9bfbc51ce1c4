section Rules
variable {E : En} {md : MD} {d : Nat} {Q : QT} {X : XT} {pc : Nat} {lv lv' : List (Nat × Value)} {st : List Value} {g : G2} {k : Nat}
theorem vp_in_pos {i : Int32} {n : Nat} (h : vp_in i n) : 0 < n := by
  rcases Nat.eq_zero_or_pos n with q | q
  · exact absurd (Or.inr (by omega)) h
  · exact q
theorem b_iconst {n : Int} {v : Int32} (hd : decode (md_cc md) pc = .ok (.iconst n, 1)) (hv : Int32.ofInt n = v) (kk : B E md d Q X (pc + 1) lv (.int v :: st) g k) : B E md d Q X pc lv st g k := by
  intro p l e R s m args below meth c H locs ls C hl hP hS
  exact lv_iconst C.1 C.2.1 hd hv (kk p l e R s m args below meth c H locs ls C hl hP hS)
theorem b_bipush {n : Int} {v : Int32} (hd : decode (md_cc md) pc = .ok (.bipush n, 2)) (hv : (Int8.ofInt n).toInt32 = v) (kk : B E md d Q X (pc + 2) lv (.int v :: st) g k) : B E md d Q X pc lv st g k := by
  intro p l e R s m args below meth c H locs ls C hl hP hS
  exact lv_bipush C.1 C.2.1 hd hv (kk p l e R s m args below meth c H locs ls C hl hP hS)
theorem b_sipush {n : Int} {v : Int32} (hd : decode (md_cc md) pc = .ok (.sipush n, 3)) (hv : (Int16.ofInt n).toInt32 = v) (kk : B E md d Q X (pc + 3) lv (.int v :: st) g k) : B E md d Q X pc lv st g k := by
  intro p l e R s m args below meth c H locs ls C hl hP hS
  exact lv_sipush C.1 C.2.1 hd hv (kk p l e R s m args below meth c H locs ls C hl hP hS)
theorem b_lconst {n : Fin 2} {v : Int64} (hd : decode (md_cc md) pc = .ok (.lconst n, 1)) (hv : Int64.ofNat (n : Nat) = v) (kk : B E md d Q X (pc + 1) lv (.long v :: st) g k) : B E md d Q X pc lv st g k := by
  intro p l e R s m args below meth c H locs ls C hl hP hS
  exact lv_lconst C.1 C.2.1 hd hv (kk p l e R s m args below meth c H locs ls C hl hP hS)
theorem b_iload_n {j : Fin 4} {i : Nat} {x : Int32} (hd : decode (md_cc md) pc = .ok (.iload_n j, 1)) (hi : (j : Nat) = i) (hk : lk lv i = some (.int x)) (kk : B E md d Q X (pc + 1) lv (.int x :: st) g k) : B E md d Q X pc lv st g k := by
  intro p l e R s m args below meth c H locs ls C hl hP hS
  exact lv_iload_n C.1 C.2.1 hd hi (lk_has hl hk) (kk p l e R s m args below meth c H locs ls C hl hP hS)
theorem b_iload {i : Nat} {x : Int32} (hd : decode (md_cc md) pc = .ok (.iload i, 2)) (hk : lk lv i = some (.int x)) (kk : B E md d Q X (pc + 2) lv (.int x :: st) g k) : B E md d Q X pc lv st g k := by
  intro p l e R s m args below meth c H locs ls C hl hP hS
  exact lv_iload C.1 C.2.1 hd (lk_has hl hk) (kk p l e R s m args below meth c H locs ls C hl hP hS)
theorem b_aload_n {j : Fin 4} {i : Nat} {x : Nat} (hd : decode (md_cc md) pc = .ok (.aload_n j, 1)) (hi : (j : Nat) = i) (hk : lk lv i = some (.ref x)) (kk : B E md d Q X (pc + 1) lv (.ref x :: st) g k) : B E md d Q X pc lv st g k := by
  intro p l e R s m args below meth c H locs ls C hl hP hS
  exact lv_aload_n C.1 C.2.1 hd hi (lk_has hl hk) (kk p l e R s m args below meth c H locs ls C hl hP hS)
theorem b_aload {i : Nat} {x : Nat} (hd : decode (md_cc md) pc = .ok (.aload i, 2)) (hk : lk lv i = some (.ref x)) (kk : B E md d Q X (pc + 2) lv (.ref x :: st) g k) : B E md d Q X pc lv st g k := by
  intro p l e R s m args below meth c H locs ls C hl hP hS
  exact lv_aload C.1 C.2.1 hd (lk_has hl hk) (kk p l e R s m args below meth c H locs ls C hl hP hS)
theorem b_lload_n {j : Fin 4} {i : Nat} {x : Int64} (hd : decode (md_cc md) pc = .ok (.lload_n j, 1)) (hi : (j : Nat) = i) (hk : lk lv i = some (.long x)) (kk : B E md d Q X (pc + 1) lv (.long x :: st) g k) : B E md d Q X pc lv st g k := by
  intro p l e R s m args below meth c H locs ls C hl hP hS
  exact lv_lload_n C.1 C.2.1 hd hi (lk_has hl hk) (kk p l e R s m args below meth c H locs ls C hl hP hS)
theorem b_lload {i : Nat} {x : Int64} (hd : decode (md_cc md) pc = .ok (.lload i, 2)) (hk : lk lv i = some (.long x)) (kk : B E md d Q X (pc + 2) lv (.long x :: st) g k) : B E md d Q X pc lv st g k := by
  intro p l e R s m args below meth c H locs ls C hl hP hS
  exact lv_lload C.1 C.2.1 hd (lk_has hl hk) (kk p l e R s m args below meth c H locs ls C hl hP hS)
theorem b_iadd {x y : Int32} (hd : decode (md_cc md) pc = .ok (.iadd, 1)) (kk : B E md d Q X (pc + 1) lv (.int (x + y) :: st) g k) : B E md d Q X pc lv (.int y :: .int x :: st) g k := by
  intro p l e R s m args below meth c H locs ls C hl hP hS
  exact lv_iadd C.1 C.2.1 hd (kk p l e R s m args below meth c H locs ls C hl hP hS)
theorem b_isub {x y : Int32} (hd : decode (md_cc md) pc = .ok (.isub, 1)) (kk : B E md d Q X (pc + 1) lv (.int (x - y) :: st) g k) : B E md d Q X pc lv (.int y :: .int x :: st) g k := by
  intro p l e R s m args below meth c H locs ls C hl hP hS
  exact lv_isub C.1 C.2.1 hd (kk p l e R s m args below meth c H locs ls C hl hP hS)
theorem b_imul {x y : Int32} (hd : decode (md_cc md) pc = .ok (.imul, 1)) (kk : B E md d Q X (pc + 1) lv (.int (x * y) :: st) g k) : B E md d Q X pc lv (.int y :: .int x :: st) g k := by
  intro p l e R s m args below meth c H locs ls C hl hP hS
  exact lv_imul C.1 C.2.1 hd (kk p l e R s m args below meth c H locs ls C hl hP hS)
theorem b_iand {x y : Int32} (hd : decode (md_cc md) pc = .ok (.iand, 1)) (kk : B E md d Q X (pc + 1) lv (.int (x &&& y) :: st) g k) : B E md d Q X pc lv (.int y :: .int x :: st) g k := by
  intro p l e R s m args below meth c H locs ls C hl hP hS
  exact lv_iand C.1 C.2.1 hd (kk p l e R s m args below meth c H locs ls C hl hP hS)
theorem b_ior {x y : Int32} (hd : decode (md_cc md) pc = .ok (.ior, 1)) (kk : B E md d Q X (pc + 1) lv (.int (x ||| y) :: st) g k) : B E md d Q X pc lv (.int y :: .int x :: st) g k := by
  intro p l e R s m args below meth c H locs ls C hl hP hS
  exact lv_ior C.1 C.2.1 hd (kk p l e R s m args below meth c H locs ls C hl hP hS)
theorem b_ixor {x y : Int32} (hd : decode (md_cc md) pc = .ok (.ixor, 1)) (kk : B E md d Q X (pc + 1) lv (.int (x ^^^ y) :: st) g k) : B E md d Q X pc lv (.int y :: .int x :: st) g k := by
  intro p l e R s m args below meth c H locs ls C hl hP hS
  exact lv_ixor C.1 C.2.1 hd (kk p l e R s m args below meth c H locs ls C hl hP hS)
theorem b_ishl {x y : Int32} (hd : decode (md_cc md) pc = .ok (.ishl, 1)) (kk : B E md d Q X (pc + 1) lv (.int (x <<< (y &&& 31)) :: st) g k) : B E md d Q X pc lv (.int y :: .int x :: st) g k := by
  intro p l e R s m args below meth c H locs ls C hl hP hS
  exact lv_ishl C.1 C.2.1 hd (kk p l e R s m args below meth c H locs ls C hl hP hS)
theorem b_ishr {x y : Int32} (hd : decode (md_cc md) pc = .ok (.ishr, 1)) (kk : B E md d Q X (pc + 1) lv (.int (x >>> (y &&& 31)) :: st) g k) : B E md d Q X pc lv (.int y :: .int x :: st) g k := by
  intro p l e R s m args below meth c H locs ls C hl hP hS
  exact lv_ishr C.1 C.2.1 hd (kk p l e R s m args below meth c H locs ls C hl hP hS)
theorem b_idiv {x y : Int32} (hd : decode (md_cc md) pc = .ok (.idiv, 1)) (hne : ¬ y = 0) (kk : B E md d Q X (pc + 1) lv (.int (x / y) :: st) g k) : B E md d Q X pc lv (.int y :: .int x :: st) g k := by
  intro p l e R s m args below meth c H locs ls C hl hP hS
  exact lv_idiv C.1 C.2.1 hd hne (kk p l e R s m args below meth c H locs ls C hl hP hS)
theorem b_irem {x y : Int32} (hd : decode (md_cc md) pc = .ok (.irem, 1)) (hne : ¬ y = 0) (kk : B E md d Q X (pc + 1) lv (.int (x - x / y * y) :: st) g k) : B E md d Q X pc lv (.int y :: .int x :: st) g k := by
  intro p l e R s m args below meth c H locs ls C hl hP hS
  exact lv_irem C.1 C.2.1 hd hne (kk p l e R s m args below meth c H locs ls C hl hP hS)
theorem b_ineg {x : Int32} (hd : decode (md_cc md) pc = .ok (.ineg, 1)) (kk : B E md d Q X (pc + 1) lv (.int (-x) :: st) g k) : B E md d Q X pc lv (.int x :: st) g k := by
  intro p l e R s m args below meth c H locs ls C hl hP hS
  exact lv_ineg C.1 C.2.1 hd (kk p l e R s m args below meth c H locs ls C hl hP hS)
theorem b_iushr {x y v : Int32} (hd : decode (md_cc md) pc = .ok (.iushr, 1)) (hv : (x.toUInt32 >>> (y.toUInt32 &&& Int32.toUInt32 31)).toInt32 = v) (kk : B E md d Q X (pc + 1) lv (.int v :: st) g k) : B E md d Q X pc lv (.int y :: .int x :: st) g k := by
  intro p l e R s m args below meth c H locs ls C hl hP hS
  exact lv_iushr C.1 C.2.1 hd hv (kk p l e R s m args below meth c H locs ls C hl hP hS)
theorem b_i2l {x : Int32} {v : Int64} (hd : decode (md_cc md) pc = .ok (.i2l, 1)) (hv : x.toInt64 = v) (kk : B E md d Q X (pc + 1) lv (.long v :: st) g k) : B E md d Q X pc lv (.int x :: st) g k := by
  intro p l e R s m args below meth c H locs ls C hl hP hS
  exact lv_i2l C.1 C.2.1 hd hv (kk p l e R s m args below meth c H locs ls C hl hP hS)
theorem b_i2b {x v : Int32} (hd : decode (md_cc md) pc = .ok (.i2b, 1)) (hv : x.toInt8.toInt32 = v) (kk : B E md d Q X (pc + 1) lv (.int v :: st) g k) : B E md d Q X pc lv (.int x :: st) g k := by
  intro p l e R s m args below meth c H locs ls C hl hP hS
  exact lv_i2b C.1 C.2.1 hd hv (kk p l e R s m args below meth c H locs ls C hl hP hS)
theorem b_lcmp {x y : Int64} (hd : decode (md_cc md) pc = .ok (.lcmp, 1)) (kk : B E md d Q X (pc + 1) lv (.int (lg_cmp x y) :: st) g k) : B E md d Q X pc lv (.long y :: .long x :: st) g k := by
  intro p l e R s m args below meth c H locs ls C hl hP hS
  exact W.lcmp C.1 C.2.1 hd (kk p l e R s m args below meth c H locs ls C hl hP hS)
theorem b_dup {v : Value} (hd : decode (md_cc md) pc = .ok (.dup, 1)) (hc : v.category = 1) (kk : B E md d Q X (pc + 1) lv (v :: v :: st) g k) : B E md d Q X pc lv (v :: st) g k := by
  intro p l e R s m args below meth c H locs ls C hl hP hS
  exact lv_dup C.1 C.2.1 hd (by rw [cv_cat]; exact hc) (kk p l e R s m args below meth c H locs ls C hl hP hS)
theorem b_pop {v : Value} (hd : decode (md_cc md) pc = .ok (.pop, 1)) (hc : v.category = 1) (kk : B E md d Q X (pc + 1) lv st g k) : B E md d Q X pc lv (v :: st) g k := by
  intro p l e R s m args below meth c H locs ls C hl hP hS
  exact lv_pop C.1 C.2.1 hd (by rw [cv_cat]; exact hc) (kk p l e R s m args below meth c H locs ls C hl hP hS)
theorem b_dup2 {v w : Value} (hd : decode (md_cc md) pc = .ok (.dup2, 1)) (hc : v.category = 1) (hw : w.category = 1) (kk : B E md d Q X (pc + 1) lv (v :: w :: v :: w :: st) g k) : B E md d Q X pc lv (v :: w :: st) g k := by
  intro p l e R s m args below meth c H locs ls C hl hP hS
  exact lv_dup2_11 C.1 C.2.1 hd (by rw [cv_cat]; exact hc) (by rw [cv_cat]; exact hw) (kk p l e R s m args below meth c H locs ls C hl hP hS)
theorem b_ldc {idx : Nat} {v : Int32} (hw : Cond.constant (md_own md) idx v ∈ lw_g) (hd : decode (md_cc md) pc = .ok (.ldc idx, 2)) (kk : B E md d Q X (pc + 2) lv (.int v :: st) g k) : B E md d Q X pc lv st g k := by
  intro p l e R s m args below meth c H locs ls C hl hP hS
  exact lv_ldc C.1 C.2.1 C.2.2.2.2.2.1 (C.2.2.2.2.2.2.1 _ hw) hd (kk p l e R s m args below meth c H locs ls C hl hP hS)
theorem b_ldcw {idx : Nat} {v : Int32} (hw : Cond.constant (md_own md) idx v ∈ lw_g) (hd : decode (md_cc md) pc = .ok (.ldc_w idx, 3)) (kk : B E md d Q X (pc + 3) lv (.int v :: st) g k) : B E md d Q X pc lv st g k := by
  intro p l e R s m args below meth c H locs ls C hl hP hS
  exact lv_ldcw C.1 C.2.1 C.2.2.2.2.2.1 (C.2.2.2.2.2.2.1 _ hw) hd (kk p l e R s m args below meth c H locs ls C hl hP hS)
theorem b_ldc2 {idx : Nat} {v : Int64} (hw : Cond.constantLong (md_own md) idx v ∈ lw_g) (hd : decode (md_cc md) pc = .ok (.ldc2_w idx, 3)) (kk : B E md d Q X (pc + 3) lv (.long v :: st) g k) : B E md d Q X pc lv st g k := by
  intro p l e R s m args below meth c H locs ls C hl hP hS
  exact lv_ldc2 C.1 C.2.1 C.2.2.2.2.2.1 (C.2.2.2.2.2.2.1 _ hw) hd (kk p l e R s m args below meth c H locs ls C hl hP hS)
theorem b_ldcS {idx n : Nat} {tx : String} (hm : (md_own md, idx, tx, n) ∈ strL) (hd : decode (md_cc md) pc = .ok (.ldc idx, 2)) (kk : B E md d Q X (pc + 2) lv (.ref (1000 + n) :: st) g k) : B E md d Q X pc lv st g k := by
  intro p l e R s m args below meth c H locs ls C hl hP hS
  exact va_ldcS C.1 C.2.1 C.2.2.2.2.2.1 (C.2.2.2.2.2.2.2.2.2.2.2.1.2.2.2.1 _ hm) hd (kk p l e R s m args below meth c H locs ls C hl hP hS)
theorem b_istore_n {j : Fin 4} {i : Nat} {x : Int32} (hd : decode (md_cc md) pc = .ok (.istore_n j, 1)) (hi : (j : Nat) = i) (hn : i < md_nL md) (ho : nol lv = true) (hs : stl lv i (.int x) = lv') (kk : B E md d Q X (pc + 1) lv' st g k) : B E md d Q X pc lv (.int x :: st) g k := by
  intro p l e R s m args below meth c H locs ls C hl hP hS
  exact lv_istore_n C.1 C.2.1 hd hi hl hn rfl (fun ls h => kk p l e R s m args below meth c H locs ls C (by rw [← hs]; exact stl_has (v := .int x) ho h) hP hS)
theorem b_istore {i : Nat} {x : Int32} (hd : decode (md_cc md) pc = .ok (.istore i, 2)) (hn : i < md_nL md) (ho : nol lv = true) (hs : stl lv i (.int x) = lv') (kk : B E md d Q X (pc + 2) lv' st g k) : B E md d Q X pc lv (.int x :: st) g k := by
  intro p l e R s m args below meth c H locs ls C hl hP hS
  exact lv_istore C.1 C.2.1 hd hl hn rfl (fun ls h => kk p l e R s m args below meth c H locs ls C (by rw [← hs]; exact stl_has (v := .int x) ho h) hP hS)
theorem b_astore_n {j : Fin 4} {i : Nat} {x : Nat} (hd : decode (md_cc md) pc = .ok (.astore_n j, 1)) (hi : (j : Nat) = i) (hn : i < md_nL md) (ho : nol lv = true) (hs : stl lv i (.ref x) = lv') (kk : B E md d Q X (pc + 1) lv' st g k) : B E md d Q X pc lv (.ref x :: st) g k := by
  intro p l e R s m args below meth c H locs ls C hl hP hS
  exact lv_astore_n C.1 C.2.1 hd hi hl hn rfl (fun ls h => kk p l e R s m args below meth c H locs ls C (by rw [← hs]; exact stl_has (v := .ref x) ho h) hP hS)
theorem b_astore {i : Nat} {x : Nat} (hd : decode (md_cc md) pc = .ok (.astore i, 2)) (hn : i < md_nL md) (ho : nol lv = true) (hs : stl lv i (.ref x) = lv') (kk : B E md d Q X (pc + 2) lv' st g k) : B E md d Q X pc lv (.ref x :: st) g k := by
  intro p l e R s m args below meth c H locs ls C hl hP hS
  exact lv_astore C.1 C.2.1 hd hl hn rfl (fun ls h => kk p l e R s m args below meth c H locs ls C (by rw [← hs]; exact stl_has (v := .ref x) ho h) hP hS)
theorem b_iinc {i : Nat} {n : Int} {x v : Int32} (hd : decode (md_cc md) pc = .ok (.iinc i n, 3)) (hk : lk lv i = some (.int x)) (hv : x + Int32.ofInt n = v) (hn : i < md_nL md) (ho : nol lv = true) (hs : stl lv i (.int v) = lv') (kk : B E md d Q X (pc + 3) lv' st g k) : B E md d Q X pc lv st g k := by
  intro p l e R s m args below meth c H locs ls C hl hP hS
  obtain ⟨j, hj⟩ := List.getElem?_of_mem (List.mem_map.mpr ⟨(i, Value.int x), lk_in hk, rfl⟩ : (i, Value.int x) ∈ lvc E lv)
  exact lv_iinc C.1 C.2.1 hd hl hj hv hn rfl (fun ls h => kk p l e R s m args below meth c H locs ls C (by rw [← hs]; exact stl_has (v := .int v) ho h) hP hS)
theorem b_if_eq {x : Int32} {off : Int} {tgt : Nat} (hd : decode (md_cc md) pc = .ok (.ifCond .eq off, 3)) (ht : (pc : Int) + off = (tgt : Int)) (kt : x = 0 → B E md d Q X tgt lv st g k) (kf : ¬ (x = 0) → B E md d Q X (pc + 3) lv st g k) : B E md d Q X pc lv (.int x :: st) g k := by
  intro p l e R s m args below meth c H locs ls C hl hP hS
  exact lv_if_eq C.1 C.2.1 hd ht (fun h => kt h p l e R s m args below meth c H locs ls C hl hP hS) (fun h => kf h p l e R s m args below meth c H locs ls C hl hP hS)
theorem b_icmp_eq {x y : Int32} {off : Int} {tgt : Nat} (hd : decode (md_cc md) pc = .ok (.if_icmp .eq off, 3)) (ht : (pc : Int) + off = (tgt : Int)) (kt : x = y → B E md d Q X tgt lv st g k) (kf : ¬ (x = y) → B E md d Q X (pc + 3) lv st g k) : B E md d Q X pc lv (.int y :: .int x :: st) g k := by
  intro p l e R s m args below meth c H locs ls C hl hP hS
  exact lv_icmp_eq C.1 C.2.1 hd ht (fun h => kt h p l e R s m args below meth c H locs ls C hl hP hS) (fun h => kf h p l e R s m args below meth c H locs ls C hl hP hS)
theorem b_if_ne {x : Int32} {off : Int} {tgt : Nat} (hd : decode (md_cc md) pc = .ok (.ifCond .ne off, 3)) (ht : (pc : Int) + off = (tgt : Int)) (kt : ¬ x = 0 → B E md d Q X tgt lv st g k) (kf : x = 0 → B E md d Q X (pc + 3) lv st g k) : B E md d Q X pc lv (.int x :: st) g k := by
  intro p l e R s m args below meth c H locs ls C hl hP hS
  exact lv_if_ne C.1 C.2.1 hd ht (fun h => kt h p l e R s m args below meth c H locs ls C hl hP hS) (fun h => kf h p l e R s m args below meth c H locs ls C hl hP hS)
theorem b_icmp_ne {x y : Int32} {off : Int} {tgt : Nat} (hd : decode (md_cc md) pc = .ok (.if_icmp .ne off, 3)) (ht : (pc : Int) + off = (tgt : Int)) (kt : ¬ x = y → B E md d Q X tgt lv st g k) (kf : x = y → B E md d Q X (pc + 3) lv st g k) : B E md d Q X pc lv (.int y :: .int x :: st) g k := by
  intro p l e R s m args below meth c H locs ls C hl hP hS
  exact lv_icmp_ne C.1 C.2.1 hd ht (fun h => kt h p l e R s m args below meth c H locs ls C hl hP hS) (fun h => kf h p l e R s m args below meth c H locs ls C hl hP hS)
theorem b_if_lt {x : Int32} {off : Int} {tgt : Nat} (hd : decode (md_cc md) pc = .ok (.ifCond .lt off, 3)) (ht : (pc : Int) + off = (tgt : Int)) (kt : x < 0 → B E md d Q X tgt lv st g k) (kf : ¬ (x < 0) → B E md d Q X (pc + 3) lv st g k) : B E md d Q X pc lv (.int x :: st) g k := by
  intro p l e R s m args below meth c H locs ls C hl hP hS
  exact lv_if_lt C.1 C.2.1 hd ht (fun h => kt h p l e R s m args below meth c H locs ls C hl hP hS) (fun h => kf h p l e R s m args below meth c H locs ls C hl hP hS)
theorem b_icmp_lt {x y : Int32} {off : Int} {tgt : Nat} (hd : decode (md_cc md) pc = .ok (.if_icmp .lt off, 3)) (ht : (pc : Int) + off = (tgt : Int)) (kt : x < y → B E md d Q X tgt lv st g k) (kf : ¬ (x < y) → B E md d Q X (pc + 3) lv st g k) : B E md d Q X pc lv (.int y :: .int x :: st) g k := by
  intro p l e R s m args below meth c H locs ls C hl hP hS
  exact lv_icmp_lt C.1 C.2.1 hd ht (fun h => kt h p l e R s m args below meth c H locs ls C hl hP hS) (fun h => kf h p l e R s m args below meth c H locs ls C hl hP hS)
theorem b_if_ge {x : Int32} {off : Int} {tgt : Nat} (hd : decode (md_cc md) pc = .ok (.ifCond .ge off, 3)) (ht : (pc : Int) + off = (tgt : Int)) (kt : 0 ≤ x → B E md d Q X tgt lv st g k) (kf : ¬ (0 ≤ x) → B E md d Q X (pc + 3) lv st g k) : B E md d Q X pc lv (.int x :: st) g k := by
  intro p l e R s m args below meth c H locs ls C hl hP hS
  exact lv_if_ge C.1 C.2.1 hd ht (fun h => kt h p l e R s m args below meth c H locs ls C hl hP hS) (fun h => kf h p l e R s m args below meth c H locs ls C hl hP hS)
theorem b_icmp_ge {x y : Int32} {off : Int} {tgt : Nat} (hd : decode (md_cc md) pc = .ok (.if_icmp .ge off, 3)) (ht : (pc : Int) + off = (tgt : Int)) (kt : y ≤ x → B E md d Q X tgt lv st g k) (kf : ¬ (y ≤ x) → B E md d Q X (pc + 3) lv st g k) : B E md d Q X pc lv (.int y :: .int x :: st) g k := by
  intro p l e R s m args below meth c H locs ls C hl hP hS
  exact lv_icmp_ge C.1 C.2.1 hd ht (fun h => kt h p l e R s m args below meth c H locs ls C hl hP hS) (fun h => kf h p l e R s m args below meth c H locs ls C hl hP hS)
theorem b_if_gt {x : Int32} {off : Int} {tgt : Nat} (hd : decode (md_cc md) pc = .ok (.ifCond .gt off, 3)) (ht : (pc : Int) + off = (tgt : Int)) (kt : 0 < x → B E md d Q X tgt lv st g k) (kf : ¬ (0 < x) → B E md d Q X (pc + 3) lv st g k) : B E md d Q X pc lv (.int x :: st) g k := by
  intro p l e R s m args below meth c H locs ls C hl hP hS
  exact lv_if_gt C.1 C.2.1 hd ht (fun h => kt h p l e R s m args below meth c H locs ls C hl hP hS) (fun h => kf h p l e R s m args below meth c H locs ls C hl hP hS)
theorem b_icmp_gt {x y : Int32} {off : Int} {tgt : Nat} (hd : decode (md_cc md) pc = .ok (.if_icmp .gt off, 3)) (ht : (pc : Int) + off = (tgt : Int)) (kt : y < x → B E md d Q X tgt lv st g k) (kf : ¬ (y < x) → B E md d Q X (pc + 3) lv st g k) : B E md d Q X pc lv (.int y :: .int x :: st) g k := by
  intro p l e R s m args below meth c H locs ls C hl hP hS
  exact lv_icmp_gt C.1 C.2.1 hd ht (fun h => kt h p l e R s m args below meth c H locs ls C hl hP hS) (fun h => kf h p l e R s m args below meth c H locs ls C hl hP hS)
theorem b_if_le {x : Int32} {off : Int} {tgt : Nat} (hd : decode (md_cc md) pc = .ok (.ifCond .le off, 3)) (ht : (pc : Int) + off = (tgt : Int)) (kt : x ≤ 0 → B E md d Q X tgt lv st g k) (kf : ¬ (x ≤ 0) → B E md d Q X (pc + 3) lv st g k) : B E md d Q X pc lv (.int x :: st) g k := by
  intro p l e R s m args below meth c H locs ls C hl hP hS
  exact lv_if_le C.1 C.2.1 hd ht (fun h => kt h p l e R s m args below meth c H locs ls C hl hP hS) (fun h => kf h p l e R s m args below meth c H locs ls C hl hP hS)
theorem b_icmp_le {x y : Int32} {off : Int} {tgt : Nat} (hd : decode (md_cc md) pc = .ok (.if_icmp .le off, 3)) (ht : (pc : Int) + off = (tgt : Int)) (kt : x ≤ y → B E md d Q X tgt lv st g k) (kf : ¬ (x ≤ y) → B E md d Q X (pc + 3) lv st g k) : B E md d Q X pc lv (.int y :: .int x :: st) g k := by
  intro p l e R s m args below meth c H locs ls C hl hP hS
  exact lv_icmp_le C.1 C.2.1 hd ht (fun h => kt h p l e R s m args below meth c H locs ls C hl hP hS) (fun h => kf h p l e R s m args below meth c H locs ls C hl hP hS)
theorem b_goto {off : Int} {tgt : Nat} (hd : decode (md_cc md) pc = .ok (.goto off, 3)) (ht : (pc : Int) + off = (tgt : Int)) (kk : B E md d Q X tgt lv st g k) : B E md d Q X pc lv st g k := by
  intro p l e R s m args below meth c H locs ls C hl hP hS
  exact lv_goto C.1 C.2.1 hd ht (kk p l e R s m args below meth c H locs ls C hl hP hS)
theorem b_tableOut {dflt lo hi : Int} {offs : Array Int} {len : Nat} {x : Int32} {tgt : Nat} (hd : decode (md_cc md) pc = .ok (.tableswitch dflt lo hi offs, len)) (h : x.toInt < lo ∨ hi < x.toInt) (ht : (pc : Int) + dflt = (tgt : Int)) (kk : B E md d Q X tgt lv st g k) : B E md d Q X pc lv (.int x :: st) g k := by
  intro p l e R s m args below meth c H locs ls C hl hP hS
  exact lv_tableOut C.1 C.2.1 hd h ht (kk p l e R s m args below meth c H locs ls C hl hP hS)
theorem b_tableIn {dflt lo hi : Int} {offs : Array Int} {len : Nat} {x : Int32} {off : Int} {tgt : Nat} (hd : decode (md_cc md) pc = .ok (.tableswitch dflt lo hi offs, len)) (h1 : ¬ x.toInt < lo) (h2 : ¬ hi < x.toInt) (ho : offs[(x.toInt - lo).toNat]? = some off) (ht : (pc : Int) + off = (tgt : Int)) (kk : B E md d Q X tgt lv st g k) : B E md d Q X pc lv (.int x :: st) g k := by
  intro p l e R s m args below meth c H locs ls C hl hP hS
  exact lv_tableIn C.1 C.2.1 hd h1 h2 ho ht (kk p l e R s m args below meth c H locs ls C hl hP hS)
theorem b_lookup {dflt : Int} {ps : Array (Int × Int)} {len : Nat} {x : Int32} {off : Int} {tgt : Nat} (hd : decode (md_cc md) pc = .ok (.lookupswitch dflt ps, len)) (hp : (ps.toList.zip (ps.toList.drop 1)).all (fun (a, next) => a.1 < next.1) = true) (ho : Op.lookupswitch.offset ps.toList dflt x.toInt = off) (ht : (pc : Int) + off = (tgt : Int)) (kk : B E md d Q X tgt lv st g k) : B E md d Q X pc lv (.int x :: st) g k := by
  intro p l e R s m args below meth c H locs ls C hl hP hS
  exact lv_lookup C.1 C.2.1 hd hp ho ht (kk p l e R s m args below meth c H locs ls C hl hP hS)
theorem b_iald {a : Nat} {i : Int32} (hd : decode (md_cc md) pc = .ok (.iaload, 1)) (hin : vp_in i (iln a)) (kk : B E md d Q X (pc + 1) lv (.int (g a i.toNatClampNeg) :: st) g k) : B E md d Q X pc lv (.int i :: .ref a :: st) g k := by
  intro p l e R s m args below meth c H locs ls C hl hP hS
  have h0 : 0 < iln a := vp_in_pos hin
  have hc : (wl E g)[a]? = some (E.1 a, .inl (E.2.2.1.1, iln a, .inl (g a))) := by rw [wl_at (iln_lt h0), cel_i h0]
  exact va_iald C.1 C.2.1 C.2.2.2.2.2.2.2.1 hP a 0 hc rfl hin hd (kk p l e R s m args below meth c H locs ls C hl hP hS)
theorem b_bald {a : Nat} {i : Int32} (hd : decode (md_cc md) pc = .ok (.baload, 1)) (hin : vp_in i (bln a)) (kk : B E md d Q X (pc + 1) lv (.int (g a i.toNatClampNeg) :: st) g k) : B E md d Q X pc lv (.int i :: .ref a :: st) g k := by
  intro p l e R s m args below meth c H locs ls C hl hP hS
  have h0 : 0 < bln a := vp_in_pos hin
  have hc : (wl E g)[a]? = some (E.1 a, .inl (E.2.2.1.2.1, bln a, .inl (g a))) := by rw [wl_at (bln_lt h0), cel_b h0]
  exact va_bald C.1 C.2.1 C.2.2.2.2.2.2.2.1 hP a 1 hc rfl hin hd (kk p l e R s m args below meth c H locs ls C hl hP hS)
theorem b_sald {a : Nat} {i : Int32} (hd : decode (md_cc md) pc = .ok (.aaload, 1)) (hin : vp_in i (sln a)) (kk : B E md d Q X (pc + 1) lv (.ref (1000 + sof a + i.toNatClampNeg) :: st) g k) : B E md d Q X pc lv (.int i :: .ref a :: st) g k := by
  intro p l e R s m args below meth c H locs ls C hl hP hS
  have h0 : 0 < sln a := vp_in_pos hin
  have hc : (wl E g)[a]? = some (E.1 a, .inl (E.2.2.1.2.2, sln a, .inr (.inr (.inr (.inr (fun j => some (E.1 (1000 + sof a + j)))))))) := by rw [wl_at (sln_lt h0), cel_s h0]
  exact va_aldq C.1 C.2.1 C.2.2.2.2.2.2.2.1 hP a 2 hc rfl hin hd (kk p l e R s m args below meth c H locs ls C hl hP hS)
theorem b_iast {a : Nat} {i x : Int32} (hd : decode (md_cc md) pc = .ok (.iastore, 1)) (hin : vp_in i (iln a)) (kk : B E md d Q X (pc + 1) lv st (up2 g a i.toNatClampNeg x) k) : B E md d Q X pc lv (.int x :: .int i :: .ref a :: st) g k := by
  intro p l e R s m args below meth c H locs ls C hl hP hS
  have h0 : 0 < iln a := vp_in_pos hin
  have hc : (wl E g)[a]? = some (E.1 a, .inl (E.2.2.1.1, iln a, .inl (g a))) := by rw [wl_at (iln_lt h0), cel_i h0]
  refine va_iast C.1 C.2.1 C.2.2.2.2.2.2.2.1 hP (wl_D C.2.2.2.2.2.2.2.2.2.2.1 (fun i h => AD_in h)) hS a 0 hc rfl hin hd (fun H locs hP hD hS => ?_)
  rw [wl_setG (g' := up2 g a i.toNatClampNeg x) (iln_lt h0) (fun j hj => up2_f g a _ x hj) (by rw [cel_i h0, up2_u])] at hP
  exact kk p l e R s m args below meth c H locs ls C hl hP hS
theorem b_bast {a : Nat} {i x : Int32} (hd : decode (md_cc md) pc = .ok (.bastore, 1)) (hin : vp_in i (bln a)) (kk : B E md d Q X (pc + 1) lv st (up2 g a i.toNatClampNeg (vp_nar .byte x)) k) : B E md d Q X pc lv (.int x :: .int i :: .ref a :: st) g k := by
  intro p l e R s m args below meth c H locs ls C hl hP hS
  have h0 : 0 < bln a := vp_in_pos hin
  have hc : (wl E g)[a]? = some (E.1 a, .inl (E.2.2.1.2.1, bln a, .inl (g a))) := by rw [wl_at (bln_lt h0), cel_b h0]
  refine va_bast C.1 C.2.1 C.2.2.2.2.2.2.2.1 hP (wl_D C.2.2.2.2.2.2.2.2.2.2.1 (fun i h => AD_in h)) hS a 1 hc rfl hin hd (fun H locs hP hD hS => ?_)
  rw [wl_setG (g' := up2 g a i.toNatClampNeg (vp_nar .byte x)) (bln_lt h0) (fun j hj => up2_f g a _ _ hj) (by rw [cel_b h0, up2_u])] at hP
  exact kk p l e R s m args below meth c H locs ls C hl hP hS
theorem b_ilen {a n : Nat} (hd : decode (md_cc md) pc = .ok (.arraylength, 1)) (hn : iln a = n) (h0 : 0 < n) (kk : B E md d Q X (pc + 1) lv (.int (nI n) :: st) g k) : B E md d Q X pc lv (.ref a :: st) g k := by
  intro p l e R s m args below meth c H locs ls C hl hP hS
  subst hn
  have hc : (wl E g)[a]? = some (E.1 a, .inl (E.2.2.1.1, iln a, .inl (g a))) := by rw [wl_at (iln_lt h0), cel_i h0]
  exact va_alen (v := nI (iln a)) C.1 C.2.1 C.2.2.2.2.2.2.2.1 hP a 0 hc rfl rfl hd (kk p l e R s m args below meth c H locs ls C hl hP hS)
theorem b_slen {a n : Nat} (hd : decode (md_cc md) pc = .ok (.arraylength, 1)) (hn : sln a = n) (h0 : 0 < n) (kk : B E md d Q X (pc + 1) lv (.int (nI n) :: st) g k) : B E md d Q X pc lv (.ref a :: st) g k := by
  intro p l e R s m args below meth c H locs ls C hl hP hS
  subst hn
  have hc : (wl E g)[a]? = some (E.1 a, .inl (E.2.2.1.2.2, sln a, .inr (.inr (.inr (.inr (fun j => some (E.1 (1000 + sof a + j)))))))) := by rw [wl_at (sln_lt h0), cel_s h0]
  exact va_alen (v := nI (sln a)) C.1 C.2.1 C.2.2.2.2.2.2.2.1 hP a 2 hc rfl rfl hd (kk p l e R s m args below meth c H locs ls C hl hP hS)
end Rules
