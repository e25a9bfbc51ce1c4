theorem cl_S : Cond.classLink RX12 9 "java/lang/String" ∈ lw_g := lw_mem 1370 (by decide +kernel) (by decide +kernel)
def t12 (E : En) (f : Nat → Nat) : va_W := [((f 0), .inr (12, [.ref (f 1), .ref (f 2), .int 0, .ref (f 3), .ref (f 4), .ref (f 5), .ref (f 6), .ref (f 7), .ref (f 8), .ref (f 9), .ref (f 10), .ref (f 11), .ref (f 12), .ref (f 13), .ref (f 14), .int 0, .int 0, .int 0, .int 0, .int 0, .int 0, .int 0, .int 0, .int 0, .int (-1), .ref (f 15), .ref (f 16), .ref (f 17), .ref (f 18), .ref (f 19), .int 0, .int 0, .int 0, .int 0, .int 0, .int 0, .int 0, .int 0, .int 0, .ref (f 20), .ref (f 21), .ref (f 22), .ref (f 23), .ref (f 24), .int (-1), .ref (f 25), .int 0, .int 0, .ref (f 26), .ref (f 27), .ref (f 28), .ref (f 29), .ref (f 30), .ref (f 31), .ref (f 32), .ref (f 33), .ref (f 34), .int 0, .int 0, .int 0, .int 0, .ref (f 35), .ref (f 36), .ref (f 37), .ref (f 38), .ref (f 39), .ref (f 40), .ref (f 41), .ref (f 42)])), ((f 1), .inl (E.2.2.1.2.2, 4, .inr (.inr (.inr (.inr (va_up (va_up (va_up (va_up (fun _ => none) 0 (some (E.1 (1000 + 0)))) 1 (some (E.1 (1000 + 1)))) 2 (some (E.1 (1000 + 2)))) 3 (some (E.1 (1000 + 3))))))))), ((f 2), .inl (E.2.2.1.2.2, 7, .inr (.inr (.inr (.inr (va_up (va_up (va_up (va_up (va_up (va_up (va_up (fun _ => none) 0 (some (E.1 (1000 + 4)))) 1 (some (E.1 (1000 + 5)))) 2 (some (E.1 (1000 + 6)))) 3 (some (E.1 (1000 + 7)))) 4 (some (E.1 (1000 + 8)))) 5 (some (E.1 (1000 + 9)))) 6 (some (E.1 (1000 + 10))))))))), ((f 3), .inl (E.2.2.1.1, 10, .inl (fun _ => 0))), ((f 4), .inl (E.2.2.1.1, 16, .inl (fun _ => 0))), ((f 5), .inl (E.2.2.1.1, 16, .inl (fun _ => 0))), ((f 6), .inl (E.2.2.1.1, 16, .inl (fun _ => 0))), ((f 7), .inl (E.2.2.1.1, 16, .inl (fun _ => 0))), ((f 8), .inl (E.2.2.1.1, 12, .inl (fun _ => 0))), ((f 9), .inl (E.2.2.1.1, 12, .inl (fun _ => 0))), ((f 10), .inl (E.2.2.1.1, 48, .inl (fun _ => 0))), ((f 11), .inl (E.2.2.1.1, 1200, .inl (fun _ => 0))), ((f 12), .inl (E.2.2.1.1, 3, .inl (fun _ => 0))), ((f 13), .inl (E.2.2.1.1, 8, .inl (fun _ => 0))), ((f 14), .inl (E.2.2.1.1, 600, .inl (fun _ => 0))), ((f 15), .inl (E.2.2.1.1, 8, .inl (fun _ => 0))), ((f 16), .inl (E.2.2.1.1, 8, .inl (fun _ => 0))), ((f 17), .inl (E.2.2.1.1, 6, .inl (fun _ => 0))), ((f 18), .inl (E.2.2.1.1, 6, .inl (fun _ => 0))), ((f 19), .inl (E.2.2.1.1, 1400, .inl (fun _ => 0))), ((f 20), .inl (E.2.2.1.1, 400, .inl (fun _ => 0))), ((f 21), .inl (E.2.2.1.1, 400, .inl (fun _ => 0))), ((f 22), .inl (E.2.2.1.1, 400, .inl (fun _ => 0))), ((f 23), .inl (E.2.2.1.1, 7, .inl (fun _ => 0))), ((f 24), .inl (E.2.2.1.1, 64, .inl (fun _ => 0))), ((f 25), .inl (E.2.2.1.1, 7, .inl (fun _ => 0))), ((f 26), .inl (E.2.2.1.1, 25, .inl (fun _ => 0))), ((f 27), .inl (E.2.2.1.1, 25, .inl (fun _ => 0))), ((f 28), .inl (E.2.2.1.1, 35, .inl (fun _ => 0))), ((f 29), .inl (E.2.2.1.1, 8, .inl (fun _ => 0))), ((f 30), .inl (E.2.2.1.1, 8, .inl (fun _ => 0))), ((f 31), .inl (E.2.2.1.1, 35, .inl (fun _ => 0))), ((f 32), .inl (E.2.2.1.1, 60, .inl (fun _ => 0))), ((f 33), .inl (E.2.2.1.1, 81, .inl (fun _ => 0))), ((f 34), .inl (E.2.2.1.1, 81, .inl (fun _ => 0))), ((f 35), .inl (E.2.2.1.1, 35, .inl (fun _ => 0))), ((f 36), .inl (E.2.2.1.1, 1400, .inl (fun _ => 0))), ((f 37), .inl (E.2.2.1.1, 400, .inl (fun _ => 0))), ((f 38), .inl (E.2.2.1.1, 400, .inl (fun _ => 0))), ((f 39), .inl (E.2.2.1.1, 400, .inl (fun _ => 0))), ((f 40), .inl (E.2.2.1.1, 8, .inl (fun _ => 0))), ((f 41), .inl (E.2.2.1.1, 8, .inl (fun _ => 0))), ((f 42), .inl (E.2.2.1.1, 3, .inl (fun _ => 0)))]
def PX12 (E : En) : PT := fun q w => ∃ f : Nat → Nat, f 0 = q ∧ w = t12 E f
theorem s12_6 {E : En} {h q1 q2 q3 q4 q5 q6 q7 q8 q9 q10 q11 q12 q13 q14 q15 q16 q17 q18 q19 q20 q21 q22 q23 q24 q25 q26 q27 q28 q29 q30 q31 q32 q33 q34 q35 q36 q37 q38 : Nat} : KB E 12 RX12 cX12_init 1 42 7686 (PX12 E) h 383 [] [.ref q1, .ref q2, .int 0, .ref q3, .ref q4, .ref q5, .ref q6, .ref q7, .ref q8, .ref q9, .ref q10, .ref q11, .ref q12, .ref q13, .ref q14, .int 0, .int 0, .int 0, .int 0, .int 0, .int 0, .int 0, .int 0, .int 0, .int (-1), .ref q15, .ref q16, .ref q17, .ref q18, .ref q19, .int 0, .int 0, .int 0, .int 0, .int 0, .int 0, .int 0, .int 0, .int 0, .ref q20, .ref q21, .ref q22, .ref q23, .ref q24, .int (-1), .ref q25, .int 0, .int 0, .ref q26, .ref q27, .ref q28, .ref q29, .ref q30, .ref q31, .ref q32, .ref q33, .ref q34, .int 0, .int 0, .int 0, .int 0, .ref q35, .ref q36, .ref q37, .ref q38, .null, .null, .null, .null] [(q1, .inl (E.2.2.1.2.2, 4, .inr (.inr (.inr (.inr (va_up (va_up (va_up (va_up (fun _ => none) 0 (some (E.1 (1000 + 0)))) 1 (some (E.1 (1000 + 1)))) 2 (some (E.1 (1000 + 2)))) 3 (some (E.1 (1000 + 3))))))))), (q2, .inl (E.2.2.1.2.2, 7, .inr (.inr (.inr (.inr (va_up (va_up (va_up (va_up (va_up (va_up (va_up (fun _ => none) 0 (some (E.1 (1000 + 4)))) 1 (some (E.1 (1000 + 5)))) 2 (some (E.1 (1000 + 6)))) 3 (some (E.1 (1000 + 7)))) 4 (some (E.1 (1000 + 8)))) 5 (some (E.1 (1000 + 9)))) 6 (some (E.1 (1000 + 10))))))))), (q3, .inl (E.2.2.1.1, 10, .inl (fun _ => 0))), (q4, .inl (E.2.2.1.1, 16, .inl (fun _ => 0))), (q5, .inl (E.2.2.1.1, 16, .inl (fun _ => 0))), (q6, .inl (E.2.2.1.1, 16, .inl (fun _ => 0))), (q7, .inl (E.2.2.1.1, 16, .inl (fun _ => 0))), (q8, .inl (E.2.2.1.1, 12, .inl (fun _ => 0))), (q9, .inl (E.2.2.1.1, 12, .inl (fun _ => 0))), (q10, .inl (E.2.2.1.1, 48, .inl (fun _ => 0))), (q11, .inl (E.2.2.1.1, 1200, .inl (fun _ => 0))), (q12, .inl (E.2.2.1.1, 3, .inl (fun _ => 0))), (q13, .inl (E.2.2.1.1, 8, .inl (fun _ => 0))), (q14, .inl (E.2.2.1.1, 600, .inl (fun _ => 0))), (q15, .inl (E.2.2.1.1, 8, .inl (fun _ => 0))), (q16, .inl (E.2.2.1.1, 8, .inl (fun _ => 0))), (q17, .inl (E.2.2.1.1, 6, .inl (fun _ => 0))), (q18, .inl (E.2.2.1.1, 6, .inl (fun _ => 0))), (q19, .inl (E.2.2.1.1, 1400, .inl (fun _ => 0))), (q20, .inl (E.2.2.1.1, 400, .inl (fun _ => 0))), (q21, .inl (E.2.2.1.1, 400, .inl (fun _ => 0))), (q22, .inl (E.2.2.1.1, 400, .inl (fun _ => 0))), (q23, .inl (E.2.2.1.1, 7, .inl (fun _ => 0))), (q24, .inl (E.2.2.1.1, 64, .inl (fun _ => 0))), (q25, .inl (E.2.2.1.1, 7, .inl (fun _ => 0))), (q26, .inl (E.2.2.1.1, 25, .inl (fun _ => 0))), (q27, .inl (E.2.2.1.1, 25, .inl (fun _ => 0))), (q28, .inl (E.2.2.1.1, 35, .inl (fun _ => 0))), (q29, .inl (E.2.2.1.1, 8, .inl (fun _ => 0))), (q30, .inl (E.2.2.1.1, 8, .inl (fun _ => 0))), (q31, .inl (E.2.2.1.1, 35, .inl (fun _ => 0))), (q32, .inl (E.2.2.1.1, 60, .inl (fun _ => 0))), (q33, .inl (E.2.2.1.1, 81, .inl (fun _ => 0))), (q34, .inl (E.2.2.1.1, 81, .inl (fun _ => 0))), (q35, .inl (E.2.2.1.1, 35, .inl (fun _ => 0))), (q36, .inl (E.2.2.1.1, 1400, .inl (fun _ => 0))), (q37, .inl (E.2.2.1.1, 400, .inl (fun _ => 0))), (q38, .inl (E.2.2.1.1, 400, .inl (fun _ => 0)))] 38 7267 := by
  refine k_ld dX12_init_383 ?_
  refine k_si (400) dX12_init_384 (by decide +kernel) ?_
  refine k_newI 400 dX12_init_387 (by decide +kernel) (by decide +kernel) (by decide) (by decide +kernel) (by decide +kernel) ac_int (fun q39 => ?_)
  refine k_put (k := 65) (ty := (.array .int)) lf_X12_153 rfl (by decide +kernel) rfl rfl (Nat.le_of_ble_eq_true rfl) dX12_init_389 ?_
  refine k_ld dX12_init_392 ?_
  refine k_bi (8) dX12_init_393 (by decide +kernel) ?_
  refine k_newI 8 dX12_init_395 (by decide +kernel) (by decide +kernel) (by decide) (by decide +kernel) (by decide +kernel) ac_int (fun q40 => ?_)
  refine k_put (k := 66) (ty := (.array .int)) lf_X12_156 rfl (by decide +kernel) rfl rfl (Nat.le_of_ble_eq_true rfl) dX12_init_397 ?_
  refine k_ld dX12_init_400 ?_
  refine k_bi (8) dX12_init_401 (by decide +kernel) ?_
  refine k_newI 8 dX12_init_403 (by decide +kernel) (by decide +kernel) (by decide) (by decide +kernel) (by decide +kernel) ac_int (fun q41 => ?_)
  refine k_put (k := 67) (ty := (.array .int)) lf_X12_159 rfl (by decide +kernel) rfl rfl (Nat.le_of_ble_eq_true rfl) dX12_init_405 ?_
  refine k_ld dX12_init_408 ?_
  refine k_ic (3) dX12_init_409 (by decide +kernel) ?_
  refine k_newI 3 dX12_init_410 (by decide +kernel) (by decide +kernel) (by decide) (by decide +kernel) (by decide +kernel) ac_int (fun q42 => ?_)
  refine k_put (k := 68) (ty := (.array .int)) lf_X12_162 rfl (by decide +kernel) rfl rfl (Nat.le_of_ble_eq_true rfl) dX12_init_412 ?_
  exact k_ret dX12_init_415 (by decide +kernel) (by decide +kernel) ⟨fun i => nthN [h, q1, q2, q3, q4, q5, q6, q7, q8, q9, q10, q11, q12, q13, q14, q15, q16, q17, q18, q19, q20, q21, q22, q23, q24, q25, q26, q27, q28, q29, q30, q31, q32, q33, q34, q35, q36, q37, q38, q39, q40, q41, q42] i 0, rfl, rfl⟩
theorem s12_5 {E : En} {h q1 q2 q3 q4 q5 q6 q7 q8 q9 q10 q11 q12 q13 q14 q15 q16 q17 q18 q19 q20 q21 q22 q23 q24 q25 q26 q27 q28 q29 q30 : Nat} : KB E 12 RX12 cX12_init 1 42 7686 (PX12 E) h 316 [] [.ref q1, .ref q2, .int 0, .ref q3, .ref q4, .ref q5, .ref q6, .ref q7, .ref q8, .ref q9, .ref q10, .ref q11, .ref q12, .ref q13, .ref q14, .int 0, .int 0, .int 0, .int 0, .int 0, .int 0, .int 0, .int 0, .int 0, .int (-1), .ref q15, .ref q16, .ref q17, .ref q18, .ref q19, .int 0, .int 0, .int 0, .int 0, .int 0, .int 0, .int 0, .int 0, .int 0, .ref q20, .ref q21, .ref q22, .ref q23, .ref q24, .int (-1), .ref q25, .int 0, .int 0, .ref q26, .ref q27, .ref q28, .ref q29, .ref q30, .null, .null, .null, .null, .int 0, .int 0, .int 0, .int 0, .null, .null, .null, .null, .null, .null, .null, .null] [(q1, .inl (E.2.2.1.2.2, 4, .inr (.inr (.inr (.inr (va_up (va_up (va_up (va_up (fun _ => none) 0 (some (E.1 (1000 + 0)))) 1 (some (E.1 (1000 + 1)))) 2 (some (E.1 (1000 + 2)))) 3 (some (E.1 (1000 + 3))))))))), (q2, .inl (E.2.2.1.2.2, 7, .inr (.inr (.inr (.inr (va_up (va_up (va_up (va_up (va_up (va_up (va_up (fun _ => none) 0 (some (E.1 (1000 + 4)))) 1 (some (E.1 (1000 + 5)))) 2 (some (E.1 (1000 + 6)))) 3 (some (E.1 (1000 + 7)))) 4 (some (E.1 (1000 + 8)))) 5 (some (E.1 (1000 + 9)))) 6 (some (E.1 (1000 + 10))))))))), (q3, .inl (E.2.2.1.1, 10, .inl (fun _ => 0))), (q4, .inl (E.2.2.1.1, 16, .inl (fun _ => 0))), (q5, .inl (E.2.2.1.1, 16, .inl (fun _ => 0))), (q6, .inl (E.2.2.1.1, 16, .inl (fun _ => 0))), (q7, .inl (E.2.2.1.1, 16, .inl (fun _ => 0))), (q8, .inl (E.2.2.1.1, 12, .inl (fun _ => 0))), (q9, .inl (E.2.2.1.1, 12, .inl (fun _ => 0))), (q10, .inl (E.2.2.1.1, 48, .inl (fun _ => 0))), (q11, .inl (E.2.2.1.1, 1200, .inl (fun _ => 0))), (q12, .inl (E.2.2.1.1, 3, .inl (fun _ => 0))), (q13, .inl (E.2.2.1.1, 8, .inl (fun _ => 0))), (q14, .inl (E.2.2.1.1, 600, .inl (fun _ => 0))), (q15, .inl (E.2.2.1.1, 8, .inl (fun _ => 0))), (q16, .inl (E.2.2.1.1, 8, .inl (fun _ => 0))), (q17, .inl (E.2.2.1.1, 6, .inl (fun _ => 0))), (q18, .inl (E.2.2.1.1, 6, .inl (fun _ => 0))), (q19, .inl (E.2.2.1.1, 1400, .inl (fun _ => 0))), (q20, .inl (E.2.2.1.1, 400, .inl (fun _ => 0))), (q21, .inl (E.2.2.1.1, 400, .inl (fun _ => 0))), (q22, .inl (E.2.2.1.1, 400, .inl (fun _ => 0))), (q23, .inl (E.2.2.1.1, 7, .inl (fun _ => 0))), (q24, .inl (E.2.2.1.1, 64, .inl (fun _ => 0))), (q25, .inl (E.2.2.1.1, 7, .inl (fun _ => 0))), (q26, .inl (E.2.2.1.1, 25, .inl (fun _ => 0))), (q27, .inl (E.2.2.1.1, 25, .inl (fun _ => 0))), (q28, .inl (E.2.2.1.1, 35, .inl (fun _ => 0))), (q29, .inl (E.2.2.1.1, 8, .inl (fun _ => 0))), (q30, .inl (E.2.2.1.1, 8, .inl (fun _ => 0)))] 30 4775 := by
  refine k_ld dX12_init_316 ?_
  refine k_bi (35) dX12_init_317 (by decide +kernel) ?_
  refine k_newI 35 dX12_init_319 (by decide +kernel) (by decide +kernel) (by decide) (by decide +kernel) (by decide +kernel) ac_int (fun q31 => ?_)
  refine k_put (k := 53) (ty := (.array .int)) lf_X12_129 rfl (by decide +kernel) rfl rfl (Nat.le_of_ble_eq_true rfl) dX12_init_321 ?_
  refine k_ld dX12_init_324 ?_
  refine k_bi (60) dX12_init_325 (by decide +kernel) ?_
  refine k_newI 60 dX12_init_327 (by decide +kernel) (by decide +kernel) (by decide) (by decide +kernel) (by decide +kernel) ac_int (fun q32 => ?_)
  refine k_put (k := 54) (ty := (.array .int)) lf_X12_132 rfl (by decide +kernel) rfl rfl (Nat.le_of_ble_eq_true rfl) dX12_init_329 ?_
  refine k_ld dX12_init_332 ?_
  refine k_bi (81) dX12_init_333 (by decide +kernel) ?_
  refine k_newI 81 dX12_init_335 (by decide +kernel) (by decide +kernel) (by decide) (by decide +kernel) (by decide +kernel) ac_int (fun q33 => ?_)
  refine k_put (k := 55) (ty := (.array .int)) lf_X12_135 rfl (by decide +kernel) rfl rfl (Nat.le_of_ble_eq_true rfl) dX12_init_337 ?_
  refine k_ld dX12_init_340 ?_
  refine k_bi (81) dX12_init_341 (by decide +kernel) ?_
  refine k_newI 81 dX12_init_343 (by decide +kernel) (by decide +kernel) (by decide) (by decide +kernel) (by decide +kernel) ac_int (fun q34 => ?_)
  refine k_put (k := 56) (ty := (.array .int)) lf_X12_138 rfl (by decide +kernel) rfl rfl (Nat.le_of_ble_eq_true rfl) dX12_init_345 ?_
  refine k_ld dX12_init_348 ?_
  refine k_bi (35) dX12_init_349 (by decide +kernel) ?_
  refine k_newI 35 dX12_init_351 (by decide +kernel) (by decide +kernel) (by decide) (by decide +kernel) (by decide +kernel) ac_int (fun q35 => ?_)
  refine k_put (k := 61) (ty := (.array .int)) lf_X12_141 rfl (by decide +kernel) rfl rfl (Nat.le_of_ble_eq_true rfl) dX12_init_353 ?_
  refine k_ld dX12_init_356 ?_
  refine k_si (1400) dX12_init_357 (by decide +kernel) ?_
  refine k_newI 1400 dX12_init_360 (by decide +kernel) (by decide +kernel) (by decide) (by decide +kernel) (by decide +kernel) ac_int (fun q36 => ?_)
  refine k_put (k := 62) (ty := (.array .int)) lf_X12_144 rfl (by decide +kernel) rfl rfl (Nat.le_of_ble_eq_true rfl) dX12_init_362 ?_
  refine k_ld dX12_init_365 ?_
  refine k_si (400) dX12_init_366 (by decide +kernel) ?_
  refine k_newI 400 dX12_init_369 (by decide +kernel) (by decide +kernel) (by decide) (by decide +kernel) (by decide +kernel) ac_int (fun q37 => ?_)
  refine k_put (k := 63) (ty := (.array .int)) lf_X12_147 rfl (by decide +kernel) rfl rfl (Nat.le_of_ble_eq_true rfl) dX12_init_371 ?_
  refine k_ld dX12_init_374 ?_
  refine k_si (400) dX12_init_375 (by decide +kernel) ?_
  refine k_newI 400 dX12_init_378 (by decide +kernel) (by decide +kernel) (by decide) (by decide +kernel) (by decide +kernel) ac_int (fun q38 => ?_)
  refine k_put (k := 64) (ty := (.array .int)) lf_X12_150 rfl (by decide +kernel) rfl rfl (Nat.le_of_ble_eq_true rfl) dX12_init_380 ?_
  exact s12_6
theorem s12_4 {E : En} {h q1 q2 q3 q4 q5 q6 q7 q8 q9 q10 q11 q12 q13 q14 q15 q16 q17 q18 q19 q20 q21 q22 q23 : Nat} : KB E 12 RX12 cX12_init 1 42 7686 (PX12 E) h 255 [] [.ref q1, .ref q2, .int 0, .ref q3, .ref q4, .ref q5, .ref q6, .ref q7, .ref q8, .ref q9, .ref q10, .ref q11, .ref q12, .ref q13, .ref q14, .int 0, .int 0, .int 0, .int 0, .int 0, .int 0, .int 0, .int 0, .int 0, .int (-1), .ref q15, .ref q16, .ref q17, .ref q18, .ref q19, .int 0, .int 0, .int 0, .int 0, .int 0, .int 0, .int 0, .int 0, .int 0, .ref q20, .ref q21, .ref q22, .ref q23, .null, .int 0, .null, .int 0, .int 0, .null, .null, .null, .null, .null, .null, .null, .null, .null, .int 0, .int 0, .int 0, .int 0, .null, .null, .null, .null, .null, .null, .null, .null] [(q1, .inl (E.2.2.1.2.2, 4, .inr (.inr (.inr (.inr (va_up (va_up (va_up (va_up (fun _ => none) 0 (some (E.1 (1000 + 0)))) 1 (some (E.1 (1000 + 1)))) 2 (some (E.1 (1000 + 2)))) 3 (some (E.1 (1000 + 3))))))))), (q2, .inl (E.2.2.1.2.2, 7, .inr (.inr (.inr (.inr (va_up (va_up (va_up (va_up (va_up (va_up (va_up (fun _ => none) 0 (some (E.1 (1000 + 4)))) 1 (some (E.1 (1000 + 5)))) 2 (some (E.1 (1000 + 6)))) 3 (some (E.1 (1000 + 7)))) 4 (some (E.1 (1000 + 8)))) 5 (some (E.1 (1000 + 9)))) 6 (some (E.1 (1000 + 10))))))))), (q3, .inl (E.2.2.1.1, 10, .inl (fun _ => 0))), (q4, .inl (E.2.2.1.1, 16, .inl (fun _ => 0))), (q5, .inl (E.2.2.1.1, 16, .inl (fun _ => 0))), (q6, .inl (E.2.2.1.1, 16, .inl (fun _ => 0))), (q7, .inl (E.2.2.1.1, 16, .inl (fun _ => 0))), (q8, .inl (E.2.2.1.1, 12, .inl (fun _ => 0))), (q9, .inl (E.2.2.1.1, 12, .inl (fun _ => 0))), (q10, .inl (E.2.2.1.1, 48, .inl (fun _ => 0))), (q11, .inl (E.2.2.1.1, 1200, .inl (fun _ => 0))), (q12, .inl (E.2.2.1.1, 3, .inl (fun _ => 0))), (q13, .inl (E.2.2.1.1, 8, .inl (fun _ => 0))), (q14, .inl (E.2.2.1.1, 600, .inl (fun _ => 0))), (q15, .inl (E.2.2.1.1, 8, .inl (fun _ => 0))), (q16, .inl (E.2.2.1.1, 8, .inl (fun _ => 0))), (q17, .inl (E.2.2.1.1, 6, .inl (fun _ => 0))), (q18, .inl (E.2.2.1.1, 6, .inl (fun _ => 0))), (q19, .inl (E.2.2.1.1, 1400, .inl (fun _ => 0))), (q20, .inl (E.2.2.1.1, 400, .inl (fun _ => 0))), (q21, .inl (E.2.2.1.1, 400, .inl (fun _ => 0))), (q22, .inl (E.2.2.1.1, 400, .inl (fun _ => 0))), (q23, .inl (E.2.2.1.1, 7, .inl (fun _ => 0)))] 23 4603 := by
  refine k_ld dX12_init_255 ?_
  refine k_bi (64) dX12_init_256 (by decide +kernel) ?_
  refine k_newI 64 dX12_init_258 (by decide +kernel) (by decide +kernel) (by decide) (by decide +kernel) (by decide +kernel) ac_int (fun q24 => ?_)
  refine k_put (k := 43) (ty := (.array .int)) lf_X12_105 rfl (by decide +kernel) rfl rfl (Nat.le_of_ble_eq_true rfl) dX12_init_260 ?_
  refine k_ld dX12_init_263 ?_
  refine k_ic (-1) dX12_init_264 (by decide +kernel) ?_
  refine k_put (k := 44) (ty := .int) lf_X12_108 rfl (by decide +kernel) rfl rfl (Nat.le_of_ble_eq_true rfl) dX12_init_265 ?_
  refine k_ld dX12_init_268 ?_
  refine k_bi (7) dX12_init_269 (by decide +kernel) ?_
  refine k_newI 7 dX12_init_271 (by decide +kernel) (by decide +kernel) (by decide) (by decide +kernel) (by decide +kernel) ac_int (fun q25 => ?_)
  refine k_put (k := 45) (ty := (.array .int)) lf_X12_111 rfl (by decide +kernel) rfl rfl (Nat.le_of_ble_eq_true rfl) dX12_init_273 ?_
  refine k_ld dX12_init_276 ?_
  refine k_bi (25) dX12_init_277 (by decide +kernel) ?_
  refine k_newI 25 dX12_init_279 (by decide +kernel) (by decide +kernel) (by decide) (by decide +kernel) (by decide +kernel) ac_int (fun q26 => ?_)
  refine k_put (k := 48) (ty := (.array .int)) lf_X12_114 rfl (by decide +kernel) rfl rfl (Nat.le_of_ble_eq_true rfl) dX12_init_281 ?_
  refine k_ld dX12_init_284 ?_
  refine k_bi (25) dX12_init_285 (by decide +kernel) ?_
  refine k_newI 25 dX12_init_287 (by decide +kernel) (by decide +kernel) (by decide) (by decide +kernel) (by decide +kernel) ac_int (fun q27 => ?_)
  refine k_put (k := 49) (ty := (.array .int)) lf_X12_117 rfl (by decide +kernel) rfl rfl (Nat.le_of_ble_eq_true rfl) dX12_init_289 ?_
  refine k_ld dX12_init_292 ?_
  refine k_bi (35) dX12_init_293 (by decide +kernel) ?_
  refine k_newI 35 dX12_init_295 (by decide +kernel) (by decide +kernel) (by decide) (by decide +kernel) (by decide +kernel) ac_int (fun q28 => ?_)
  refine k_put (k := 50) (ty := (.array .int)) lf_X12_120 rfl (by decide +kernel) rfl rfl (Nat.le_of_ble_eq_true rfl) dX12_init_297 ?_
  refine k_ld dX12_init_300 ?_
  refine k_bi (8) dX12_init_301 (by decide +kernel) ?_
  refine k_newI 8 dX12_init_303 (by decide +kernel) (by decide +kernel) (by decide) (by decide +kernel) (by decide +kernel) ac_int (fun q29 => ?_)
  refine k_put (k := 51) (ty := (.array .int)) lf_X12_123 rfl (by decide +kernel) rfl rfl (Nat.le_of_ble_eq_true rfl) dX12_init_305 ?_
  refine k_ld dX12_init_308 ?_
  refine k_bi (8) dX12_init_309 (by decide +kernel) ?_
  refine k_newI 8 dX12_init_311 (by decide +kernel) (by decide +kernel) (by decide) (by decide +kernel) (by decide +kernel) ac_int (fun q30 => ?_)
  refine k_put (k := 52) (ty := (.array .int)) lf_X12_126 rfl (by decide +kernel) rfl rfl (Nat.le_of_ble_eq_true rfl) dX12_init_313 ?_
  exact s12_5
theorem s12_3 {E : En} {h q1 q2 q3 q4 q5 q6 q7 q8 q9 q10 q11 q12 q13 q14 q15 : Nat} : KB E 12 RX12 cX12_init 1 42 7686 (PX12 E) h 187 [] [.ref q1, .ref q2, .int 0, .ref q3, .ref q4, .ref q5, .ref q6, .ref q7, .ref q8, .ref q9, .ref q10, .ref q11, .ref q12, .ref q13, .ref q14, .int 0, .int 0, .int 0, .int 0, .int 0, .int 0, .int 0, .int 0, .int 0, .int (-1), .ref q15, .null, .null, .null, .null, .int 0, .int 0, .int 0, .int 0, .int 0, .int 0, .int 0, .int 0, .int 0, .null, .null, .null, .null, .null, .int 0, .null, .int 0, .int 0, .null, .null, .null, .null, .null, .null, .null, .null, .null, .int 0, .int 0, .int 0, .int 0, .null, .null, .null, .null, .null, .null, .null, .null] [(q1, .inl (E.2.2.1.2.2, 4, .inr (.inr (.inr (.inr (va_up (va_up (va_up (va_up (fun _ => none) 0 (some (E.1 (1000 + 0)))) 1 (some (E.1 (1000 + 1)))) 2 (some (E.1 (1000 + 2)))) 3 (some (E.1 (1000 + 3))))))))), (q2, .inl (E.2.2.1.2.2, 7, .inr (.inr (.inr (.inr (va_up (va_up (va_up (va_up (va_up (va_up (va_up (fun _ => none) 0 (some (E.1 (1000 + 4)))) 1 (some (E.1 (1000 + 5)))) 2 (some (E.1 (1000 + 6)))) 3 (some (E.1 (1000 + 7)))) 4 (some (E.1 (1000 + 8)))) 5 (some (E.1 (1000 + 9)))) 6 (some (E.1 (1000 + 10))))))))), (q3, .inl (E.2.2.1.1, 10, .inl (fun _ => 0))), (q4, .inl (E.2.2.1.1, 16, .inl (fun _ => 0))), (q5, .inl (E.2.2.1.1, 16, .inl (fun _ => 0))), (q6, .inl (E.2.2.1.1, 16, .inl (fun _ => 0))), (q7, .inl (E.2.2.1.1, 16, .inl (fun _ => 0))), (q8, .inl (E.2.2.1.1, 12, .inl (fun _ => 0))), (q9, .inl (E.2.2.1.1, 12, .inl (fun _ => 0))), (q10, .inl (E.2.2.1.1, 48, .inl (fun _ => 0))), (q11, .inl (E.2.2.1.1, 1200, .inl (fun _ => 0))), (q12, .inl (E.2.2.1.1, 3, .inl (fun _ => 0))), (q13, .inl (E.2.2.1.1, 8, .inl (fun _ => 0))), (q14, .inl (E.2.2.1.1, 600, .inl (fun _ => 0))), (q15, .inl (E.2.2.1.1, 8, .inl (fun _ => 0)))] 15 1976 := by
  refine k_ld dX12_init_187 ?_
  refine k_bi (8) dX12_init_188 (by decide +kernel) ?_
  refine k_newI 8 dX12_init_190 (by decide +kernel) (by decide +kernel) (by decide) (by decide +kernel) (by decide +kernel) ac_int (fun q16 => ?_)
  refine k_put (k := 26) (ty := (.array .int)) lf_X12_82 rfl (by decide +kernel) rfl rfl (Nat.le_of_ble_eq_true rfl) dX12_init_192 ?_
  refine k_ld dX12_init_195 ?_
  refine k_bi (6) dX12_init_196 (by decide +kernel) ?_
  refine k_newI 6 dX12_init_198 (by decide +kernel) (by decide +kernel) (by decide) (by decide +kernel) (by decide +kernel) ac_int (fun q17 => ?_)
  refine k_put (k := 27) (ty := (.array .int)) lf_X12_84 rfl (by decide +kernel) rfl rfl (Nat.le_of_ble_eq_true rfl) dX12_init_200 ?_
  refine k_ld dX12_init_203 ?_
  refine k_bi (6) dX12_init_204 (by decide +kernel) ?_
  refine k_newI 6 dX12_init_206 (by decide +kernel) (by decide +kernel) (by decide) (by decide +kernel) (by decide +kernel) ac_int (fun q18 => ?_)
  refine k_put (k := 28) (ty := (.array .int)) lf_X12_87 rfl (by decide +kernel) rfl rfl (Nat.le_of_ble_eq_true rfl) dX12_init_208 ?_
  refine k_ld dX12_init_211 ?_
  refine k_si (1400) dX12_init_212 (by decide +kernel) ?_
  refine k_newI 1400 dX12_init_215 (by decide +kernel) (by decide +kernel) (by decide) (by decide +kernel) (by decide +kernel) ac_int (fun q19 => ?_)
  refine k_put (k := 29) (ty := (.array .int)) lf_X12_90 rfl (by decide +kernel) rfl rfl (Nat.le_of_ble_eq_true rfl) dX12_init_217 ?_
  refine k_ld dX12_init_220 ?_
  refine k_si (400) dX12_init_221 (by decide +kernel) ?_
  refine k_newI 400 dX12_init_224 (by decide +kernel) (by decide +kernel) (by decide) (by decide +kernel) (by decide +kernel) ac_int (fun q20 => ?_)
  refine k_put (k := 39) (ty := (.array .int)) lf_X12_93 rfl (by decide +kernel) rfl rfl (Nat.le_of_ble_eq_true rfl) dX12_init_226 ?_
  refine k_ld dX12_init_229 ?_
  refine k_si (400) dX12_init_230 (by decide +kernel) ?_
  refine k_newI 400 dX12_init_233 (by decide +kernel) (by decide +kernel) (by decide) (by decide +kernel) (by decide +kernel) ac_int (fun q21 => ?_)
  refine k_put (k := 40) (ty := (.array .int)) lf_X12_96 rfl (by decide +kernel) rfl rfl (Nat.le_of_ble_eq_true rfl) dX12_init_235 ?_
  refine k_ld dX12_init_238 ?_
  refine k_si (400) dX12_init_239 (by decide +kernel) ?_
  refine k_newI 400 dX12_init_242 (by decide +kernel) (by decide +kernel) (by decide) (by decide +kernel) (by decide +kernel) ac_int (fun q22 => ?_)
  refine k_put (k := 41) (ty := (.array .int)) lf_X12_99 rfl (by decide +kernel) rfl rfl (Nat.le_of_ble_eq_true rfl) dX12_init_244 ?_
  refine k_ld dX12_init_247 ?_
  refine k_bi (7) dX12_init_248 (by decide +kernel) ?_
  refine k_newI 7 dX12_init_250 (by decide +kernel) (by decide +kernel) (by decide) (by decide +kernel) (by decide +kernel) ac_int (fun q23 => ?_)
  refine k_put (k := 42) (ty := (.array .int)) lf_X12_102 rfl (by decide +kernel) rfl rfl (Nat.le_of_ble_eq_true rfl) dX12_init_252 ?_
  exact s12_4
theorem s12_2 {E : En} {h q1 q2 q3 q4 q5 q6 q7 q8 : Nat} : KB E 12 RX12 cX12_init 1 42 7686 (PX12 E) h 125 [] [.ref q1, .ref q2, .int 0, .ref q3, .ref q4, .ref q5, .ref q6, .ref q7, .ref q8, .null, .null, .null, .null, .null, .null, .int 0, .int 0, .int 0, .int 0, .int 0, .int 0, .int 0, .int 0, .int 0, .int 0, .null, .null, .null, .null, .null, .int 0, .int 0, .int 0, .int 0, .int 0, .int 0, .int 0, .int 0, .int 0, .null, .null, .null, .null, .null, .int 0, .null, .int 0, .int 0, .null, .null, .null, .null, .null, .null, .null, .null, .null, .int 0, .int 0, .int 0, .int 0, .null, .null, .null, .null, .null, .null, .null, .null] [(q1, .inl (E.2.2.1.2.2, 4, .inr (.inr (.inr (.inr (va_up (va_up (va_up (va_up (fun _ => none) 0 (some (E.1 (1000 + 0)))) 1 (some (E.1 (1000 + 1)))) 2 (some (E.1 (1000 + 2)))) 3 (some (E.1 (1000 + 3))))))))), (q2, .inl (E.2.2.1.2.2, 7, .inr (.inr (.inr (.inr (va_up (va_up (va_up (va_up (va_up (va_up (va_up (fun _ => none) 0 (some (E.1 (1000 + 4)))) 1 (some (E.1 (1000 + 5)))) 2 (some (E.1 (1000 + 6)))) 3 (some (E.1 (1000 + 7)))) 4 (some (E.1 (1000 + 8)))) 5 (some (E.1 (1000 + 9)))) 6 (some (E.1 (1000 + 10))))))))), (q3, .inl (E.2.2.1.1, 10, .inl (fun _ => 0))), (q4, .inl (E.2.2.1.1, 16, .inl (fun _ => 0))), (q5, .inl (E.2.2.1.1, 16, .inl (fun _ => 0))), (q6, .inl (E.2.2.1.1, 16, .inl (fun _ => 0))), (q7, .inl (E.2.2.1.1, 16, .inl (fun _ => 0))), (q8, .inl (E.2.2.1.1, 12, .inl (fun _ => 0)))] 8 97 := by
  refine k_ld dX12_init_125 ?_
  refine k_bi (12) dX12_init_126 (by decide +kernel) ?_
  refine k_newI 12 dX12_init_128 (by decide +kernel) (by decide +kernel) (by decide) (by decide +kernel) (by decide +kernel) ac_int (fun q9 => ?_)
  refine k_put (k := 9) (ty := (.array .int)) lf_X12_58 rfl (by decide +kernel) rfl rfl (Nat.le_of_ble_eq_true rfl) dX12_init_130 ?_
  refine k_ld dX12_init_133 ?_
  refine k_bi (48) dX12_init_134 (by decide +kernel) ?_
  refine k_newI 48 dX12_init_136 (by decide +kernel) (by decide +kernel) (by decide) (by decide +kernel) (by decide +kernel) ac_int (fun q10 => ?_)
  refine k_put (k := 10) (ty := (.array .int)) lf_X12_61 rfl (by decide +kernel) rfl rfl (Nat.le_of_ble_eq_true rfl) dX12_init_138 ?_
  refine k_ld dX12_init_141 ?_
  refine k_si (1200) dX12_init_142 (by decide +kernel) ?_
  refine k_newI 1200 dX12_init_145 (by decide +kernel) (by decide +kernel) (by decide) (by decide +kernel) (by decide +kernel) ac_int (fun q11 => ?_)
  refine k_put (k := 11) (ty := (.array .int)) lf_X12_64 rfl (by decide +kernel) rfl rfl (Nat.le_of_ble_eq_true rfl) dX12_init_147 ?_
  refine k_ld dX12_init_150 ?_
  refine k_ic (3) dX12_init_151 (by decide +kernel) ?_
  refine k_newI 3 dX12_init_152 (by decide +kernel) (by decide +kernel) (by decide) (by decide +kernel) (by decide +kernel) ac_int (fun q12 => ?_)
  refine k_put (k := 12) (ty := (.array .int)) lf_X12_67 rfl (by decide +kernel) rfl rfl (Nat.le_of_ble_eq_true rfl) dX12_init_154 ?_
  refine k_ld dX12_init_157 ?_
  refine k_bi (8) dX12_init_158 (by decide +kernel) ?_
  refine k_newI 8 dX12_init_160 (by decide +kernel) (by decide +kernel) (by decide) (by decide +kernel) (by decide +kernel) ac_int (fun q13 => ?_)
  refine k_put (k := 13) (ty := (.array .int)) lf_X12_70 rfl (by decide +kernel) rfl rfl (Nat.le_of_ble_eq_true rfl) dX12_init_162 ?_
  refine k_ld dX12_init_165 ?_
  refine k_si (600) dX12_init_166 (by decide +kernel) ?_
  refine k_newI 600 dX12_init_169 (by decide +kernel) (by decide +kernel) (by decide) (by decide +kernel) (by decide +kernel) ac_int (fun q14 => ?_)
  refine k_put (k := 14) (ty := (.array .int)) lf_X12_73 rfl (by decide +kernel) rfl rfl (Nat.le_of_ble_eq_true rfl) dX12_init_171 ?_
  refine k_ld dX12_init_174 ?_
  refine k_ic (-1) dX12_init_175 (by decide +kernel) ?_
  refine k_put (k := 24) (ty := .int) lf_X12_76 rfl (by decide +kernel) rfl rfl (Nat.le_of_ble_eq_true rfl) dX12_init_176 ?_
  refine k_ld dX12_init_179 ?_
  refine k_bi (8) dX12_init_180 (by decide +kernel) ?_
  refine k_newI 8 dX12_init_182 (by decide +kernel) (by decide +kernel) (by decide) (by decide +kernel) (by decide +kernel) ac_int (fun q15 => ?_)
  refine k_put (k := 25) (ty := (.array .int)) lf_X12_80 rfl (by decide +kernel) rfl rfl (Nat.le_of_ble_eq_true rfl) dX12_init_184 ?_
  exact s12_3
theorem s12_1 {E : En} {h q1 q2 : Nat} : KB E 12 RX12 cX12_init 1 42 7686 (PX12 E) h 77 [] [.ref q1, .ref q2, .int 0, .null, .null, .null, .null, .null, .null, .null, .null, .null, .null, .null, .null, .int 0, .int 0, .int 0, .int 0, .int 0, .int 0, .int 0, .int 0, .int 0, .int 0, .null, .null, .null, .null, .null, .int 0, .int 0, .int 0, .int 0, .int 0, .int 0, .int 0, .int 0, .int 0, .null, .null, .null, .null, .null, .int 0, .null, .int 0, .int 0, .null, .null, .null, .null, .null, .null, .null, .null, .null, .int 0, .int 0, .int 0, .int 0, .null, .null, .null, .null, .null, .null, .null, .null] [(q1, .inl (E.2.2.1.2.2, 4, .inr (.inr (.inr (.inr (va_up (va_up (va_up (va_up (fun _ => none) 0 (some (E.1 (1000 + 0)))) 1 (some (E.1 (1000 + 1)))) 2 (some (E.1 (1000 + 2)))) 3 (some (E.1 (1000 + 3))))))))), (q2, .inl (E.2.2.1.2.2, 7, .inr (.inr (.inr (.inr (va_up (va_up (va_up (va_up (va_up (va_up (va_up (fun _ => none) 0 (some (E.1 (1000 + 4)))) 1 (some (E.1 (1000 + 5)))) 2 (some (E.1 (1000 + 6)))) 3 (some (E.1 (1000 + 7)))) 4 (some (E.1 (1000 + 8)))) 5 (some (E.1 (1000 + 9)))) 6 (some (E.1 (1000 + 10)))))))))] 2 11 := by
  refine k_ld dX12_init_77 ?_
  refine k_bi (10) dX12_init_78 (by decide +kernel) ?_
  refine k_newI 10 dX12_init_80 (by decide +kernel) (by decide +kernel) (by decide) (by decide +kernel) (by decide +kernel) ac_int (fun q3 => ?_)
  refine k_put (k := 3) (ty := (.array .int)) lf_X12_40 rfl (by decide +kernel) rfl rfl (Nat.le_of_ble_eq_true rfl) dX12_init_82 ?_
  refine k_ld dX12_init_85 ?_
  refine k_bi (16) dX12_init_86 (by decide +kernel) ?_
  refine k_newI 16 dX12_init_88 (by decide +kernel) (by decide +kernel) (by decide) (by decide +kernel) (by decide +kernel) ac_int (fun q4 => ?_)
  refine k_put (k := 4) (ty := (.array .int)) lf_X12_44 rfl (by decide +kernel) rfl rfl (Nat.le_of_ble_eq_true rfl) dX12_init_90 ?_
  refine k_ld dX12_init_93 ?_
  refine k_bi (16) dX12_init_94 (by decide +kernel) ?_
  refine k_newI 16 dX12_init_96 (by decide +kernel) (by decide +kernel) (by decide) (by decide +kernel) (by decide +kernel) ac_int (fun q5 => ?_)
  refine k_put (k := 5) (ty := (.array .int)) lf_X12_46 rfl (by decide +kernel) rfl rfl (Nat.le_of_ble_eq_true rfl) dX12_init_98 ?_
  refine k_ld dX12_init_101 ?_
  refine k_bi (16) dX12_init_102 (by decide +kernel) ?_
  refine k_newI 16 dX12_init_104 (by decide +kernel) (by decide +kernel) (by decide) (by decide +kernel) (by decide +kernel) ac_int (fun q6 => ?_)
  refine k_put (k := 6) (ty := (.array .int)) lf_X12_49 rfl (by decide +kernel) rfl rfl (Nat.le_of_ble_eq_true rfl) dX12_init_106 ?_
  refine k_ld dX12_init_109 ?_
  refine k_bi (16) dX12_init_110 (by decide +kernel) ?_
  refine k_newI 16 dX12_init_112 (by decide +kernel) (by decide +kernel) (by decide) (by decide +kernel) (by decide +kernel) ac_int (fun q7 => ?_)
  refine k_put (k := 7) (ty := (.array .int)) lf_X12_52 rfl (by decide +kernel) rfl rfl (Nat.le_of_ble_eq_true rfl) dX12_init_114 ?_
  refine k_ld dX12_init_117 ?_
  refine k_bi (12) dX12_init_118 (by decide +kernel) ?_
  refine k_newI 12 dX12_init_120 (by decide +kernel) (by decide +kernel) (by decide) (by decide +kernel) (by decide +kernel) ac_int (fun q8 => ?_)
  refine k_put (k := 8) (ty := (.array .int)) lf_X12_55 rfl (by decide +kernel) rfl rfl (Nat.le_of_ble_eq_true rfl) dX12_init_122 ?_
  exact s12_2
theorem s12_0 {E : En} {h q1 : Nat} : KB E 12 RX12 cX12_init 1 42 7686 (PX12 E) h 32 [] [.ref q1, .null, .int 0, .null, .null, .null, .null, .null, .null, .null, .null, .null, .null, .null, .null, .int 0, .int 0, .int 0, .int 0, .int 0, .int 0, .int 0, .int 0, .int 0, .int 0, .null, .null, .null, .null, .null, .int 0, .int 0, .int 0, .int 0, .int 0, .int 0, .int 0, .int 0, .int 0, .null, .null, .null, .null, .null, .int 0, .null, .int 0, .int 0, .null, .null, .null, .null, .null, .null, .null, .null, .null, .int 0, .int 0, .int 0, .int 0, .null, .null, .null, .null, .null, .null, .null, .null] [(q1, .inl (E.2.2.1.2.2, 4, .inr (.inr (.inr (.inr (va_up (va_up (va_up (va_up (fun _ => none) 0 (some (E.1 (1000 + 0)))) 1 (some (E.1 (1000 + 1)))) 2 (some (E.1 (1000 + 2)))) 3 (some (E.1 (1000 + 3)))))))))] 1 4 := by
  refine k_ld dX12_init_32 ?_
  refine k_bi (7) dX12_init_33 (by decide +kernel) ?_
  refine k_newS 7 dX12_init_35 cl_S (by decide +kernel) (by decide +kernel) (by decide) (by decide +kernel) (by decide +kernel) (fun q2 => ?_)
  refine k_dup dX12_init_38 rfl ?_
  refine k_ic (0) dX12_init_39 (by decide +kernel) ?_
  refine k_ldc (n := 4) (tx := "year") (by decide +kernel) dX12_init_40 ?_
  refine k_aast (q := (4, 4, [121, 101, 97, 114])) 1 0 (by decide +kernel) rfl (by decide +kernel) (by decide +kernel) (by decide) dX12_init_42 ?_
  refine k_dup dX12_init_43 rfl ?_
  refine k_ic (1) dX12_init_44 (by decide +kernel) ?_
  refine k_ldc (n := 5) (tx := "base") (by decide +kernel) dX12_init_45 ?_
  refine k_aast (q := (5, 4, [98, 97, 115, 101])) 1 1 (by decide +kernel) rfl (by decide +kernel) (by decide +kernel) (by decide) dX12_init_47 ?_
  refine k_dup dX12_init_48 rfl ?_
  refine k_ic (2) dX12_init_49 (by decide +kernel) ?_
  refine k_ldc (n := 6) (tx := "last") (by decide +kernel) dX12_init_50 ?_
  refine k_aast (q := (6, 4, [108, 97, 115, 116])) 1 2 (by decide +kernel) rfl (by decide +kernel) (by decide +kernel) (by decide) dX12_init_52 ?_
  refine k_dup dX12_init_53 rfl ?_
  refine k_ic (3) dX12_init_54 (by decide +kernel) ?_
  refine k_ldc (n := 7) (tx := "key") (by decide +kernel) dX12_init_55 ?_
  refine k_aast (q := (7, 3, [107, 101, 121])) 1 3 (by decide +kernel) rfl (by decide +kernel) (by decide +kernel) (by decide) dX12_init_57 ?_
  refine k_dup dX12_init_58 rfl ?_
  refine k_ic (4) dX12_init_59 (by decide +kernel) ?_
  refine k_ldc (n := 8) (tx := "house") (by decide +kernel) dX12_init_60 ?_
  refine k_aast (q := (8, 5, [104, 111, 117, 115, 101])) 1 4 (by decide +kernel) rfl (by decide +kernel) (by decide +kernel) (by decide) dX12_init_62 ?_
  refine k_dup dX12_init_63 rfl ?_
  refine k_ic (5) dX12_init_64 (by decide +kernel) ?_
  refine k_ldc (n := 9) (tx := "kind") (by decide +kernel) dX12_init_65 ?_
  refine k_aast (q := (9, 4, [107, 105, 110, 100])) 1 5 (by decide +kernel) rfl (by decide +kernel) (by decide +kernel) (by decide) dX12_init_67 ?_
  refine k_dup dX12_init_68 rfl ?_
  refine k_bi (6) dX12_init_69 (by decide +kernel) ?_
  refine k_ldc (n := 10) (tx := "sung") (by decide +kernel) dX12_init_71 ?_
  refine k_aast (q := (10, 4, [115, 117, 110, 103])) 1 6 (by decide +kernel) rfl (by decide +kernel) (by decide +kernel) (by decide) dX12_init_73 ?_
  refine k_put (k := 1) (ty := (.array (.object "java/lang/String"))) lf_X12_37 rfl (by decide +kernel) rfl rfl (Nat.le_of_ble_eq_true rfl) dX12_init_74 ?_
  exact s12_1
theorem con_X12 {E : En} : Con E 12 yX12_init cX12_init 1 42 7686 (PX12 E) := by
  refine Con.of (own := RX12) (by decide +kernel) rfl rfl (fun h => ?_)
  refine k_obj dX12_init_0 dX12_init_1 oi_12 oi_in oi_co (by decide) ?_
  refine k_ld dX12_init_4 ?_
  refine k_ic (4) dX12_init_5 (by decide +kernel) ?_
  refine k_newS 4 dX12_init_6 cl_S (by decide +kernel) (by decide +kernel) (by decide) (by decide +kernel) (by decide +kernel) (fun q1 => ?_)
  refine k_dup dX12_init_9 rfl ?_
  refine k_ic (0) dX12_init_10 (by decide +kernel) ?_
  refine k_ldc (n := 0) (tx := "elder") (by decide +kernel) dX12_init_11 ?_
  refine k_aast (q := (0, 5, [101, 108, 100, 101, 114])) 0 0 (by decide +kernel) rfl (by decide +kernel) (by decide +kernel) (by decide) dX12_init_13 ?_
  refine k_dup dX12_init_14 rfl ?_
  refine k_ic (1) dX12_init_15 (by decide +kernel) ?_
  refine k_ldc (n := 1) (tx := "child") (by decide +kernel) dX12_init_16 ?_
  refine k_aast (q := (1, 5, [99, 104, 105, 108, 100])) 0 1 (by decide +kernel) rfl (by decide +kernel) (by decide +kernel) (by decide) dX12_init_18 ?_
  refine k_dup dX12_init_19 rfl ?_
  refine k_ic (2) dX12_init_20 (by decide +kernel) ?_
  refine k_ldc (n := 2) (tx := "deaf") (by decide +kernel) dX12_init_21 ?_
  refine k_aast (q := (2, 4, [100, 101, 97, 102])) 0 2 (by decide +kernel) rfl (by decide +kernel) (by decide +kernel) (by decide) dX12_init_23 ?_
  refine k_dup dX12_init_24 rfl ?_
  refine k_ic (3) dX12_init_25 (by decide +kernel) ?_
  refine k_ldc (n := 3) (tx := "spy") (by decide +kernel) dX12_init_26 ?_
  refine k_aast (q := (3, 3, [115, 112, 121])) 0 3 (by decide +kernel) rfl (by decide +kernel) (by decide +kernel) (by decide) dX12_init_28 ?_
  refine k_put (k := 0) (ty := (.array (.object "java/lang/String"))) lf_X12_19 rfl (by decide +kernel) rfl rfl (Nat.le_of_ble_eq_true rfl) dX12_init_29 ?_
  exact s12_0
