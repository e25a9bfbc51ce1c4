theorem ac_int : Cond.arrayClass .int ∈ lw_g := lw_mem 171 (by decide +kernel) (by decide +kernel)
theorem ac_byte : Cond.arrayClass .byte ∈ lw_g := lw_mem 283 (by decide +kernel) (by decide +kernel)
theorem oi_in : Cond.instanceMethod Lib.objectInit ∈ lw_g := lw_mem 135 (by decide +kernel) (by decide +kernel)
theorem oi_co : Cond.code Lib.objectInit ⟨#[0xb1]⟩ 1 none ∈ lw_g := lw_mem 136 rfl rfl
theorem ln_0 : Lnew 0 := ⟨lw_mem 397 (by decide +kernel) (by decide +kernel), lw_mem 111 (by decide +kernel) (by decide +kernel)⟩
theorem oi_0 : Cond.methodLink RX0 3 Lib.objectInit ∈ lw_g := lw_mem 401 (by decide +kernel) (by decide +kernel)
theorem ii_0 : Cond.instanceMethod yX0_init ∈ lw_g := lw_mem 399 (by decide +kernel) (by decide +kernel)
set_option maxRecDepth 20000 in
theorem ic_0 : Cond.code yX0_init cX0_init 1 none ∈ lw_g := lw_mem 400 rfl rfl
theorem id_0 : yX0_init.cls ≠ "java/lang/invoke/MethodHandle" ∧ yX0_init.cls ≠ "java/lang/invoke/VarHandle" ∧ (parseMethodDescriptor yX0_init.desc).map (fun d => d.parameters.length) = some 0 := by decide +kernel
theorem ln_1 : Lnew 1 := ⟨lw_mem 150 (by decide +kernel) (by decide +kernel), lw_mem 107 (by decide +kernel) (by decide +kernel)⟩
theorem oi_1 : Cond.methodLink RX1 3 Lib.objectInit ∈ lw_g := lw_mem 154 (by decide +kernel) (by decide +kernel)
theorem ii_1 : Cond.instanceMethod yX1_init ∈ lw_g := lw_mem 152 (by decide +kernel) (by decide +kernel)
set_option maxRecDepth 20000 in
theorem ic_1 : Cond.code yX1_init cX1_init 1 none ∈ lw_g := lw_mem 153 rfl rfl
theorem id_1 : yX1_init.cls ≠ "java/lang/invoke/MethodHandle" ∧ yX1_init.cls ≠ "java/lang/invoke/VarHandle" ∧ (parseMethodDescriptor yX1_init.desc).map (fun d => d.parameters.length) = some 0 := by decide +kernel
theorem ln_2 : Lnew 2 := ⟨lw_mem 474 (by decide +kernel) (by decide +kernel), lw_mem 115 (by decide +kernel) (by decide +kernel)⟩
theorem oi_2 : Cond.methodLink RX2 3 Lib.objectInit ∈ lw_g := lw_mem 478 (by decide +kernel) (by decide +kernel)
theorem ii_2 : Cond.instanceMethod yX2_init ∈ lw_g := lw_mem 476 (by decide +kernel) (by decide +kernel)
set_option maxRecDepth 20000 in
theorem ic_2 : Cond.code yX2_init cX2_init 1 none ∈ lw_g := lw_mem 477 rfl rfl
theorem id_2 : yX2_init.cls ≠ "java/lang/invoke/MethodHandle" ∧ yX2_init.cls ≠ "java/lang/invoke/VarHandle" ∧ (parseMethodDescriptor yX2_init.desc).map (fun d => d.parameters.length) = some 0 := by decide +kernel
theorem ln_3 : Lnew 3 := ⟨lw_mem 411 (by decide +kernel) (by decide +kernel), lw_mem 112 (by decide +kernel) (by decide +kernel)⟩
theorem oi_3 : Cond.methodLink RX3 3 Lib.objectInit ∈ lw_g := lw_mem 415 (by decide +kernel) (by decide +kernel)
theorem ii_3 : Cond.instanceMethod yX3_init ∈ lw_g := lw_mem 413 (by decide +kernel) (by decide +kernel)
set_option maxRecDepth 20000 in
theorem ic_3 : Cond.code yX3_init cX3_init 1 none ∈ lw_g := lw_mem 414 rfl rfl
theorem id_3 : yX3_init.cls ≠ "java/lang/invoke/MethodHandle" ∧ yX3_init.cls ≠ "java/lang/invoke/VarHandle" ∧ (parseMethodDescriptor yX3_init.desc).map (fun d => d.parameters.length) = some 0 := by decide +kernel
theorem ln_4 : Lnew 4 := ⟨lw_mem 428 (by decide +kernel) (by decide +kernel), lw_mem 113 (by decide +kernel) (by decide +kernel)⟩
theorem oi_4 : Cond.methodLink RX4 3 Lib.objectInit ∈ lw_g := lw_mem 432 (by decide +kernel) (by decide +kernel)
theorem ii_4 : Cond.instanceMethod yX4_init ∈ lw_g := lw_mem 430 (by decide +kernel) (by decide +kernel)
set_option maxRecDepth 20000 in
theorem ic_4 : Cond.code yX4_init cX4_init 1 none ∈ lw_g := lw_mem 431 rfl rfl
theorem id_4 : yX4_init.cls ≠ "java/lang/invoke/MethodHandle" ∧ yX4_init.cls ≠ "java/lang/invoke/VarHandle" ∧ (parseMethodDescriptor yX4_init.desc).map (fun d => d.parameters.length) = some 0 := by decide +kernel
theorem ln_5 : Lnew 5 := ⟨lw_mem 321 (by decide +kernel) (by decide +kernel), lw_mem 110 (by decide +kernel) (by decide +kernel)⟩
theorem oi_5 : Cond.methodLink RX5 3 Lib.objectInit ∈ lw_g := lw_mem 325 (by decide +kernel) (by decide +kernel)
theorem ii_5 : Cond.instanceMethod yX5_init ∈ lw_g := lw_mem 323 (by decide +kernel) (by decide +kernel)
set_option maxRecDepth 20000 in
theorem ic_5 : Cond.code yX5_init cX5_init 1 none ∈ lw_g := lw_mem 324 rfl rfl
theorem id_5 : yX5_init.cls ≠ "java/lang/invoke/MethodHandle" ∧ yX5_init.cls ≠ "java/lang/invoke/VarHandle" ∧ (parseMethodDescriptor yX5_init.desc).map (fun d => d.parameters.length) = some 0 := by decide +kernel
theorem ln_6 : Lnew 6 := ⟨lw_mem 461 (by decide +kernel) (by decide +kernel), lw_mem 114 (by decide +kernel) (by decide +kernel)⟩
theorem oi_6 : Cond.methodLink RX6 3 Lib.objectInit ∈ lw_g := lw_mem 465 (by decide +kernel) (by decide +kernel)
theorem ii_6 : Cond.instanceMethod yX6_init ∈ lw_g := lw_mem 463 (by decide +kernel) (by decide +kernel)
set_option maxRecDepth 20000 in
theorem ic_6 : Cond.code yX6_init cX6_init 1 none ∈ lw_g := lw_mem 464 rfl rfl
theorem id_6 : yX6_init.cls ≠ "java/lang/invoke/MethodHandle" ∧ yX6_init.cls ≠ "java/lang/invoke/VarHandle" ∧ (parseMethodDescriptor yX6_init.desc).map (fun d => d.parameters.length) = some 0 := by decide +kernel
theorem ln_7 : Lnew 7 := ⟨lw_mem 138 (by decide +kernel) (by decide +kernel), lw_mem 105 (by decide +kernel) (by decide +kernel)⟩
theorem oi_7 : Cond.methodLink RX7 3 Lib.objectInit ∈ lw_g := lw_mem 142 (by decide +kernel) (by decide +kernel)
theorem ii_7 : Cond.instanceMethod yX7_init ∈ lw_g := lw_mem 140 (by decide +kernel) (by decide +kernel)
set_option maxRecDepth 20000 in
theorem ic_7 : Cond.code yX7_init cX7_init 1 none ∈ lw_g := lw_mem 141 rfl rfl
theorem id_7 : yX7_init.cls ≠ "java/lang/invoke/MethodHandle" ∧ yX7_init.cls ≠ "java/lang/invoke/VarHandle" ∧ (parseMethodDescriptor yX7_init.desc).map (fun d => d.parameters.length) = some 0 := by decide +kernel
theorem ln_8 : Lnew 8 := ⟨lw_mem 173 (by decide +kernel) (by decide +kernel), lw_mem 108 (by decide +kernel) (by decide +kernel)⟩
theorem oi_8 : Cond.methodLink RX8 3 Lib.objectInit ∈ lw_g := lw_mem 177 (by decide +kernel) (by decide +kernel)
theorem ii_8 : Cond.instanceMethod yX8_init ∈ lw_g := lw_mem 175 (by decide +kernel) (by decide +kernel)
set_option maxRecDepth 20000 in
theorem ic_8 : Cond.code yX8_init cX8_init 1 none ∈ lw_g := lw_mem 176 rfl rfl
theorem id_8 : yX8_init.cls ≠ "java/lang/invoke/MethodHandle" ∧ yX8_init.cls ≠ "java/lang/invoke/VarHandle" ∧ (parseMethodDescriptor yX8_init.desc).map (fun d => d.parameters.length) = some 0 := by decide +kernel
theorem ln_9 : Lnew 9 := ⟨lw_mem 248 (by decide +kernel) (by decide +kernel), lw_mem 109 (by decide +kernel) (by decide +kernel)⟩
theorem oi_9 : Cond.methodLink RX9 3 Lib.objectInit ∈ lw_g := lw_mem 252 (by decide +kernel) (by decide +kernel)
theorem ii_9 : Cond.instanceMethod yX9_init ∈ lw_g := lw_mem 250 (by decide +kernel) (by decide +kernel)
set_option maxRecDepth 20000 in
theorem ic_9 : Cond.code yX9_init cX9_init 1 none ∈ lw_g := lw_mem 251 rfl rfl
theorem id_9 : yX9_init.cls ≠ "java/lang/invoke/MethodHandle" ∧ yX9_init.cls ≠ "java/lang/invoke/VarHandle" ∧ (parseMethodDescriptor yX9_init.desc).map (fun d => d.parameters.length) = some 0 := by decide +kernel
theorem ln_10 : Lnew 10 := ⟨lw_mem 144 (by decide +kernel) (by decide +kernel), lw_mem 106 (by decide +kernel) (by decide +kernel)⟩
theorem oi_10 : Cond.methodLink RX10 3 Lib.objectInit ∈ lw_g := lw_mem 148 (by decide +kernel) (by decide +kernel)
theorem ii_10 : Cond.instanceMethod yX10_init ∈ lw_g := lw_mem 146 (by decide +kernel) (by decide +kernel)
set_option maxRecDepth 20000 in
theorem ic_10 : Cond.code yX10_init cX10_init 1 none ∈ lw_g := lw_mem 147 rfl rfl
theorem id_10 : yX10_init.cls ≠ "java/lang/invoke/MethodHandle" ∧ yX10_init.cls ≠ "java/lang/invoke/VarHandle" ∧ (parseMethodDescriptor yX10_init.desc).map (fun d => d.parameters.length) = some 0 := by decide +kernel
theorem ln_11 : Lnew 11 := ⟨lw_mem 130 (by decide +kernel) (by decide +kernel), lw_mem 104 (by decide +kernel) (by decide +kernel)⟩
theorem oi_11 : Cond.methodLink RX11 1 Lib.objectInit ∈ lw_g := lw_mem 134 (by decide +kernel) (by decide +kernel)
theorem ii_11 : Cond.instanceMethod yX11_init ∈ lw_g := lw_mem 132 (by decide +kernel) (by decide +kernel)
set_option maxRecDepth 20000 in
theorem ic_11 : Cond.code yX11_init cX11_init 1 none ∈ lw_g := lw_mem 133 rfl rfl
theorem id_11 : yX11_init.cls ≠ "java/lang/invoke/MethodHandle" ∧ yX11_init.cls ≠ "java/lang/invoke/VarHandle" ∧ (parseMethodDescriptor yX11_init.desc).map (fun d => d.parameters.length) = some 0 := by decide +kernel
theorem ln_12 : Lnew 12 := ⟨lw_mem 1365 (by decide +kernel) (by decide +kernel), lw_mem 116 (by decide +kernel) (by decide +kernel)⟩
theorem oi_12 : Cond.methodLink RX12 3 Lib.objectInit ∈ lw_g := lw_mem 1369 (by decide +kernel) (by decide +kernel)
theorem ii_12 : Cond.instanceMethod yX12_init ∈ lw_g := lw_mem 1367 (by decide +kernel) (by decide +kernel)
set_option maxRecDepth 20000 in
theorem ic_12 : Cond.code yX12_init cX12_init 1 none ∈ lw_g := lw_mem 1368 rfl rfl
theorem id_12 : yX12_init.cls ≠ "java/lang/invoke/MethodHandle" ∧ yX12_init.cls ≠ "java/lang/invoke/VarHandle" ∧ (parseMethodDescriptor yX12_init.desc).map (fun d => d.parameters.length) = some 0 := by decide +kernel
theorem cl_11_7 : Cond.classLink RX11 7 (Rc 7) ∈ lw_g := lw_mem 137 (by decide +kernel) (by decide +kernel)
theorem cl_11_23 : Cond.classLink RX11 23 (Rc 10) ∈ lw_g := lw_mem 318 (by decide +kernel) (by decide +kernel)
theorem cl_11_30 : Cond.classLink RX11 30 (Rc 5) ∈ lw_g := lw_mem 320 (by decide +kernel) (by decide +kernel)
theorem cl_11_37 : Cond.classLink RX11 37 (Rc 0) ∈ lw_g := lw_mem 396 (by decide +kernel) (by decide +kernel)
theorem cl_11_44 : Cond.classLink RX11 44 (Rc 3) ∈ lw_g := lw_mem 410 (by decide +kernel) (by decide +kernel)
theorem cl_11_55 : Cond.classLink RX11 55 (Rc 4) ∈ lw_g := lw_mem 427 (by decide +kernel) (by decide +kernel)
theorem cl_11_65 : Cond.classLink RX11 65 (Rc 6) ∈ lw_g := lw_mem 460 (by decide +kernel) (by decide +kernel)
theorem cl_11_72 : Cond.classLink RX11 72 (Rc 2) ∈ lw_g := lw_mem 473 (by decide +kernel) (by decide +kernel)
theorem cl_4_15 : Cond.classLink RX4 15 (Rc 5) ∈ lw_g := lw_mem 433 (by decide +kernel) (by decide +kernel)
theorem cl_4_22 : Cond.classLink RX4 22 (Rc 0) ∈ lw_g := lw_mem 435 (by decide +kernel) (by decide +kernel)
theorem cl_4_29 : Cond.classLink RX4 29 (Rc 3) ∈ lw_g := lw_mem 437 (by decide +kernel) (by decide +kernel)
theorem cl_5_55 : Cond.classLink RX5 55 (Rc 1) ∈ lw_g := lw_mem 326 (by decide +kernel) (by decide +kernel)
theorem cl_7_9 : Cond.classLink RX7 9 (Rc 10) ∈ lw_g := lw_mem 143 (by decide +kernel) (by decide +kernel)
theorem cl_7_18 : Cond.classLink RX7 18 (Rc 9) ∈ lw_g := lw_mem 247 (by decide +kernel) (by decide +kernel)
theorem cl_10_34 : Cond.classLink RX10 34 (Rc 1) ∈ lw_g := lw_mem 149 (by decide +kernel) (by decide +kernel)
theorem cl_10_47 : Cond.classLink RX10 47 (Rc 8) ∈ lw_g := lw_mem 172 (by decide +kernel) (by decide +kernel)
