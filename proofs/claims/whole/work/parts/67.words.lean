/-! words of the throwing methods and of the helpers: written by a program -/
theorem ini_xIA : Cond.initialized xIA ∈ zWS := zin 43 (by decide +kernel) (by decide +kernel)
theorem fit_xIA : Bundle.fit xIA = true ∧ ∀ n ∈ zEN, Bundle.fit n = true := by decide +kernel
theorem ini_xIS : Cond.initialized xIS ∈ zWS := zin 45 (by decide +kernel) (by decide +kernel)
theorem fit_xIS : Bundle.fit xIS = true ∧ ∀ n ∈ zEN, Bundle.fit n = true := by decide +kernel
theorem ini_xIO : Cond.initialized xIO ∈ zWS := zin 46 (by decide +kernel) (by decide +kernel)
theorem fit_xIO : Bundle.fit xIO = true ∧ ∀ n ∈ zEN, Bundle.fit n = true := by decide +kernel
theorem ini_xUO : Cond.initialized xUO ∈ zWS := zin 47 (by decide +kernel) (by decide +kernel)
theorem fit_xUO : Bundle.fit xUO = true ∧ ∀ n ∈ zEN, Bundle.fit n = true := by decide +kernel
theorem ck_X_39 : Cond.classLink rr_X 39 xIA ∈ zWS := zin 219 (by decide +kernel) (by decide +kernel)
set_option maxRecDepth 100000 in
theorem at_X_43 : ∀ w ∈ vx_atS rr_X 43 xIA zEN, w ∈ zWS ∨ (w.onTables = true ∧ w ∈ zXL) := by decide +kernel
set_option maxRecDepth 100000 in
theorem ot_X_43 : ∀ w ∈ Cond.classLink rr_X 39 xIA :: Cond.initialized xIA :: vx_atS rr_X 43 xIA zEN, vx_ot w = true := by decide +kernel
theorem ck_X_59 : Cond.classLink rr_X 59 xIS ∈ zWS := zin 309 (by decide +kernel) (by decide +kernel)
set_option maxRecDepth 100000 in
theorem at_X_63 : ∀ w ∈ vx_atS rr_X 63 xIS zEN, w ∈ zWS ∨ (w.onTables = true ∧ w ∈ zXL) := by decide +kernel
set_option maxRecDepth 100000 in
theorem ot_X_63 : ∀ w ∈ Cond.classLink rr_X 59 xIS :: Cond.initialized xIS :: vx_atS rr_X 63 xIS zEN, vx_ot w = true := by decide +kernel
theorem ck_X_71 : Cond.classLink rr_X 71 xIO ∈ zWS := zin 352 (by decide +kernel) (by decide +kernel)
set_option maxRecDepth 100000 in
theorem at_X_75 : ∀ w ∈ vx_atS rr_X 75 xIO zEN, w ∈ zWS ∨ (w.onTables = true ∧ w ∈ zXL) := by decide +kernel
set_option maxRecDepth 100000 in
theorem ot_X_75 : ∀ w ∈ Cond.classLink rr_X 71 xIO :: Cond.initialized xIO :: vx_atS rr_X 75 xIO zEN, vx_ot w = true := by decide +kernel
theorem ck_X_83 : Cond.classLink rr_X 83 xUO ∈ zWS := zin 380 (by decide +kernel) (by decide +kernel)
set_option maxRecDepth 100000 in
theorem at_X_87 : ∀ w ∈ vx_atS rr_X 87 xUO zEN, w ∈ zWS ∨ (w.onTables = true ∧ w ∈ zXL) := by decide +kernel
set_option maxRecDepth 100000 in
theorem ot_X_87 : ∀ w ∈ Cond.classLink rr_X 83 xUO :: Cond.initialized xUO :: vx_atS rr_X 87 xUO zEN, vx_ot w = true := by decide +kernel
theorem cw_X_make : zCw yy_X_make cc_X_make 9 (some .int) 4 := ⟨zin 209 (by decide +kernel) (by decide +kernel), zin 35 (by decide +kernel) (by decide +kernel), by decide, by decide, by decide +kernel, by decide⟩
theorem im_X_make : Cond.instanceMethod yy_X_make ∈ zWS := zin 207 (by decide +kernel) (by decide +kernel)
theorem se_X_make : Cond.selects rr_X yy_X_make yy_X_make ∈ zWS := zin 208 (by decide +kernel) (by decide +kernel)
theorem cw_X_can : zCw yy_X_can cc_X_can 2 (some .int) 1 := ⟨zin 350 (by decide +kernel) (by decide +kernel), zin 35 (by decide +kernel) (by decide +kernel), by decide, by decide, by decide +kernel, by decide⟩
theorem im_X_can : Cond.instanceMethod yy_X_can ∈ zWS := zin 348 (by decide +kernel) (by decide +kernel)
theorem se_X_can : Cond.selects rr_X yy_X_can yy_X_can ∈ zWS := zin 349 (by decide +kernel) (by decide +kernel)
theorem cw_X_build : zCw yy_X_build cc_X_build 2 (some .int) 1 := ⟨zin 375 (by decide +kernel) (by decide +kernel), zin 35 (by decide +kernel) (by decide +kernel), by decide, by decide, by decide +kernel, by decide⟩
theorem im_X_build : Cond.instanceMethod yy_X_build ∈ zWS := zin 373 (by decide +kernel) (by decide +kernel)
theorem se_X_build : Cond.selects rr_X yy_X_build yy_X_build ∈ zWS := zin 374 (by decide +kernel) (by decide +kernel)
theorem cw_X_react : zCw yy_X_react cc_X_react 2 (some .int) 1 := ⟨zin 420 (by decide +kernel) (by decide +kernel), zin 35 (by decide +kernel) (by decide +kernel), by decide, by decide, by decide +kernel, by decide⟩
theorem im_X_react : Cond.instanceMethod yy_X_react ∈ zWS := zin 418 (by decide +kernel) (by decide +kernel)
theorem se_X_react : Cond.selects rr_X yy_X_react yy_X_react ∈ zWS := zin 419 (by decide +kernel) (by decide +kernel)
theorem cw_X_reset : zCw yy_X_reset cc_X_reset 2 (some .int) 0 := ⟨zin 506 (by decide +kernel) (by decide +kernel), zin 35 (by decide +kernel) (by decide +kernel), by decide, by decide, by decide +kernel, by decide⟩
theorem im_X_reset : Cond.instanceMethod yy_X_reset ∈ zWS := zin 504 (by decide +kernel) (by decide +kernel)
theorem se_X_reset : Cond.selects rr_X yy_X_reset yy_X_reset ∈ zWS := zin 505 (by decide +kernel) (by decide +kernel)
theorem cw_X_register : zCw yy_X_register cc_X_register 2 (some .boolean) 1 := ⟨zin 514 (by decide +kernel) (by decide +kernel), zin 35 (by decide +kernel) (by decide +kernel), by decide, by decide, by decide +kernel, by decide⟩
theorem im_X_register : Cond.instanceMethod yy_X_register ∈ zWS := zin 512 (by decide +kernel) (by decide +kernel)
theorem se_X_register : Cond.selects rr_X yy_X_register yy_X_register ∈ zWS := zin 513 (by decide +kernel) (by decide +kernel)
theorem cw_X_count : zCw yy_X_count cc_X_count 2 (some .int) 1 := ⟨zin 522 (by decide +kernel) (by decide +kernel), zin 35 (by decide +kernel) (by decide +kernel), by decide, by decide, by decide +kernel, by decide⟩
theorem im_X_count : Cond.instanceMethod yy_X_count ∈ zWS := zin 520 (by decide +kernel) (by decide +kernel)
theorem se_X_count : Cond.selects rr_X yy_X_count yy_X_count ∈ zWS := zin 521 (by decide +kernel) (by decide +kernel)
theorem cw_L_make : Cond.codeWith yy_L_make cc_L_make 7 (some .int) [(0, 14, 17, 13), (0, 14, 21, 15)] ∈ zWS ∧ Cond.initialized yy_L_make.cls ∈ zWS ∧ yy_L_make.cls ≠ "java/lang/invoke/MethodHandle" ∧ yy_L_make.cls ≠ "java/lang/invoke/VarHandle" ∧ (parseMethodDescriptor yy_L_make.desc).map (fun d => d.parameters.length) = some 6 ∧ 7 ≤ 45 := ⟨zin 203 (by decide +kernel) (by decide +kernel), zin 34 (by decide +kernel) (by decide +kernel), by decide, by decide, by decide +kernel, by decide⟩
theorem ck_L_13 : Cond.classLink rr_L 13 xIA ∈ zWS := zin 204 (by decide +kernel) (by decide +kernel)
theorem ck_L_15 : Cond.classLink rr_L 15 xIS ∈ zWS := zin 205 (by decide +kernel) (by decide +kernel)
theorem st_L_make : Cond.static yy_L_make ∈ zWS := zin 202 (by decide +kernel) (by decide +kernel)
theorem cw_L_can : Cond.codeWith yy_L_can cc_L_can 4 (some .int) [(0, 9, 12, 21)] ∈ zWS ∧ Cond.initialized yy_L_can.cls ∈ zWS ∧ yy_L_can.cls ≠ "java/lang/invoke/MethodHandle" ∧ yy_L_can.cls ≠ "java/lang/invoke/VarHandle" ∧ (parseMethodDescriptor yy_L_can.desc).map (fun d => d.parameters.length) = some 3 ∧ 4 ≤ 45 := ⟨zin 345 (by decide +kernel) (by decide +kernel), zin 34 (by decide +kernel) (by decide +kernel), by decide, by decide, by decide +kernel, by decide⟩
theorem ck_L_21 : Cond.classLink rr_L 21 xIO ∈ zWS := zin 346 (by decide +kernel) (by decide +kernel)
theorem st_L_can : Cond.static yy_L_can ∈ zWS := zin 344 (by decide +kernel) (by decide +kernel)
theorem cw_L_build : Cond.codeWith yy_L_build cc_L_build 4 (some .int) [(0, 9, 12, 21), (0, 9, 15, 26)] ∈ zWS ∧ Cond.initialized yy_L_build.cls ∈ zWS ∧ yy_L_build.cls ≠ "java/lang/invoke/MethodHandle" ∧ yy_L_build.cls ≠ "java/lang/invoke/VarHandle" ∧ (parseMethodDescriptor yy_L_build.desc).map (fun d => d.parameters.length) = some 3 ∧ 4 ≤ 45 := ⟨zin 370 (by decide +kernel) (by decide +kernel), zin 34 (by decide +kernel) (by decide +kernel), by decide, by decide, by decide +kernel, by decide⟩
theorem ck_L_26 : Cond.classLink rr_L 26 xUO ∈ zWS := zin 371 (by decide +kernel) (by decide +kernel)
theorem st_L_build : Cond.static yy_L_build ∈ zWS := zin 369 (by decide +kernel) (by decide +kernel)
theorem cw_L_react : Cond.codeWith yy_L_react cc_L_react 4 (some .int) [(0, 9, 12, 13), (0, 9, 15, 15)] ∈ zWS ∧ Cond.initialized yy_L_react.cls ∈ zWS ∧ yy_L_react.cls ≠ "java/lang/invoke/MethodHandle" ∧ yy_L_react.cls ≠ "java/lang/invoke/VarHandle" ∧ (parseMethodDescriptor yy_L_react.desc).map (fun d => d.parameters.length) = some 3 ∧ 4 ≤ 45 := ⟨zin 416 (by decide +kernel) (by decide +kernel), zin 34 (by decide +kernel) (by decide +kernel), by decide, by decide, by decide +kernel, by decide⟩
theorem st_L_react : Cond.static yy_L_react ∈ zWS := zin 415 (by decide +kernel) (by decide +kernel)
theorem cw_L_reset : Cond.codeWith yy_L_reset cc_L_reset 3 (some .int) [(0, 8, 11, 15)] ∈ zWS ∧ Cond.initialized yy_L_reset.cls ∈ zWS ∧ yy_L_reset.cls ≠ "java/lang/invoke/MethodHandle" ∧ yy_L_reset.cls ≠ "java/lang/invoke/VarHandle" ∧ (parseMethodDescriptor yy_L_reset.desc).map (fun d => d.parameters.length) = some 2 ∧ 3 ≤ 45 := ⟨zin 502 (by decide +kernel) (by decide +kernel), zin 34 (by decide +kernel) (by decide +kernel), by decide, by decide, by decide +kernel, by decide⟩
theorem st_L_reset : Cond.static yy_L_reset ∈ zWS := zin 501 (by decide +kernel) (by decide +kernel)
theorem cw_L_register : Cond.codeWith yy_L_register cc_L_register 4 (some .int) [(0, 16, 19, 21)] ∈ zWS ∧ Cond.initialized yy_L_register.cls ∈ zWS ∧ yy_L_register.cls ≠ "java/lang/invoke/MethodHandle" ∧ yy_L_register.cls ≠ "java/lang/invoke/VarHandle" ∧ (parseMethodDescriptor yy_L_register.desc).map (fun d => d.parameters.length) = some 3 ∧ 4 ≤ 45 := ⟨zin 510 (by decide +kernel) (by decide +kernel), zin 34 (by decide +kernel) (by decide +kernel), by decide, by decide, by decide +kernel, by decide⟩
theorem st_L_register : Cond.static yy_L_register ∈ zWS := zin 509 (by decide +kernel) (by decide +kernel)
theorem cw_L_count : Cond.codeWith yy_L_count cc_L_count 4 (some .int) [(0, 9, 12, 21)] ∈ zWS ∧ Cond.initialized yy_L_count.cls ∈ zWS ∧ yy_L_count.cls ≠ "java/lang/invoke/MethodHandle" ∧ yy_L_count.cls ≠ "java/lang/invoke/VarHandle" ∧ (parseMethodDescriptor yy_L_count.desc).map (fun d => d.parameters.length) = some 3 ∧ 4 ≤ 45 := ⟨zin 518 (by decide +kernel) (by decide +kernel), zin 34 (by decide +kernel) (by decide +kernel), by decide, by decide, by decide +kernel, by decide⟩
theorem st_L_count : Cond.static yy_L_count ∈ zWS := zin 517 (by decide +kernel) (by decide +kernel)
theorem lx_L_7 : Cond.methodLink rr_L 7 yy_X_make ∈ zWS := zin 206 (by decide +kernel) (by decide +kernel)
theorem lx_L_17 : Cond.methodLink rr_L 17 yy_X_can ∈ zWS := zin 347 (by decide +kernel) (by decide +kernel)
theorem lx_L_23 : Cond.methodLink rr_L 23 yy_X_build ∈ zWS := zin 372 (by decide +kernel) (by decide +kernel)
theorem lx_L_28 : Cond.methodLink rr_L 28 yy_X_react ∈ zWS := zin 417 (by decide +kernel) (by decide +kernel)
theorem lx_L_31 : Cond.methodLink rr_L 31 yy_X_reset ∈ zWS := zin 503 (by decide +kernel) (by decide +kernel)
theorem lx_L_35 : Cond.methodLink rr_L 35 yy_X_register ∈ zWS := zin 511 (by decide +kernel) (by decide +kernel)
theorem lx_L_39 : Cond.methodLink rr_L 39 yy_X_count ∈ zWS := zin 519 (by decide +kernel) (by decide +kernel)
theorem lx_L_46 : Cond.methodLink rr_L 46 yy_L_make ∈ zWS := zin 201 (by decide +kernel) (by decide +kernel)
theorem lx_L_55 : Cond.methodLink rr_L 55 yy_L_can ∈ zWS := zin 343 (by decide +kernel) (by decide +kernel)
theorem lx_L_59 : Cond.methodLink rr_L 59 yy_L_build ∈ zWS := zin 368 (by decide +kernel) (by decide +kernel)
theorem lx_L_62 : Cond.methodLink rr_L 62 yy_L_react ∈ zWS := zin 414 (by decide +kernel) (by decide +kernel)
theorem lx_L_69 : Cond.methodLink rr_L 69 yy_L_reset ∈ zWS := zin 500 (by decide +kernel) (by decide +kernel)
theorem lx_L_73 : Cond.methodLink rr_L 73 yy_L_register ∈ zWS := zin 508 (by decide +kernel) (by decide +kernel)
theorem lx_L_81 : Cond.methodLink rr_L 81 yy_L_count ∈ zWS := zin 516 (by decide +kernel) (by decide +kernel)
