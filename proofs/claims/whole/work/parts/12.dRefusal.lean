set_option maxRecDepth 20000 in
theorem mX4_init : Cond.code yX4_init cX4_init 1 none ∈ gTbl ∧ Cond.initialized yX4_init.cls ∈ gTbl ∧ (yX4_init.cls ≠ "java/lang/invoke/MethodHandle" ∧ yX4_init.cls ≠ "java/lang/invoke/VarHandle" ∧ (parseMethodDescriptor yX4_init.desc).map (fun d => d.parameters.length) = some 0) ∧ 1 ≤ 15 := ⟨g_in 92 rfl rfl, g_in 48 (by decide +kernel) (by decide +kernel), ⟨by decide +kernel, by decide +kernel, by decide +kernel⟩, by decide⟩
theorem iX4_init : Cond.instanceMethod yX4_init ∈ gTbl := g_in 91 (by decide +kernel) (by decide +kernel)
theorem kX4_3 : Cond.methodLink RX4 3 objectInit ∈ gTbl := g_in 93 (by decide +kernel) (by decide +kernel)
theorem kX4_9 : Cond.fieldLink RX4 9 "TypeFold$Refusal" "error" "I" ∈ gTbl := g_in 94 (by decide +kernel) (by decide +kernel)
theorem kX4_15 : Cond.fieldLink RX4 15 "TypeFold$Refusal" "stood" "I" ∈ gTbl := g_in 95 (by decide +kernel) (by decide +kernel)
theorem kX4_43 : Cond.fieldLink RX4 43 "TypeFold$Refusal" "items" "I" ∈ gTbl := g_in 96 (by decide +kernel) (by decide +kernel)
set_option maxRecDepth 20000 in
theorem mX4_judge : Cond.code yX4_judge cX4_judge 2 ((some .int)) ∈ gTbl ∧ Cond.initialized yX4_judge.cls ∈ gTbl ∧ (yX4_judge.cls ≠ "java/lang/invoke/MethodHandle" ∧ yX4_judge.cls ≠ "java/lang/invoke/VarHandle" ∧ (parseMethodDescriptor yX4_judge.desc).map (fun d => d.parameters.length) = some 1) ∧ 2 ≤ 15 := ⟨g_in 268 rfl rfl, g_in 48 (by decide +kernel) (by decide +kernel), ⟨by decide +kernel, by decide +kernel, by decide +kernel⟩, by decide⟩
theorem iX4_judge : Cond.instanceMethod yX4_judge ∈ gTbl := g_in 266 (by decide +kernel) (by decide +kernel)
theorem sX4_judge : Cond.selects yX4_judge.cls yX4_judge yX4_judge ∈ gTbl := g_in 267 (by decide +kernel) (by decide +kernel)
theorem kX4_18 : Cond.methodLink RX4 18 yX4_headError ∈ gTbl := g_in 269 (by decide +kernel) (by decide +kernel)
set_option maxRecDepth 20000 in
theorem mX4_headError : Cond.code yX4_headError cX4_headError 5 ((some .int)) ∈ gTbl ∧ Cond.initialized yX4_headError.cls ∈ gTbl ∧ (yX4_headError.cls ≠ "java/lang/invoke/MethodHandle" ∧ yX4_headError.cls ≠ "java/lang/invoke/VarHandle" ∧ (parseMethodDescriptor yX4_headError.desc).map (fun d => d.parameters.length) = some 1) ∧ 5 ≤ 15 := ⟨g_in 271 rfl rfl, g_in 48 (by decide +kernel) (by decide +kernel), ⟨by decide +kernel, by decide +kernel, by decide +kernel⟩, by decide⟩
theorem iX4_headError : Cond.static yX4_headError ∈ gTbl := g_in 270 (by decide +kernel) (by decide +kernel)
theorem kX4_25 : Cond.methodLink RX4 25 yX5_count ∈ gTbl := g_in 272 (by decide +kernel) (by decide +kernel)
theorem kX4_31 : Cond.methodLink RX4 31 yX5_number ∈ gTbl := g_in 276 (by decide +kernel) (by decide +kernel)
theorem kX4_35 : Cond.constantLong RX4 35 (60319) ∈ gTbl := g_in 281 (by decide +kernel) (by decide +kernel)
theorem kX4_37 : Cond.methodLink RX4 37 yX5_at ∈ gTbl := g_in 282 (by decide +kernel) (by decide +kernel)
theorem kX4_41 : Cond.constantLong RX4 41 (24) ∈ gTbl := g_in 287 (by decide +kernel) (by decide +kernel)
theorem kX4_22 : Cond.methodLink RX4 22 yX4_typesError ∈ gTbl := g_in 288 (by decide +kernel) (by decide +kernel)
set_option maxRecDepth 20000 in
theorem mX4_typesError : Cond.code yX4_typesError cX4_typesError 8 ((some .int)) ∈ gTbl ∧ Cond.initialized yX4_typesError.cls ∈ gTbl ∧ (yX4_typesError.cls ≠ "java/lang/invoke/MethodHandle" ∧ yX4_typesError.cls ≠ "java/lang/invoke/VarHandle" ∧ (parseMethodDescriptor yX4_typesError.desc).map (fun d => d.parameters.length) = some 1) ∧ 8 ≤ 15 := ⟨g_in 291 rfl rfl, g_in 48 (by decide +kernel) (by decide +kernel), ⟨by decide +kernel, by decide +kernel, by decide +kernel⟩, by decide⟩
theorem iX4_typesError : Cond.instanceMethod yX4_typesError ∈ gTbl := g_in 290 (by decide +kernel) (by decide +kernel)
theorem sX4_typesError : Cond.selects yX4_typesError.cls yX4_typesError yX4_typesError ∈ gTbl := g_in 0 (by decide +kernel) (by decide +kernel)
theorem kX4_46 : Cond.methodLink RX4 46 yX4_typeError ∈ gTbl := g_in 292 (by decide +kernel) (by decide +kernel)
set_option maxRecDepth 20000 in
theorem mX4_typeError : Cond.code yX4_typeError cX4_typeError 7 ((some .int)) ∈ gTbl ∧ Cond.initialized yX4_typeError.cls ∈ gTbl ∧ (yX4_typeError.cls ≠ "java/lang/invoke/MethodHandle" ∧ yX4_typeError.cls ≠ "java/lang/invoke/VarHandle" ∧ (parseMethodDescriptor yX4_typeError.desc).map (fun d => d.parameters.length) = some 3) ∧ 7 ≤ 15 := ⟨g_in 295 rfl rfl, g_in 48 (by decide +kernel) (by decide +kernel), ⟨by decide +kernel, by decide +kernel, by decide +kernel⟩, by decide⟩
theorem iX4_typeError : Cond.instanceMethod yX4_typeError ∈ gTbl := g_in 294 (by decide +kernel) (by decide +kernel)
theorem sX4_typeError : Cond.selects yX4_typeError.cls yX4_typeError yX4_typeError ∈ gTbl := g_in 1 (by decide +kernel) (by decide +kernel)
theorem kX4_66 : Cond.methodLink RX4 66 yX1_kind ∈ gTbl := g_in 296 (by decide +kernel) (by decide +kernel)
theorem kX4_60 : Cond.methodLink RX4 60 yX1_words ∈ gTbl := g_in 299 (by decide +kernel) (by decide +kernel)
theorem kX4_69 : Cond.methodLink RX4 69 yX1_itemWords ∈ gTbl := g_in 313 (by decide +kernel) (by decide +kernel)
theorem kX4_72 : Cond.methodLink RX4 72 yX1_tally ∈ gTbl := g_in 314 (by decide +kernel) (by decide +kernel)
theorem kX4_75 : Cond.methodLink RX4 75 yX4_infoHolds ∈ gTbl := g_in 315 (by decide +kernel) (by decide +kernel)
set_option maxRecDepth 20000 in
theorem mX4_infoHolds : Cond.code yX4_infoHolds cX4_infoHolds 3 ((some .boolean)) ∈ gTbl ∧ Cond.initialized yX4_infoHolds.cls ∈ gTbl ∧ (yX4_infoHolds.cls ≠ "java/lang/invoke/MethodHandle" ∧ yX4_infoHolds.cls ≠ "java/lang/invoke/VarHandle" ∧ (parseMethodDescriptor yX4_infoHolds.desc).map (fun d => d.parameters.length) = some 1) ∧ 3 ≤ 15 := ⟨g_in 317 rfl rfl, g_in 48 (by decide +kernel) (by decide +kernel), ⟨by decide +kernel, by decide +kernel, by decide +kernel⟩, by decide⟩
theorem iX4_infoHolds : Cond.static yX4_infoHolds ∈ gTbl := g_in 316 (by decide +kernel) (by decide +kernel)
theorem kX4_91 : Cond.constantLong RX4 91 (1627324416) ∈ gTbl := g_in 318 (by decide +kernel) (by decide +kernel)
theorem kX4_93 : Cond.methodLink RX4 93 yX1_flag ∈ gTbl := g_in 319 (by decide +kernel) (by decide +kernel)
theorem kX4_79 : Cond.methodLink RX4 79 yX4_restHolds ∈ gTbl := g_in 322 (by decide +kernel) (by decide +kernel)
set_option maxRecDepth 20000 in
theorem mX4_restHolds : Cond.code yX4_restHolds cX4_restHolds 5 ((some .boolean)) ∈ gTbl ∧ Cond.initialized yX4_restHolds.cls ∈ gTbl ∧ (yX4_restHolds.cls ≠ "java/lang/invoke/MethodHandle" ∧ yX4_restHolds.cls ≠ "java/lang/invoke/VarHandle" ∧ (parseMethodDescriptor yX4_restHolds.desc).map (fun d => d.parameters.length) = some 3) ∧ 5 ≤ 15 := ⟨g_in 324 rfl rfl, g_in 48 (by decide +kernel) (by decide +kernel), ⟨by decide +kernel, by decide +kernel, by decide +kernel⟩, by decide⟩
theorem iX4_restHolds : Cond.static yX4_restHolds ∈ gTbl := g_in 323 (by decide +kernel) (by decide +kernel)
theorem kX4_96 : Cond.methodLink RX4 96 yX4_isSmallSize ∈ gTbl := g_in 325 (by decide +kernel) (by decide +kernel)
set_option maxRecDepth 20000 in
theorem mX4_isSmallSize : Cond.code yX4_isSmallSize cX4_isSmallSize 2 ((some .boolean)) ∈ gTbl ∧ Cond.initialized yX4_isSmallSize.cls ∈ gTbl ∧ (yX4_isSmallSize.cls ≠ "java/lang/invoke/MethodHandle" ∧ yX4_isSmallSize.cls ≠ "java/lang/invoke/VarHandle" ∧ (parseMethodDescriptor yX4_isSmallSize.desc).map (fun d => d.parameters.length) = some 1) ∧ 2 ≤ 15 := ⟨g_in 327 rfl rfl, g_in 48 (by decide +kernel) (by decide +kernel), ⟨by decide +kernel, by decide +kernel, by decide +kernel⟩, by decide⟩
theorem iX4_isSmallSize : Cond.static yX4_isSmallSize ∈ gTbl := g_in 326 (by decide +kernel) (by decide +kernel)
theorem kX4_105 : Cond.constantLong RX4 105 (2) ∈ gTbl := g_in 328 (by decide +kernel) (by decide +kernel)
theorem kX4_107 : Cond.constantLong RX4 107 (4) ∈ gTbl := g_in 329 (by decide +kernel) (by decide +kernel)
theorem kX4_109 : Cond.constantLong RX4 109 (8) ∈ gTbl := g_in 330 (by decide +kernel) (by decide +kernel)
theorem kX4_99 : Cond.constantLong RX4 99 (16) ∈ gTbl := g_in 331 (by decide +kernel) (by decide +kernel)
theorem kX4_101 : Cond.methodLink RX4 101 yX4_intHolds ∈ gTbl := g_in 332 (by decide +kernel) (by decide +kernel)
set_option maxRecDepth 20000 in
theorem mX4_intHolds : Cond.code yX4_intHolds cX4_intHolds 8 ((some .boolean)) ∈ gTbl ∧ Cond.initialized yX4_intHolds.cls ∈ gTbl ∧ (yX4_intHolds.cls ≠ "java/lang/invoke/MethodHandle" ∧ yX4_intHolds.cls ≠ "java/lang/invoke/VarHandle" ∧ (parseMethodDescriptor yX4_intHolds.desc).map (fun d => d.parameters.length) = some 2) ∧ 8 ≤ 15 := ⟨g_in 334 rfl rfl, g_in 48 (by decide +kernel) (by decide +kernel), ⟨by decide +kernel, by decide +kernel, by decide +kernel⟩, by decide⟩
theorem iX4_intHolds : Cond.static yX4_intHolds ∈ gTbl := g_in 333 (by decide +kernel) (by decide +kernel)
theorem kX4_111 : Cond.constantLong RX4 111 (255) ∈ gTbl := g_in 335 (by decide +kernel) (by decide +kernel)
theorem kX4_113 : Cond.constantLong RX4 113 (4026597120) ∈ gTbl := g_in 336 (by decide +kernel) (by decide +kernel)
theorem kX4_83 : Cond.methodLink RX4 83 yX4_namesLieWithin ∈ gTbl := g_in 337 (by decide +kernel) (by decide +kernel)
set_option maxRecDepth 20000 in
theorem mX4_namesLieWithin : Cond.code yX4_namesLieWithin cX4_namesLieWithin 8 ((some .boolean)) ∈ gTbl ∧ Cond.initialized yX4_namesLieWithin.cls ∈ gTbl ∧ (yX4_namesLieWithin.cls ≠ "java/lang/invoke/MethodHandle" ∧ yX4_namesLieWithin.cls ≠ "java/lang/invoke/VarHandle" ∧ (parseMethodDescriptor yX4_namesLieWithin.desc).map (fun d => d.parameters.length) = some 3) ∧ 8 ≤ 15 := ⟨g_in 339 rfl rfl, g_in 48 (by decide +kernel) (by decide +kernel), ⟨by decide +kernel, by decide +kernel, by decide +kernel⟩, by decide⟩
theorem iX4_namesLieWithin : Cond.static yX4_namesLieWithin ∈ gTbl := g_in 338 (by decide +kernel) (by decide +kernel)
theorem kX4_115 : Cond.methodLink RX4 115 yX1_role ∈ gTbl := g_in 340 (by decide +kernel) (by decide +kernel)
theorem kX4_87 : Cond.methodLink RX4 87 yX4_ownNameHolds ∈ gTbl := g_in 346 (by decide +kernel) (by decide +kernel)
set_option maxRecDepth 20000 in
theorem mX4_ownNameHolds : Cond.code yX4_ownNameHolds cX4_ownNameHolds 5 ((some .boolean)) ∈ gTbl ∧ Cond.initialized yX4_ownNameHolds.cls ∈ gTbl ∧ (yX4_ownNameHolds.cls ≠ "java/lang/invoke/MethodHandle" ∧ yX4_ownNameHolds.cls ≠ "java/lang/invoke/VarHandle" ∧ (parseMethodDescriptor yX4_ownNameHolds.desc).map (fun d => d.parameters.length) = some 4) ∧ 5 ≤ 15 := ⟨g_in 348 rfl rfl, g_in 48 (by decide +kernel) (by decide +kernel), ⟨by decide +kernel, by decide +kernel, by decide +kernel⟩, by decide⟩
theorem iX4_ownNameHolds : Cond.static yX4_ownNameHolds ∈ gTbl := g_in 347 (by decide +kernel) (by decide +kernel)
theorem kX4_50 : Cond.methodLink RX4 50 yX4_highestReference ∈ gTbl := g_in 349 (by decide +kernel) (by decide +kernel)
set_option maxRecDepth 20000 in
theorem mX4_highestReference : Cond.code yX4_highestReference cX4_highestReference 9 ((some .long)) ∈ gTbl ∧ Cond.initialized yX4_highestReference.cls ∈ gTbl ∧ (yX4_highestReference.cls ≠ "java/lang/invoke/MethodHandle" ∧ yX4_highestReference.cls ≠ "java/lang/invoke/VarHandle" ∧ (parseMethodDescriptor yX4_highestReference.desc).map (fun d => d.parameters.length) = some 2) ∧ 9 ≤ 15 := ⟨g_in 351 rfl rfl, g_in 48 (by decide +kernel) (by decide +kernel), ⟨by decide +kernel, by decide +kernel, by decide +kernel⟩, by decide⟩
theorem iX4_highestReference : Cond.static yX4_highestReference ∈ gTbl := g_in 350 (by decide +kernel) (by decide +kernel)
theorem kX4_54 : Cond.methodLink RX4 54 ⟨"java/lang/Math", "max", "(JJ)J"⟩ ∈ gTbl := g_in 352 (by decide +kernel) (by decide +kernel)
set_option maxRecDepth 20000 in
theorem mX4_error : Cond.code yX4_error cX4_error 1 ((some .int)) ∈ gTbl ∧ Cond.initialized yX4_error.cls ∈ gTbl ∧ (yX4_error.cls ≠ "java/lang/invoke/MethodHandle" ∧ yX4_error.cls ≠ "java/lang/invoke/VarHandle" ∧ (parseMethodDescriptor yX4_error.desc).map (fun d => d.parameters.length) = some 0) ∧ 1 ≤ 15 := ⟨g_in 800 rfl rfl, g_in 48 (by decide +kernel) (by decide +kernel), ⟨by decide +kernel, by decide +kernel, by decide +kernel⟩, by decide⟩
theorem iX4_error : Cond.instanceMethod yX4_error ∈ gTbl := g_in 798 (by decide +kernel) (by decide +kernel)
theorem sX4_error : Cond.selects yX4_error.cls yX4_error yX4_error ∈ gTbl := g_in 799 (by decide +kernel) (by decide +kernel)
set_option maxRecDepth 20000 in
theorem mX4_stood : Cond.code yX4_stood cX4_stood 1 ((some .int)) ∈ gTbl ∧ Cond.initialized yX4_stood.cls ∈ gTbl ∧ (yX4_stood.cls ≠ "java/lang/invoke/MethodHandle" ∧ yX4_stood.cls ≠ "java/lang/invoke/VarHandle" ∧ (parseMethodDescriptor yX4_stood.desc).map (fun d => d.parameters.length) = some 0) ∧ 1 ≤ 15 := ⟨g_in 804 rfl rfl, g_in 48 (by decide +kernel) (by decide +kernel), ⟨by decide +kernel, by decide +kernel, by decide +kernel⟩, by decide⟩
theorem iX4_stood : Cond.instanceMethod yX4_stood ∈ gTbl := g_in 802 (by decide +kernel) (by decide +kernel)
theorem sX4_stood : Cond.selects yX4_stood.cls yX4_stood yX4_stood ∈ gTbl := g_in 803 (by decide +kernel) (by decide +kernel)
theorem dX4_init_0 : decode cX4_init 0 = .ok (.aload_n 0, 1) := by decide +kernel
theorem dX4_init_1 : decode cX4_init 1 = .ok (.invokespecial 3, 3) := by decide +kernel
theorem dX4_init_4 : decode cX4_init 4 = .ok (.return_, 1) := by decide +kernel
theorem dX4_error_0 : decode cX4_error 0 = .ok (.aload_n 0, 1) := by decide +kernel
theorem dX4_error_1 : decode cX4_error 1 = .ok (.getfield 9, 3) := by decide +kernel
theorem dX4_error_4 : decode cX4_error 4 = .ok (.ireturn, 1) := by decide +kernel
theorem dX4_stood_0 : decode cX4_stood 0 = .ok (.aload_n 0, 1) := by decide +kernel
theorem dX4_stood_1 : decode cX4_stood 1 = .ok (.getfield 15, 3) := by decide +kernel
theorem dX4_stood_4 : decode cX4_stood 4 = .ok (.ireturn, 1) := by decide +kernel
theorem dX4_judge_0 : decode cX4_judge 0 = .ok (.aload_n 0, 1) := by decide +kernel
theorem dX4_judge_1 : decode cX4_judge 1 = .ok (.iconst 0, 1) := by decide +kernel
theorem dX4_judge_2 : decode cX4_judge 2 = .ok (.putfield 15, 3) := by decide +kernel
theorem dX4_judge_5 : decode cX4_judge 5 = .ok (.aload_n 0, 1) := by decide +kernel
theorem dX4_judge_6 : decode cX4_judge 6 = .ok (.aload_n 1, 1) := by decide +kernel
theorem dX4_judge_7 : decode cX4_judge 7 = .ok (.invokestatic 18, 3) := by decide +kernel
theorem dX4_judge_10 : decode cX4_judge 10 = .ok (.putfield 9, 3) := by decide +kernel
theorem dX4_judge_13 : decode cX4_judge 13 = .ok (.aload_n 0, 1) := by decide +kernel
theorem dX4_judge_14 : decode cX4_judge 14 = .ok (.getfield 9, 3) := by decide +kernel
theorem dX4_judge_17 : decode cX4_judge 17 = .ok (.ifCond .ne 12, 3) := by decide +kernel
theorem dX4_judge_20 : decode cX4_judge 20 = .ok (.aload_n 0, 1) := by decide +kernel
theorem dX4_judge_21 : decode cX4_judge 21 = .ok (.aload_n 0, 1) := by decide +kernel
theorem dX4_judge_22 : decode cX4_judge 22 = .ok (.aload_n 1, 1) := by decide +kernel
theorem dX4_judge_23 : decode cX4_judge 23 = .ok (.invokevirtual 22, 3) := by decide +kernel
theorem dX4_judge_26 : decode cX4_judge 26 = .ok (.putfield 9, 3) := by decide +kernel
theorem dX4_judge_29 : decode cX4_judge 29 = .ok (.aload_n 0, 1) := by decide +kernel
theorem dX4_judge_30 : decode cX4_judge 30 = .ok (.getfield 9, 3) := by decide +kernel
theorem dX4_judge_33 : decode cX4_judge 33 = .ok (.ireturn, 1) := by decide +kernel
theorem dX4_headError_0 : decode cX4_headError 0 = .ok (.aload_n 0, 1) := by decide +kernel
theorem dX4_headError_1 : decode cX4_headError 1 = .ok (.invokevirtual 25, 3) := by decide +kernel
theorem dX4_headError_4 : decode cX4_headError 4 = .ok (.bipush 24, 2) := by decide +kernel
theorem dX4_headError_6 : decode cX4_headError 6 = .ok (.if_icmp .lt 58, 3) := by decide +kernel
theorem dX4_headError_9 : decode cX4_headError 9 = .ok (.aload_n 0, 1) := by decide +kernel
theorem dX4_headError_10 : decode cX4_headError 10 = .ok (.iconst 0, 1) := by decide +kernel
theorem dX4_headError_11 : decode cX4_headError 11 = .ok (.iconst 2, 1) := by decide +kernel
theorem dX4_headError_12 : decode cX4_headError 12 = .ok (.invokevirtual 31, 3) := by decide +kernel
theorem dX4_headError_15 : decode cX4_headError 15 = .ok (.ldc2_w 35, 3) := by decide +kernel
theorem dX4_headError_18 : decode cX4_headError 18 = .ok (.lcmp, 1) := by decide +kernel
theorem dX4_headError_19 : decode cX4_headError 19 = .ok (.ifCond .ne 45, 3) := by decide +kernel
theorem dX4_headError_22 : decode cX4_headError 22 = .ok (.aload_n 0, 1) := by decide +kernel
theorem dX4_headError_23 : decode cX4_headError 23 = .ok (.iconst 2, 1) := by decide +kernel
theorem dX4_headError_24 : decode cX4_headError 24 = .ok (.invokevirtual 37, 3) := by decide +kernel
theorem dX4_headError_27 : decode cX4_headError 27 = .ok (.iconst 1, 1) := by decide +kernel
theorem dX4_headError_28 : decode cX4_headError 28 = .ok (.if_icmp .ne 36, 3) := by decide +kernel
theorem dX4_headError_31 : decode cX4_headError 31 = .ok (.aload_n 0, 1) := by decide +kernel
theorem dX4_headError_32 : decode cX4_headError 32 = .ok (.iconst 3, 1) := by decide +kernel
theorem dX4_headError_33 : decode cX4_headError 33 = .ok (.invokevirtual 37, 3) := by decide +kernel
theorem dX4_headError_36 : decode cX4_headError 36 = .ok (.ifCond .ne 28, 3) := by decide +kernel
theorem dX4_headError_39 : decode cX4_headError 39 = .ok (.aload_n 0, 1) := by decide +kernel
theorem dX4_headError_40 : decode cX4_headError 40 = .ok (.iconst 4, 1) := by decide +kernel
theorem dX4_headError_41 : decode cX4_headError 41 = .ok (.iconst 4, 1) := by decide +kernel
theorem dX4_headError_42 : decode cX4_headError 42 = .ok (.invokevirtual 31, 3) := by decide +kernel
theorem dX4_headError_45 : decode cX4_headError 45 = .ok (.ldc2_w 41, 3) := by decide +kernel
theorem dX4_headError_48 : decode cX4_headError 48 = .ok (.lcmp, 1) := by decide +kernel
theorem dX4_headError_49 : decode cX4_headError 49 = .ok (.ifCond .ne 15, 3) := by decide +kernel
theorem dX4_headError_52 : decode cX4_headError 52 = .ok (.aload_n 0, 1) := by decide +kernel
theorem dX4_headError_53 : decode cX4_headError 53 = .ok (.bipush 8, 2) := by decide +kernel
theorem dX4_headError_55 : decode cX4_headError 55 = .ok (.iconst 4, 1) := by decide +kernel
theorem dX4_headError_56 : decode cX4_headError 56 = .ok (.invokevirtual 31, 3) := by decide +kernel
theorem dX4_headError_59 : decode cX4_headError 59 = .ok (.lconst 0, 1) := by decide +kernel
theorem dX4_headError_60 : decode cX4_headError 60 = .ok (.lcmp, 1) := by decide +kernel
theorem dX4_headError_61 : decode cX4_headError 61 = .ok (.ifCond .eq 5, 3) := by decide +kernel
theorem dX4_headError_64 : decode cX4_headError 64 = .ok (.iconst 1, 1) := by decide +kernel
theorem dX4_headError_65 : decode cX4_headError 65 = .ok (.ireturn, 1) := by decide +kernel
theorem dX4_headError_66 : decode cX4_headError 66 = .ok (.aload_n 0, 1) := by decide +kernel
theorem dX4_headError_67 : decode cX4_headError 67 = .ok (.bipush 12, 2) := by decide +kernel
theorem dX4_headError_69 : decode cX4_headError 69 = .ok (.iconst 4, 1) := by decide +kernel
theorem dX4_headError_70 : decode cX4_headError 70 = .ok (.invokevirtual 31, 3) := by decide +kernel
theorem dX4_headError_73 : decode cX4_headError 73 = .ok (.lstore_n 1, 1) := by decide +kernel
theorem dX4_headError_74 : decode cX4_headError 74 = .ok (.aload_n 0, 1) := by decide +kernel
theorem dX4_headError_75 : decode cX4_headError 75 = .ok (.bipush 20, 2) := by decide +kernel
theorem dX4_headError_77 : decode cX4_headError 77 = .ok (.iconst 4, 1) := by decide +kernel
theorem dX4_headError_78 : decode cX4_headError 78 = .ok (.invokevirtual 31, 3) := by decide +kernel
theorem dX4_headError_81 : decode cX4_headError 81 = .ok (.lstore_n 3, 1) := by decide +kernel
theorem dX4_headError_82 : decode cX4_headError 82 = .ok (.aload_n 0, 1) := by decide +kernel
theorem dX4_headError_83 : decode cX4_headError 83 = .ok (.bipush 16, 2) := by decide +kernel
theorem dX4_headError_85 : decode cX4_headError 85 = .ok (.iconst 4, 1) := by decide +kernel
theorem dX4_headError_86 : decode cX4_headError 86 = .ok (.invokevirtual 31, 3) := by decide +kernel
theorem dX4_headError_89 : decode cX4_headError 89 = .ok (.lload_n 1, 1) := by decide +kernel
theorem dX4_headError_90 : decode cX4_headError 90 = .ok (.lcmp, 1) := by decide +kernel
theorem dX4_headError_91 : decode cX4_headError 91 = .ok (.ifCond .ne 25, 3) := by decide +kernel
theorem dX4_headError_94 : decode cX4_headError 94 = .ok (.aload_n 0, 1) := by decide +kernel
theorem dX4_headError_95 : decode cX4_headError 95 = .ok (.invokevirtual 25, 3) := by decide +kernel
theorem dX4_headError_98 : decode cX4_headError 98 = .ok (.i2l, 1) := by decide +kernel
theorem dX4_headError_99 : decode cX4_headError 99 = .ok (.ldc2_w 41, 3) := by decide +kernel
theorem dX4_headError_102 : decode cX4_headError 102 = .ok (.lload_n 1, 1) := by decide +kernel
theorem dX4_headError_103 : decode cX4_headError 103 = .ok (.ladd, 1) := by decide +kernel
theorem dX4_headError_104 : decode cX4_headError 104 = .ok (.lload_n 3, 1) := by decide +kernel
theorem dX4_headError_105 : decode cX4_headError 105 = .ok (.ladd, 1) := by decide +kernel
theorem dX4_headError_106 : decode cX4_headError 106 = .ok (.lcmp, 1) := by decide +kernel
theorem dX4_headError_107 : decode cX4_headError 107 = .ok (.ifCond .ne 9, 3) := by decide +kernel
theorem dX4_headError_110 : decode cX4_headError 110 = .ok (.lload_n 3, 1) := by decide +kernel
theorem dX4_headError_111 : decode cX4_headError 111 = .ok (.lconst 0, 1) := by decide +kernel
theorem dX4_headError_112 : decode cX4_headError 112 = .ok (.lcmp, 1) := by decide +kernel
theorem dX4_headError_113 : decode cX4_headError 113 = .ok (.ifCond .ne 5, 3) := by decide +kernel
theorem dX4_headError_116 : decode cX4_headError 116 = .ok (.iconst 2, 1) := by decide +kernel
theorem dX4_headError_117 : decode cX4_headError 117 = .ok (.ireturn, 1) := by decide +kernel
theorem dX4_headError_118 : decode cX4_headError 118 = .ok (.aload_n 0, 1) := by decide +kernel
theorem dX4_headError_119 : decode cX4_headError 119 = .ok (.bipush 24, 2) := by decide +kernel
theorem dX4_headError_121 : decode cX4_headError 121 = .ok (.lload_n 1, 1) := by decide +kernel
theorem dX4_headError_122 : decode cX4_headError 122 = .ok (.l2i, 1) := by decide +kernel
theorem dX4_headError_123 : decode cX4_headError 123 = .ok (.iadd, 1) := by decide +kernel
theorem dX4_headError_124 : decode cX4_headError 124 = .ok (.invokevirtual 37, 3) := by decide +kernel
theorem dX4_headError_127 : decode cX4_headError 127 = .ok (.ifCond .ne 16, 3) := by decide +kernel
theorem dX4_headError_130 : decode cX4_headError 130 = .ok (.aload_n 0, 1) := by decide +kernel
theorem dX4_headError_131 : decode cX4_headError 131 = .ok (.aload_n 0, 1) := by decide +kernel
theorem dX4_headError_132 : decode cX4_headError 132 = .ok (.invokevirtual 25, 3) := by decide +kernel
theorem dX4_headError_135 : decode cX4_headError 135 = .ok (.iconst 1, 1) := by decide +kernel
theorem dX4_headError_136 : decode cX4_headError 136 = .ok (.isub, 1) := by decide +kernel
theorem dX4_headError_137 : decode cX4_headError 137 = .ok (.invokevirtual 37, 3) := by decide +kernel
theorem dX4_headError_140 : decode cX4_headError 140 = .ok (.ifCond .eq 7, 3) := by decide +kernel
theorem dX4_headError_143 : decode cX4_headError 143 = .ok (.iconst 2, 1) := by decide +kernel
theorem dX4_headError_144 : decode cX4_headError 144 = .ok (.goto 4, 3) := by decide +kernel
theorem dX4_headError_147 : decode cX4_headError 147 = .ok (.iconst 0, 1) := by decide +kernel
theorem dX4_headError_148 : decode cX4_headError 148 = .ok (.ireturn, 1) := by decide +kernel
theorem dX4_typesError_0 : decode cX4_typesError 0 = .ok (.bipush 24, 2) := by decide +kernel
theorem dX4_typesError_2 : decode cX4_typesError 2 = .ok (.aload_n 1, 1) := by decide +kernel
theorem dX4_typesError_3 : decode cX4_typesError 3 = .ok (.bipush 12, 2) := by decide +kernel
theorem dX4_typesError_5 : decode cX4_typesError 5 = .ok (.iconst 4, 1) := by decide +kernel
theorem dX4_typesError_6 : decode cX4_typesError 6 = .ok (.invokevirtual 31, 3) := by decide +kernel
theorem dX4_typesError_9 : decode cX4_typesError 9 = .ok (.l2i, 1) := by decide +kernel
theorem dX4_typesError_10 : decode cX4_typesError 10 = .ok (.iadd, 1) := by decide +kernel
theorem dX4_typesError_11 : decode cX4_typesError 11 = .ok (.istore_n 2, 1) := by decide +kernel
theorem dX4_typesError_12 : decode cX4_typesError 12 = .ok (.bipush 24, 2) := by decide +kernel
theorem dX4_typesError_14 : decode cX4_typesError 14 = .ok (.istore_n 3, 1) := by decide +kernel
theorem dX4_typesError_15 : decode cX4_typesError 15 = .ok (.lconst 0, 1) := by decide +kernel
theorem dX4_typesError_16 : decode cX4_typesError 16 = .ok (.lstore 4, 2) := by decide +kernel
theorem dX4_typesError_18 : decode cX4_typesError 18 = .ok (.aload_n 0, 1) := by decide +kernel
theorem dX4_typesError_19 : decode cX4_typesError 19 = .ok (.iconst 0, 1) := by decide +kernel
theorem dX4_typesError_20 : decode cX4_typesError 20 = .ok (.putfield 43, 3) := by decide +kernel
theorem dX4_typesError_23 : decode cX4_typesError 23 = .ok (.iconst 1, 1) := by decide +kernel
theorem dX4_typesError_24 : decode cX4_typesError 24 = .ok (.istore 6, 2) := by decide +kernel
theorem dX4_typesError_26 : decode cX4_typesError 26 = .ok (.iload 6, 2) := by decide +kernel
theorem dX4_typesError_28 : decode cX4_typesError 28 = .ok (.sipush 201, 3) := by decide +kernel
theorem dX4_typesError_31 : decode cX4_typesError 31 = .ok (.if_icmp .gt 65, 3) := by decide +kernel
theorem dX4_typesError_34 : decode cX4_typesError 34 = .ok (.iload_n 3, 1) := by decide +kernel
theorem dX4_typesError_35 : decode cX4_typesError 35 = .ok (.iload_n 2, 1) := by decide +kernel
theorem dX4_typesError_36 : decode cX4_typesError 36 = .ok (.if_icmp .ge 60, 3) := by decide +kernel
theorem dX4_typesError_39 : decode cX4_typesError 39 = .ok (.aload_n 0, 1) := by decide +kernel
theorem dX4_typesError_40 : decode cX4_typesError 40 = .ok (.iload 6, 2) := by decide +kernel
theorem dX4_typesError_42 : decode cX4_typesError 42 = .ok (.putfield 15, 3) := by decide +kernel
theorem dX4_typesError_45 : decode cX4_typesError 45 = .ok (.aload_n 0, 1) := by decide +kernel
theorem dX4_typesError_46 : decode cX4_typesError 46 = .ok (.aload_n 1, 1) := by decide +kernel
theorem dX4_typesError_47 : decode cX4_typesError 47 = .ok (.iload_n 3, 1) := by decide +kernel
theorem dX4_typesError_48 : decode cX4_typesError 48 = .ok (.iload_n 2, 1) := by decide +kernel
theorem dX4_typesError_49 : decode cX4_typesError 49 = .ok (.invokevirtual 46, 3) := by decide +kernel
theorem dX4_typesError_52 : decode cX4_typesError 52 = .ok (.istore 7, 2) := by decide +kernel
theorem dX4_typesError_54 : decode cX4_typesError 54 = .ok (.iload 7, 2) := by decide +kernel
theorem dX4_typesError_56 : decode cX4_typesError 56 = .ok (.ifCond .eq 6, 3) := by decide +kernel
theorem dX4_typesError_59 : decode cX4_typesError 59 = .ok (.iload 7, 2) := by decide +kernel
theorem dX4_typesError_61 : decode cX4_typesError 61 = .ok (.ireturn, 1) := by decide +kernel
theorem dX4_typesError_62 : decode cX4_typesError 62 = .ok (.lload 4, 2) := by decide +kernel
theorem dX4_typesError_64 : decode cX4_typesError 64 = .ok (.aload_n 1, 1) := by decide +kernel
theorem dX4_typesError_65 : decode cX4_typesError 65 = .ok (.iload_n 3, 1) := by decide +kernel
theorem dX4_typesError_66 : decode cX4_typesError 66 = .ok (.invokestatic 50, 3) := by decide +kernel
theorem dX4_typesError_69 : decode cX4_typesError 69 = .ok (.invokestatic 54, 3) := by decide +kernel
theorem dX4_typesError_72 : decode cX4_typesError 72 = .ok (.lstore 4, 2) := by decide +kernel
theorem dX4_typesError_74 : decode cX4_typesError 74 = .ok (.iload_n 3, 1) := by decide +kernel
theorem dX4_typesError_75 : decode cX4_typesError 75 = .ok (.iconst 4, 1) := by decide +kernel
theorem dX4_typesError_76 : decode cX4_typesError 76 = .ok (.aload_n 1, 1) := by decide +kernel
theorem dX4_typesError_77 : decode cX4_typesError 77 = .ok (.iload_n 3, 1) := by decide +kernel
theorem dX4_typesError_78 : decode cX4_typesError 78 = .ok (.iconst 4, 1) := by decide +kernel
theorem dX4_typesError_79 : decode cX4_typesError 79 = .ok (.iadd, 1) := by decide +kernel
theorem dX4_typesError_80 : decode cX4_typesError 80 = .ok (.iconst 4, 1) := by decide +kernel
theorem dX4_typesError_81 : decode cX4_typesError 81 = .ok (.invokevirtual 31, 3) := by decide +kernel
theorem dX4_typesError_84 : decode cX4_typesError 84 = .ok (.invokestatic 60, 3) := by decide +kernel
theorem dX4_typesError_87 : decode cX4_typesError 87 = .ok (.imul, 1) := by decide +kernel
theorem dX4_typesError_88 : decode cX4_typesError 88 = .ok (.iadd, 1) := by decide +kernel
theorem dX4_typesError_89 : decode cX4_typesError 89 = .ok (.istore_n 3, 1) := by decide +kernel
theorem dX4_typesError_90 : decode cX4_typesError 90 = .ok (.iinc 6 1, 3) := by decide +kernel
theorem dX4_typesError_93 : decode cX4_typesError 93 = .ok (.goto (-67), 3) := by decide +kernel
theorem dX4_typesError_96 : decode cX4_typesError 96 = .ok (.aload_n 0, 1) := by decide +kernel
theorem dX4_typesError_97 : decode cX4_typesError 97 = .ok (.getfield 15, 3) := by decide +kernel
theorem dX4_typesError_100 : decode cX4_typesError 100 = .ok (.istore 6, 2) := by decide +kernel
theorem dX4_typesError_102 : decode cX4_typesError 102 = .ok (.aload_n 0, 1) := by decide +kernel
theorem dX4_typesError_103 : decode cX4_typesError 103 = .ok (.iconst 0, 1) := by decide +kernel
theorem dX4_typesError_104 : decode cX4_typesError 104 = .ok (.putfield 15, 3) := by decide +kernel
theorem dX4_typesError_107 : decode cX4_typesError 107 = .ok (.lload 4, 2) := by decide +kernel
theorem dX4_typesError_109 : decode cX4_typesError 109 = .ok (.iload 6, 2) := by decide +kernel
theorem dX4_typesError_111 : decode cX4_typesError 111 = .ok (.i2l, 1) := by decide +kernel
theorem dX4_typesError_112 : decode cX4_typesError 112 = .ok (.lcmp, 1) := by decide +kernel
theorem dX4_typesError_113 : decode cX4_typesError 113 = .ok (.ifCond .le 8, 3) := by decide +kernel
theorem dX4_typesError_116 : decode cX4_typesError 116 = .ok (.bipush 6, 2) := by decide +kernel
theorem dX4_typesError_118 : decode cX4_typesError 118 = .ok (.goto 4, 3) := by decide +kernel
theorem dX4_typesError_121 : decode cX4_typesError 121 = .ok (.iconst 0, 1) := by decide +kernel
theorem dX4_typesError_122 : decode cX4_typesError 122 = .ok (.ireturn, 1) := by decide +kernel
theorem dX4_typeError_0 : decode cX4_typeError 0 = .ok (.aload_n 1, 1) := by decide +kernel
theorem dX4_typeError_1 : decode cX4_typeError 1 = .ok (.iload_n 2, 1) := by decide +kernel
theorem dX4_typeError_2 : decode cX4_typeError 2 = .ok (.iconst 4, 1) := by decide +kernel
theorem dX4_typeError_3 : decode cX4_typeError 3 = .ok (.iadd, 1) := by decide +kernel
theorem dX4_typeError_4 : decode cX4_typeError 4 = .ok (.iconst 4, 1) := by decide +kernel
theorem dX4_typeError_5 : decode cX4_typeError 5 = .ok (.invokevirtual 31, 3) := by decide +kernel
theorem dX4_typeError_8 : decode cX4_typeError 8 = .ok (.lstore 4, 2) := by decide +kernel
theorem dX4_typeError_10 : decode cX4_typeError 10 = .ok (.lload 4, 2) := by decide +kernel
theorem dX4_typeError_12 : decode cX4_typeError 12 = .ok (.invokestatic 66, 3) := by decide +kernel
theorem dX4_typeError_15 : decode cX4_typeError 15 = .ok (.istore 6, 2) := by decide +kernel
theorem dX4_typeError_17 : decode cX4_typeError 17 = .ok (.iload_n 2, 1) := by decide +kernel
theorem dX4_typeError_18 : decode cX4_typeError 18 = .ok (.iconst 4, 1) := by decide +kernel
theorem dX4_typeError_19 : decode cX4_typeError 19 = .ok (.lload 4, 2) := by decide +kernel
theorem dX4_typeError_21 : decode cX4_typeError 21 = .ok (.invokestatic 60, 3) := by decide +kernel
theorem dX4_typeError_24 : decode cX4_typeError 24 = .ok (.imul, 1) := by decide +kernel
theorem dX4_typeError_25 : decode cX4_typeError 25 = .ok (.iadd, 1) := by decide +kernel
theorem dX4_typeError_26 : decode cX4_typeError 26 = .ok (.iload_n 3, 1) := by decide +kernel
theorem dX4_typeError_27 : decode cX4_typeError 27 = .ok (.if_icmp .le 5, 3) := by decide +kernel
theorem dX4_typeError_30 : decode cX4_typeError 30 = .ok (.iconst 3, 1) := by decide +kernel
theorem dX4_typeError_31 : decode cX4_typeError 31 = .ok (.ireturn, 1) := by decide +kernel
theorem dX4_typeError_32 : decode cX4_typeError 32 = .ok (.aload_n 0, 1) := by decide +kernel
theorem dX4_typeError_33 : decode cX4_typeError 33 = .ok (.dup, 1) := by decide +kernel
theorem dX4_typeError_34 : decode cX4_typeError 34 = .ok (.getfield 43, 3) := by decide +kernel
theorem dX4_typeError_37 : decode cX4_typeError 37 = .ok (.iload 6, 2) := by decide +kernel
theorem dX4_typeError_39 : decode cX4_typeError 39 = .ok (.invokestatic 69, 3) := by decide +kernel
theorem dX4_typeError_42 : decode cX4_typeError 42 = .ok (.ifCond .ne 7, 3) := by decide +kernel
theorem dX4_typeError_45 : decode cX4_typeError 45 = .ok (.iconst 0, 1) := by decide +kernel
theorem dX4_typeError_46 : decode cX4_typeError 46 = .ok (.goto 8, 3) := by decide +kernel
theorem dX4_typeError_49 : decode cX4_typeError 49 = .ok (.lload 4, 2) := by decide +kernel
theorem dX4_typeError_51 : decode cX4_typeError 51 = .ok (.invokestatic 72, 3) := by decide +kernel
theorem dX4_typeError_54 : decode cX4_typeError 54 = .ok (.iadd, 1) := by decide +kernel
theorem dX4_typeError_55 : decode cX4_typeError 55 = .ok (.putfield 43, 3) := by decide +kernel
theorem dX4_typeError_58 : decode cX4_typeError 58 = .ok (.aload_n 0, 1) := by decide +kernel
theorem dX4_typeError_59 : decode cX4_typeError 59 = .ok (.getfield 15, 3) := by decide +kernel
theorem dX4_typeError_62 : decode cX4_typeError 62 = .ok (.sipush 200, 3) := by decide +kernel
theorem dX4_typeError_65 : decode cX4_typeError 65 = .ok (.if_icmp .gt 47, 3) := by decide +kernel
theorem dX4_typeError_68 : decode cX4_typeError 68 = .ok (.aload_n 0, 1) := by decide +kernel
theorem dX4_typeError_69 : decode cX4_typeError 69 = .ok (.getfield 43, 3) := by decide +kernel
theorem dX4_typeError_72 : decode cX4_typeError 72 = .ok (.sipush 600, 3) := by decide +kernel
theorem dX4_typeError_75 : decode cX4_typeError 75 = .ok (.if_icmp .gt 37, 3) := by decide +kernel
theorem dX4_typeError_78 : decode cX4_typeError 78 = .ok (.lload 4, 2) := by decide +kernel
theorem dX4_typeError_80 : decode cX4_typeError 80 = .ok (.invokestatic 75, 3) := by decide +kernel
theorem dX4_typeError_83 : decode cX4_typeError 83 = .ok (.ifCond .eq 29, 3) := by decide +kernel
theorem dX4_typeError_86 : decode cX4_typeError 86 = .ok (.iload 6, 2) := by decide +kernel
theorem dX4_typeError_88 : decode cX4_typeError 88 = .ok (.aload_n 1, 1) := by decide +kernel
theorem dX4_typeError_89 : decode cX4_typeError 89 = .ok (.iload_n 2, 1) := by decide +kernel
theorem dX4_typeError_90 : decode cX4_typeError 90 = .ok (.bipush 8, 2) := by decide +kernel
theorem dX4_typeError_92 : decode cX4_typeError 92 = .ok (.iadd, 1) := by decide +kernel
theorem dX4_typeError_93 : decode cX4_typeError 93 = .ok (.iconst 4, 1) := by decide +kernel
theorem dX4_typeError_94 : decode cX4_typeError 94 = .ok (.invokevirtual 31, 3) := by decide +kernel
theorem dX4_typeError_97 : decode cX4_typeError 97 = .ok (.aload_n 1, 1) := by decide +kernel
theorem dX4_typeError_98 : decode cX4_typeError 98 = .ok (.iload_n 2, 1) := by decide +kernel
theorem dX4_typeError_99 : decode cX4_typeError 99 = .ok (.bipush 12, 2) := by decide +kernel
theorem dX4_typeError_101 : decode cX4_typeError 101 = .ok (.iadd, 1) := by decide +kernel
theorem dX4_typeError_102 : decode cX4_typeError 102 = .ok (.iconst 4, 1) := by decide +kernel
theorem dX4_typeError_103 : decode cX4_typeError 103 = .ok (.invokevirtual 31, 3) := by decide +kernel
theorem dX4_typeError_106 : decode cX4_typeError 106 = .ok (.invokestatic 79, 3) := by decide +kernel
theorem dX4_typeError_109 : decode cX4_typeError 109 = .ok (.ifCond .ne 5, 3) := by decide +kernel
theorem dX4_typeError_112 : decode cX4_typeError 112 = .ok (.iconst 4, 1) := by decide +kernel
theorem dX4_typeError_113 : decode cX4_typeError 113 = .ok (.ireturn, 1) := by decide +kernel
theorem dX4_typeError_114 : decode cX4_typeError 114 = .ok (.aload_n 1, 1) := by decide +kernel
theorem dX4_typeError_115 : decode cX4_typeError 115 = .ok (.iload_n 2, 1) := by decide +kernel
theorem dX4_typeError_116 : decode cX4_typeError 116 = .ok (.iload_n 3, 1) := by decide +kernel
theorem dX4_typeError_117 : decode cX4_typeError 117 = .ok (.invokestatic 83, 3) := by decide +kernel
theorem dX4_typeError_120 : decode cX4_typeError 120 = .ok (.ifCond .eq 18, 3) := by decide +kernel
theorem dX4_typeError_123 : decode cX4_typeError 123 = .ok (.iload 6, 2) := by decide +kernel
theorem dX4_typeError_125 : decode cX4_typeError 125 = .ok (.aload_n 1, 1) := by decide +kernel
theorem dX4_typeError_126 : decode cX4_typeError 126 = .ok (.iload_n 2, 1) := by decide +kernel
theorem dX4_typeError_127 : decode cX4_typeError 127 = .ok (.iload_n 3, 1) := by decide +kernel
theorem dX4_typeError_128 : decode cX4_typeError 128 = .ok (.invokestatic 87, 3) := by decide +kernel
theorem dX4_typeError_131 : decode cX4_typeError 131 = .ok (.ifCond .eq 7, 3) := by decide +kernel
theorem dX4_typeError_134 : decode cX4_typeError 134 = .ok (.iconst 0, 1) := by decide +kernel
theorem dX4_typeError_135 : decode cX4_typeError 135 = .ok (.goto 4, 3) := by decide +kernel
theorem dX4_typeError_138 : decode cX4_typeError 138 = .ok (.iconst 5, 1) := by decide +kernel
theorem dX4_typeError_139 : decode cX4_typeError 139 = .ok (.ireturn, 1) := by decide +kernel
theorem dX4_infoHolds_0 : decode cX4_infoHolds 0 = .ok (.lload_n 0, 1) := by decide +kernel
theorem dX4_infoHolds_1 : decode cX4_infoHolds 1 = .ok (.invokestatic 66, 3) := by decide +kernel
theorem dX4_infoHolds_4 : decode cX4_infoHolds 4 = .ok (.istore_n 2, 1) := by decide +kernel
theorem dX4_infoHolds_5 : decode cX4_infoHolds 5 = .ok (.iload_n 2, 1) := by decide +kernel
theorem dX4_infoHolds_6 : decode cX4_infoHolds 6 = .ok (.iconst 1, 1) := by decide +kernel
theorem dX4_infoHolds_7 : decode cX4_infoHolds 7 = .ok (.if_icmp .lt 19, 3) := by decide +kernel
theorem dX4_infoHolds_10 : decode cX4_infoHolds 10 = .ok (.iload_n 2, 1) := by decide +kernel
theorem dX4_infoHolds_11 : decode cX4_infoHolds 11 = .ok (.bipush 13, 2) := by decide +kernel
theorem dX4_infoHolds_13 : decode cX4_infoHolds 13 = .ok (.if_icmp .gt 13, 3) := by decide +kernel
theorem dX4_infoHolds_16 : decode cX4_infoHolds 16 = .ok (.lload_n 0, 1) := by decide +kernel
theorem dX4_infoHolds_17 : decode cX4_infoHolds 17 = .ok (.ldc2_w 91, 3) := by decide +kernel
theorem dX4_infoHolds_20 : decode cX4_infoHolds 20 = .ok (.land, 1) := by decide +kernel
theorem dX4_infoHolds_21 : decode cX4_infoHolds 21 = .ok (.lconst 0, 1) := by decide +kernel
theorem dX4_infoHolds_22 : decode cX4_infoHolds 22 = .ok (.lcmp, 1) := by decide +kernel
theorem dX4_infoHolds_23 : decode cX4_infoHolds 23 = .ok (.ifCond .eq 5, 3) := by decide +kernel
theorem dX4_infoHolds_26 : decode cX4_infoHolds 26 = .ok (.iconst 0, 1) := by decide +kernel
theorem dX4_infoHolds_27 : decode cX4_infoHolds 27 = .ok (.ireturn, 1) := by decide +kernel
theorem dX4_infoHolds_28 : decode cX4_infoHolds 28 = .ok (.iload_n 2, 1) := by decide +kernel
theorem dX4_infoHolds_29 : decode cX4_infoHolds 29 = .ok (.invokestatic 69, 3) := by decide +kernel
theorem dX4_infoHolds_32 : decode cX4_infoHolds 32 = .ok (.ifCond .ne 23, 3) := by decide +kernel
theorem dX4_infoHolds_35 : decode cX4_infoHolds 35 = .ok (.lload_n 0, 1) := by decide +kernel
theorem dX4_infoHolds_36 : decode cX4_infoHolds 36 = .ok (.invokestatic 72, 3) := by decide +kernel
theorem dX4_infoHolds_39 : decode cX4_infoHolds 39 = .ok (.iload_n 2, 1) := by decide +kernel
theorem dX4_infoHolds_40 : decode cX4_infoHolds 40 = .ok (.bipush 12, 2) := by decide +kernel
theorem dX4_infoHolds_42 : decode cX4_infoHolds 42 = .ok (.if_icmp .ne 7, 3) := by decide +kernel
theorem dX4_infoHolds_45 : decode cX4_infoHolds 45 = .ok (.iconst 2, 1) := by decide +kernel
theorem dX4_infoHolds_46 : decode cX4_infoHolds 46 = .ok (.goto 4, 3) := by decide +kernel
theorem dX4_infoHolds_49 : decode cX4_infoHolds 49 = .ok (.iconst 0, 1) := by decide +kernel
theorem dX4_infoHolds_50 : decode cX4_infoHolds 50 = .ok (.if_icmp .le 5, 3) := by decide +kernel
theorem dX4_infoHolds_53 : decode cX4_infoHolds 53 = .ok (.iconst 0, 1) := by decide +kernel
theorem dX4_infoHolds_54 : decode cX4_infoHolds 54 = .ok (.ireturn, 1) := by decide +kernel
theorem dX4_infoHolds_55 : decode cX4_infoHolds 55 = .ok (.lload_n 0, 1) := by decide +kernel
theorem dX4_infoHolds_56 : decode cX4_infoHolds 56 = .ok (.invokestatic 93, 3) := by decide +kernel
theorem dX4_infoHolds_59 : decode cX4_infoHolds 59 = .ok (.ifCond .eq 14, 3) := by decide +kernel
theorem dX4_infoHolds_62 : decode cX4_infoHolds 62 = .ok (.iload_n 2, 1) := by decide +kernel
theorem dX4_infoHolds_63 : decode cX4_infoHolds 63 = .ok (.iconst 4, 1) := by decide +kernel
theorem dX4_infoHolds_64 : decode cX4_infoHolds 64 = .ok (.if_icmp .lt 13, 3) := by decide +kernel
theorem dX4_infoHolds_67 : decode cX4_infoHolds 67 = .ok (.iload_n 2, 1) := by decide +kernel
theorem dX4_infoHolds_68 : decode cX4_infoHolds 68 = .ok (.bipush 7, 2) := by decide +kernel
theorem dX4_infoHolds_70 : decode cX4_infoHolds 70 = .ok (.if_icmp .gt 7, 3) := by decide +kernel
theorem dX4_infoHolds_73 : decode cX4_infoHolds 73 = .ok (.iconst 1, 1) := by decide +kernel
theorem dX4_infoHolds_74 : decode cX4_infoHolds 74 = .ok (.goto 4, 3) := by decide +kernel
theorem dX4_infoHolds_77 : decode cX4_infoHolds 77 = .ok (.iconst 0, 1) := by decide +kernel
theorem dX4_infoHolds_78 : decode cX4_infoHolds 78 = .ok (.ireturn, 1) := by decide +kernel
theorem dX4_restHolds_0 : decode cX4_restHolds 0 = .ok (.iload_n 0, 1) := by decide +kernel
theorem dX4_restHolds_1 : decode cX4_restHolds 1 = .ok (.tableswitch 89 1 7 #[43, 89, 77, 89, 89, 72, 77], 43) := by decide +kernel
theorem dX4_restHolds_44 : decode cX4_restHolds 44 = .ok (.lload_n 1, 1) := by decide +kernel
theorem dX4_restHolds_45 : decode cX4_restHolds 45 = .ok (.invokestatic 96, 3) := by decide +kernel
theorem dX4_restHolds_48 : decode cX4_restHolds 48 = .ok (.ifCond .ne 11, 3) := by decide +kernel
theorem dX4_restHolds_51 : decode cX4_restHolds 51 = .ok (.lload_n 1, 1) := by decide +kernel
theorem dX4_restHolds_52 : decode cX4_restHolds 52 = .ok (.ldc2_w 99, 3) := by decide +kernel
theorem dX4_restHolds_55 : decode cX4_restHolds 55 = .ok (.lcmp, 1) := by decide +kernel
theorem dX4_restHolds_56 : decode cX4_restHolds 56 = .ok (.ifCond .ne 15, 3) := by decide +kernel
theorem dX4_restHolds_59 : decode cX4_restHolds 59 = .ok (.lload_n 3, 1) := by decide +kernel
theorem dX4_restHolds_60 : decode cX4_restHolds 60 = .ok (.lload_n 1, 1) := by decide +kernel
theorem dX4_restHolds_61 : decode cX4_restHolds 61 = .ok (.invokestatic 101, 3) := by decide +kernel
theorem dX4_restHolds_64 : decode cX4_restHolds 64 = .ok (.ifCond .eq 7, 3) := by decide +kernel
theorem dX4_restHolds_67 : decode cX4_restHolds 67 = .ok (.iconst 1, 1) := by decide +kernel
theorem dX4_restHolds_68 : decode cX4_restHolds 68 = .ok (.goto 4, 3) := by decide +kernel
theorem dX4_restHolds_71 : decode cX4_restHolds 71 = .ok (.iconst 0, 1) := by decide +kernel
theorem dX4_restHolds_72 : decode cX4_restHolds 72 = .ok (.ireturn, 1) := by decide +kernel
theorem dX4_restHolds_73 : decode cX4_restHolds 73 = .ok (.lload_n 1, 1) := by decide +kernel
theorem dX4_restHolds_74 : decode cX4_restHolds 74 = .ok (.invokestatic 96, 3) := by decide +kernel
theorem dX4_restHolds_77 : decode cX4_restHolds 77 = .ok (.ireturn, 1) := by decide +kernel
theorem dX4_restHolds_78 : decode cX4_restHolds 78 = .ok (.lload_n 1, 1) := by decide +kernel
theorem dX4_restHolds_79 : decode cX4_restHolds 79 = .ok (.lconst 0, 1) := by decide +kernel
theorem dX4_restHolds_80 : decode cX4_restHolds 80 = .ok (.lcmp, 1) := by decide +kernel
theorem dX4_restHolds_81 : decode cX4_restHolds 81 = .ok (.ifCond .ne 7, 3) := by decide +kernel
theorem dX4_restHolds_84 : decode cX4_restHolds 84 = .ok (.iconst 1, 1) := by decide +kernel
theorem dX4_restHolds_85 : decode cX4_restHolds 85 = .ok (.goto 4, 3) := by decide +kernel
theorem dX4_restHolds_88 : decode cX4_restHolds 88 = .ok (.iconst 0, 1) := by decide +kernel
theorem dX4_restHolds_89 : decode cX4_restHolds 89 = .ok (.ireturn, 1) := by decide +kernel
theorem dX4_restHolds_90 : decode cX4_restHolds 90 = .ok (.iconst 1, 1) := by decide +kernel
theorem dX4_restHolds_91 : decode cX4_restHolds 91 = .ok (.ireturn, 1) := by decide +kernel
theorem dX4_isSmallSize_0 : decode cX4_isSmallSize 0 = .ok (.lload_n 0, 1) := by decide +kernel
theorem dX4_isSmallSize_1 : decode cX4_isSmallSize 1 = .ok (.lconst 1, 1) := by decide +kernel
theorem dX4_isSmallSize_2 : decode cX4_isSmallSize 2 = .ok (.lcmp, 1) := by decide +kernel
theorem dX4_isSmallSize_3 : decode cX4_isSmallSize 3 = .ok (.ifCond .eq 27, 3) := by decide +kernel
theorem dX4_isSmallSize_6 : decode cX4_isSmallSize 6 = .ok (.lload_n 0, 1) := by decide +kernel
theorem dX4_isSmallSize_7 : decode cX4_isSmallSize 7 = .ok (.ldc2_w 105, 3) := by decide +kernel
theorem dX4_isSmallSize_10 : decode cX4_isSmallSize 10 = .ok (.lcmp, 1) := by decide +kernel
theorem dX4_isSmallSize_11 : decode cX4_isSmallSize 11 = .ok (.ifCond .eq 19, 3) := by decide +kernel
theorem dX4_isSmallSize_14 : decode cX4_isSmallSize 14 = .ok (.lload_n 0, 1) := by decide +kernel
theorem dX4_isSmallSize_15 : decode cX4_isSmallSize 15 = .ok (.ldc2_w 107, 3) := by decide +kernel
theorem dX4_isSmallSize_18 : decode cX4_isSmallSize 18 = .ok (.lcmp, 1) := by decide +kernel
theorem dX4_isSmallSize_19 : decode cX4_isSmallSize 19 = .ok (.ifCond .eq 11, 3) := by decide +kernel
theorem dX4_isSmallSize_22 : decode cX4_isSmallSize 22 = .ok (.lload_n 0, 1) := by decide +kernel
theorem dX4_isSmallSize_23 : decode cX4_isSmallSize 23 = .ok (.ldc2_w 109, 3) := by decide +kernel
theorem dX4_isSmallSize_26 : decode cX4_isSmallSize 26 = .ok (.lcmp, 1) := by decide +kernel
theorem dX4_isSmallSize_27 : decode cX4_isSmallSize 27 = .ok (.ifCond .ne 7, 3) := by decide +kernel
theorem dX4_isSmallSize_30 : decode cX4_isSmallSize 30 = .ok (.iconst 1, 1) := by decide +kernel
theorem dX4_isSmallSize_31 : decode cX4_isSmallSize 31 = .ok (.goto 4, 3) := by decide +kernel
theorem dX4_isSmallSize_34 : decode cX4_isSmallSize 34 = .ok (.iconst 0, 1) := by decide +kernel
theorem dX4_isSmallSize_35 : decode cX4_isSmallSize 35 = .ok (.ireturn, 1) := by decide +kernel
theorem dX4_intHolds_0 : decode cX4_intHolds 0 = .ok (.lload_n 0, 1) := by decide +kernel
theorem dX4_intHolds_1 : decode cX4_intHolds 1 = .ok (.ldc2_w 111, 3) := by decide +kernel
theorem dX4_intHolds_4 : decode cX4_intHolds 4 = .ok (.land, 1) := by decide +kernel
theorem dX4_intHolds_5 : decode cX4_intHolds 5 = .ok (.lstore 4, 2) := by decide +kernel
theorem dX4_intHolds_7 : decode cX4_intHolds 7 = .ok (.lload_n 0, 1) := by decide +kernel
theorem dX4_intHolds_8 : decode cX4_intHolds 8 = .ok (.bipush 16, 2) := by decide +kernel
theorem dX4_intHolds_10 : decode cX4_intHolds 10 = .ok (.lshr, 1) := by decide +kernel
theorem dX4_intHolds_11 : decode cX4_intHolds 11 = .ok (.ldc2_w 111, 3) := by decide +kernel
theorem dX4_intHolds_14 : decode cX4_intHolds 14 = .ok (.land, 1) := by decide +kernel
theorem dX4_intHolds_15 : decode cX4_intHolds 15 = .ok (.lstore 6, 2) := by decide +kernel
theorem dX4_intHolds_17 : decode cX4_intHolds 17 = .ok (.lload_n 0, 1) := by decide +kernel
theorem dX4_intHolds_18 : decode cX4_intHolds 18 = .ok (.ldc2_w 113, 3) := by decide +kernel
theorem dX4_intHolds_21 : decode cX4_intHolds 21 = .ok (.land, 1) := by decide +kernel
theorem dX4_intHolds_22 : decode cX4_intHolds 22 = .ok (.lconst 0, 1) := by decide +kernel
theorem dX4_intHolds_23 : decode cX4_intHolds 23 = .ok (.lcmp, 1) := by decide +kernel
theorem dX4_intHolds_24 : decode cX4_intHolds 24 = .ok (.ifCond .ne 28, 3) := by decide +kernel
theorem dX4_intHolds_27 : decode cX4_intHolds 27 = .ok (.lload 4, 2) := by decide +kernel
theorem dX4_intHolds_29 : decode cX4_intHolds 29 = .ok (.lconst 1, 1) := by decide +kernel
theorem dX4_intHolds_30 : decode cX4_intHolds 30 = .ok (.lcmp, 1) := by decide +kernel
theorem dX4_intHolds_31 : decode cX4_intHolds 31 = .ok (.ifCond .lt 21, 3) := by decide +kernel
theorem dX4_intHolds_34 : decode cX4_intHolds 34 = .ok (.lload 4, 2) := by decide +kernel
theorem dX4_intHolds_36 : decode cX4_intHolds 36 = .ok (.lload 6, 2) := by decide +kernel
theorem dX4_intHolds_38 : decode cX4_intHolds 38 = .ok (.ladd, 1) := by decide +kernel
theorem dX4_intHolds_39 : decode cX4_intHolds 39 = .ok (.ldc2_w 109, 3) := by decide +kernel
theorem dX4_intHolds_42 : decode cX4_intHolds 42 = .ok (.lload_n 2, 1) := by decide +kernel
theorem dX4_intHolds_43 : decode cX4_intHolds 43 = .ok (.lmul, 1) := by decide +kernel
theorem dX4_intHolds_44 : decode cX4_intHolds 44 = .ok (.lcmp, 1) := by decide +kernel
theorem dX4_intHolds_45 : decode cX4_intHolds 45 = .ok (.ifCond .gt 7, 3) := by decide +kernel
theorem dX4_intHolds_48 : decode cX4_intHolds 48 = .ok (.iconst 1, 1) := by decide +kernel
theorem dX4_intHolds_49 : decode cX4_intHolds 49 = .ok (.goto 4, 3) := by decide +kernel
theorem dX4_intHolds_52 : decode cX4_intHolds 52 = .ok (.iconst 0, 1) := by decide +kernel
theorem dX4_intHolds_53 : decode cX4_intHolds 53 = .ok (.ireturn, 1) := by decide +kernel
theorem dX4_namesLieWithin_0 : decode cX4_namesLieWithin 0 = .ok (.aload_n 0, 1) := by decide +kernel
theorem dX4_namesLieWithin_1 : decode cX4_namesLieWithin 1 = .ok (.iload_n 1, 1) := by decide +kernel
theorem dX4_namesLieWithin_2 : decode cX4_namesLieWithin 2 = .ok (.iconst 4, 1) := by decide +kernel
theorem dX4_namesLieWithin_3 : decode cX4_namesLieWithin 3 = .ok (.iadd, 1) := by decide +kernel
theorem dX4_namesLieWithin_4 : decode cX4_namesLieWithin 4 = .ok (.iconst 4, 1) := by decide +kernel
theorem dX4_namesLieWithin_5 : decode cX4_namesLieWithin 5 = .ok (.invokevirtual 31, 3) := by decide +kernel
theorem dX4_namesLieWithin_8 : decode cX4_namesLieWithin 8 = .ok (.lstore_n 3, 1) := by decide +kernel
theorem dX4_namesLieWithin_9 : decode cX4_namesLieWithin 9 = .ok (.lload_n 3, 1) := by decide +kernel
theorem dX4_namesLieWithin_10 : decode cX4_namesLieWithin 10 = .ok (.invokestatic 66, 3) := by decide +kernel
theorem dX4_namesLieWithin_13 : decode cX4_namesLieWithin 13 = .ok (.istore 5, 2) := by decide +kernel
theorem dX4_namesLieWithin_15 : decode cX4_namesLieWithin 15 = .ok (.lload_n 3, 1) := by decide +kernel
theorem dX4_namesLieWithin_16 : decode cX4_namesLieWithin 16 = .ok (.invokestatic 60, 3) := by decide +kernel
theorem dX4_namesLieWithin_19 : decode cX4_namesLieWithin 19 = .ok (.istore 6, 2) := by decide +kernel
theorem dX4_namesLieWithin_21 : decode cX4_namesLieWithin 21 = .ok (.iconst 0, 1) := by decide +kernel
theorem dX4_namesLieWithin_22 : decode cX4_namesLieWithin 22 = .ok (.istore 7, 2) := by decide +kernel
theorem dX4_namesLieWithin_24 : decode cX4_namesLieWithin 24 = .ok (.iload 7, 2) := by decide +kernel
theorem dX4_namesLieWithin_26 : decode cX4_namesLieWithin 26 = .ok (.iload 6, 2) := by decide +kernel
theorem dX4_namesLieWithin_28 : decode cX4_namesLieWithin 28 = .ok (.if_icmp .ge 45, 3) := by decide +kernel
theorem dX4_namesLieWithin_31 : decode cX4_namesLieWithin 31 = .ok (.iload 5, 2) := by decide +kernel
theorem dX4_namesLieWithin_33 : decode cX4_namesLieWithin 33 = .ok (.iload 7, 2) := by decide +kernel
theorem dX4_namesLieWithin_35 : decode cX4_namesLieWithin 35 = .ok (.invokestatic 115, 3) := by decide +kernel
theorem dX4_namesLieWithin_38 : decode cX4_namesLieWithin 38 = .ok (.iconst 1, 1) := by decide +kernel
theorem dX4_namesLieWithin_39 : decode cX4_namesLieWithin 39 = .ok (.if_icmp .ne 28, 3) := by decide +kernel
theorem dX4_namesLieWithin_42 : decode cX4_namesLieWithin 42 = .ok (.iload_n 2, 1) := by decide +kernel
theorem dX4_namesLieWithin_43 : decode cX4_namesLieWithin 43 = .ok (.i2l, 1) := by decide +kernel
theorem dX4_namesLieWithin_44 : decode cX4_namesLieWithin 44 = .ok (.aload_n 0, 1) := by decide +kernel
theorem dX4_namesLieWithin_45 : decode cX4_namesLieWithin 45 = .ok (.iload_n 1, 1) := by decide +kernel
theorem dX4_namesLieWithin_46 : decode cX4_namesLieWithin 46 = .ok (.iconst 4, 1) := by decide +kernel
theorem dX4_namesLieWithin_47 : decode cX4_namesLieWithin 47 = .ok (.iload 7, 2) := by decide +kernel
theorem dX4_namesLieWithin_49 : decode cX4_namesLieWithin 49 = .ok (.imul, 1) := by decide +kernel
theorem dX4_namesLieWithin_50 : decode cX4_namesLieWithin 50 = .ok (.iadd, 1) := by decide +kernel
theorem dX4_namesLieWithin_51 : decode cX4_namesLieWithin 51 = .ok (.iconst 4, 1) := by decide +kernel
theorem dX4_namesLieWithin_52 : decode cX4_namesLieWithin 52 = .ok (.invokevirtual 31, 3) := by decide +kernel
theorem dX4_namesLieWithin_55 : decode cX4_namesLieWithin 55 = .ok (.ladd, 1) := by decide +kernel
theorem dX4_namesLieWithin_56 : decode cX4_namesLieWithin 56 = .ok (.aload_n 0, 1) := by decide +kernel
theorem dX4_namesLieWithin_57 : decode cX4_namesLieWithin 57 = .ok (.invokevirtual 25, 3) := by decide +kernel
theorem dX4_namesLieWithin_60 : decode cX4_namesLieWithin 60 = .ok (.i2l, 1) := by decide +kernel
theorem dX4_namesLieWithin_61 : decode cX4_namesLieWithin 61 = .ok (.lcmp, 1) := by decide +kernel
theorem dX4_namesLieWithin_62 : decode cX4_namesLieWithin 62 = .ok (.ifCond .lt 5, 3) := by decide +kernel
theorem dX4_namesLieWithin_65 : decode cX4_namesLieWithin 65 = .ok (.iconst 0, 1) := by decide +kernel
theorem dX4_namesLieWithin_66 : decode cX4_namesLieWithin 66 = .ok (.ireturn, 1) := by decide +kernel
theorem dX4_namesLieWithin_67 : decode cX4_namesLieWithin 67 = .ok (.iinc 7 1, 3) := by decide +kernel
theorem dX4_namesLieWithin_70 : decode cX4_namesLieWithin 70 = .ok (.goto (-46), 3) := by decide +kernel
theorem dX4_namesLieWithin_73 : decode cX4_namesLieWithin 73 = .ok (.iconst 1, 1) := by decide +kernel
theorem dX4_namesLieWithin_74 : decode cX4_namesLieWithin 74 = .ok (.ireturn, 1) := by decide +kernel
theorem dX4_ownNameHolds_0 : decode cX4_ownNameHolds 0 = .ok (.aload_n 1, 1) := by decide +kernel
theorem dX4_ownNameHolds_1 : decode cX4_ownNameHolds 1 = .ok (.iload_n 3, 1) := by decide +kernel
theorem dX4_ownNameHolds_2 : decode cX4_ownNameHolds 2 = .ok (.aload_n 1, 1) := by decide +kernel
theorem dX4_ownNameHolds_3 : decode cX4_ownNameHolds 3 = .ok (.iload_n 2, 1) := by decide +kernel
theorem dX4_ownNameHolds_4 : decode cX4_ownNameHolds 4 = .ok (.iconst 4, 1) := by decide +kernel
theorem dX4_ownNameHolds_5 : decode cX4_ownNameHolds 5 = .ok (.invokevirtual 31, 3) := by decide +kernel
theorem dX4_ownNameHolds_8 : decode cX4_ownNameHolds 8 = .ok (.l2i, 1) := by decide +kernel
theorem dX4_ownNameHolds_9 : decode cX4_ownNameHolds 9 = .ok (.iadd, 1) := by decide +kernel
theorem dX4_ownNameHolds_10 : decode cX4_ownNameHolds 10 = .ok (.invokevirtual 37, 3) := by decide +kernel
theorem dX4_ownNameHolds_13 : decode cX4_ownNameHolds 13 = .ok (.ifCond .ne 7, 3) := by decide +kernel
theorem dX4_ownNameHolds_16 : decode cX4_ownNameHolds 16 = .ok (.iconst 1, 1) := by decide +kernel
theorem dX4_ownNameHolds_17 : decode cX4_ownNameHolds 17 = .ok (.goto 4, 3) := by decide +kernel
theorem dX4_ownNameHolds_20 : decode cX4_ownNameHolds 20 = .ok (.iconst 0, 1) := by decide +kernel
theorem dX4_ownNameHolds_21 : decode cX4_ownNameHolds 21 = .ok (.istore 4, 2) := by decide +kernel
theorem dX4_ownNameHolds_23 : decode cX4_ownNameHolds 23 = .ok (.iload_n 0, 1) := by decide +kernel
theorem dX4_ownNameHolds_24 : decode cX4_ownNameHolds 24 = .ok (.tableswitch 77 1 12 #[66, 77, 77, 64, 64, 64, 66, 66, 77, 77, 77, 66], 64) := by decide +kernel
theorem dX4_ownNameHolds_88 : decode cX4_ownNameHolds 88 = .ok (.iconst 1, 1) := by decide +kernel
theorem dX4_ownNameHolds_89 : decode cX4_ownNameHolds 89 = .ok (.ireturn, 1) := by decide +kernel
theorem dX4_ownNameHolds_90 : decode cX4_ownNameHolds 90 = .ok (.iload 4, 2) := by decide +kernel
theorem dX4_ownNameHolds_92 : decode cX4_ownNameHolds 92 = .ok (.ifCond .ne 7, 3) := by decide +kernel
theorem dX4_ownNameHolds_95 : decode cX4_ownNameHolds 95 = .ok (.iconst 1, 1) := by decide +kernel
theorem dX4_ownNameHolds_96 : decode cX4_ownNameHolds 96 = .ok (.goto 4, 3) := by decide +kernel
theorem dX4_ownNameHolds_99 : decode cX4_ownNameHolds 99 = .ok (.iconst 0, 1) := by decide +kernel
theorem dX4_ownNameHolds_100 : decode cX4_ownNameHolds 100 = .ok (.ireturn, 1) := by decide +kernel
theorem dX4_ownNameHolds_101 : decode cX4_ownNameHolds 101 = .ok (.iload 4, 2) := by decide +kernel
theorem dX4_ownNameHolds_103 : decode cX4_ownNameHolds 103 = .ok (.ireturn, 1) := by decide +kernel
theorem dX4_highestReference_0 : decode cX4_highestReference 0 = .ok (.aload_n 0, 1) := by decide +kernel
theorem dX4_highestReference_1 : decode cX4_highestReference 1 = .ok (.iload_n 1, 1) := by decide +kernel
theorem dX4_highestReference_2 : decode cX4_highestReference 2 = .ok (.iconst 4, 1) := by decide +kernel
theorem dX4_highestReference_3 : decode cX4_highestReference 3 = .ok (.iadd, 1) := by decide +kernel
theorem dX4_highestReference_4 : decode cX4_highestReference 4 = .ok (.iconst 4, 1) := by decide +kernel
theorem dX4_highestReference_5 : decode cX4_highestReference 5 = .ok (.invokevirtual 31, 3) := by decide +kernel
theorem dX4_highestReference_8 : decode cX4_highestReference 8 = .ok (.lstore_n 2, 1) := by decide +kernel
theorem dX4_highestReference_9 : decode cX4_highestReference 9 = .ok (.lload_n 2, 1) := by decide +kernel
theorem dX4_highestReference_10 : decode cX4_highestReference 10 = .ok (.invokestatic 66, 3) := by decide +kernel
theorem dX4_highestReference_13 : decode cX4_highestReference 13 = .ok (.istore 4, 2) := by decide +kernel
theorem dX4_highestReference_15 : decode cX4_highestReference 15 = .ok (.lload_n 2, 1) := by decide +kernel
theorem dX4_highestReference_16 : decode cX4_highestReference 16 = .ok (.invokestatic 60, 3) := by decide +kernel
theorem dX4_highestReference_19 : decode cX4_highestReference 19 = .ok (.istore 5, 2) := by decide +kernel
theorem dX4_highestReference_21 : decode cX4_highestReference 21 = .ok (.lconst 0, 1) := by decide +kernel
theorem dX4_highestReference_22 : decode cX4_highestReference 22 = .ok (.lstore 6, 2) := by decide +kernel
theorem dX4_highestReference_24 : decode cX4_highestReference 24 = .ok (.iconst 0, 1) := by decide +kernel
theorem dX4_highestReference_25 : decode cX4_highestReference 25 = .ok (.istore 8, 2) := by decide +kernel
theorem dX4_highestReference_27 : decode cX4_highestReference 27 = .ok (.iload 8, 2) := by decide +kernel
theorem dX4_highestReference_29 : decode cX4_highestReference 29 = .ok (.iload 5, 2) := by decide +kernel
theorem dX4_highestReference_31 : decode cX4_highestReference 31 = .ok (.if_icmp .ge 38, 3) := by decide +kernel
theorem dX4_highestReference_34 : decode cX4_highestReference 34 = .ok (.iload 4, 2) := by decide +kernel
theorem dX4_highestReference_36 : decode cX4_highestReference 36 = .ok (.iload 8, 2) := by decide +kernel
theorem dX4_highestReference_38 : decode cX4_highestReference 38 = .ok (.invokestatic 115, 3) := by decide +kernel
theorem dX4_highestReference_41 : decode cX4_highestReference 41 = .ok (.iconst 2, 1) := by decide +kernel
theorem dX4_highestReference_42 : decode cX4_highestReference 42 = .ok (.if_icmp .ne 21, 3) := by decide +kernel
theorem dX4_highestReference_45 : decode cX4_highestReference 45 = .ok (.lload 6, 2) := by decide +kernel
theorem dX4_highestReference_47 : decode cX4_highestReference 47 = .ok (.aload_n 0, 1) := by decide +kernel
theorem dX4_highestReference_48 : decode cX4_highestReference 48 = .ok (.iload_n 1, 1) := by decide +kernel
theorem dX4_highestReference_49 : decode cX4_highestReference 49 = .ok (.iconst 4, 1) := by decide +kernel
theorem dX4_highestReference_50 : decode cX4_highestReference 50 = .ok (.iload 8, 2) := by decide +kernel
theorem dX4_highestReference_52 : decode cX4_highestReference 52 = .ok (.imul, 1) := by decide +kernel
theorem dX4_highestReference_53 : decode cX4_highestReference 53 = .ok (.iadd, 1) := by decide +kernel
theorem dX4_highestReference_54 : decode cX4_highestReference 54 = .ok (.iconst 4, 1) := by decide +kernel
theorem dX4_highestReference_55 : decode cX4_highestReference 55 = .ok (.invokevirtual 31, 3) := by decide +kernel
theorem dX4_highestReference_58 : decode cX4_highestReference 58 = .ok (.invokestatic 54, 3) := by decide +kernel
theorem dX4_highestReference_61 : decode cX4_highestReference 61 = .ok (.lstore 6, 2) := by decide +kernel
theorem dX4_highestReference_63 : decode cX4_highestReference 63 = .ok (.iinc 8 1, 3) := by decide +kernel
theorem dX4_highestReference_66 : decode cX4_highestReference 66 = .ok (.goto (-39), 3) := by decide +kernel
theorem dX4_highestReference_69 : decode cX4_highestReference 69 = .ok (.lload 6, 2) := by decide +kernel
theorem dX4_highestReference_71 : decode cX4_highestReference 71 = .ok (.lreturn, 1) := by decide +kernel
