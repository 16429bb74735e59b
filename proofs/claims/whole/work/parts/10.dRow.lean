set_option maxRecDepth 20000 in
theorem mX5_init : Cond.code yX5_init cX5_init 2 none ∈ gTbl ∧ Cond.initialized yX5_init.cls ∈ gTbl ∧ (yX5_init.cls ≠ "java/lang/invoke/MethodHandle" ∧ yX5_init.cls ≠ "java/lang/invoke/VarHandle" ∧ (parseMethodDescriptor yX5_init.desc).map (fun d => d.parameters.length) = some 1) ∧ 2 ≤ 15 := ⟨g_in 75 rfl rfl, g_in 47 (by decide +kernel) (by decide +kernel), ⟨by decide +kernel, by decide +kernel, by decide +kernel⟩, by decide⟩
theorem iX5_init : Cond.instanceMethod yX5_init ∈ gTbl := g_in 74 (by decide +kernel) (by decide +kernel)
theorem kX5_1 : Cond.methodLink RX5 1 objectInit ∈ gTbl := g_in 76 (by decide +kernel) (by decide +kernel)
theorem kX5_7 : Cond.fieldLink RX5 7 "TypeFold$Row" "most" "I" ∈ gTbl := g_in 77 (by decide +kernel) (by decide +kernel)
theorem kX5_13 : Cond.fieldLink RX5 13 "TypeFold$Row" "words" "[J" ∈ gTbl := g_in 78 (by decide +kernel) (by decide +kernel)
theorem kX5_17 : Cond.fieldLink RX5 17 "TypeFold$Row" "count" "I" ∈ gTbl := g_in 79 (by decide +kernel) (by decide +kernel)
set_option maxRecDepth 20000 in
theorem mX5_count : Cond.code yX5_count cX5_count 1 ((some .int)) ∈ gTbl ∧ Cond.initialized yX5_count.cls ∈ gTbl ∧ (yX5_count.cls ≠ "java/lang/invoke/MethodHandle" ∧ yX5_count.cls ≠ "java/lang/invoke/VarHandle" ∧ (parseMethodDescriptor yX5_count.desc).map (fun d => d.parameters.length) = some 0) ∧ 1 ≤ 15 := ⟨g_in 275 rfl rfl, g_in 47 (by decide +kernel) (by decide +kernel), ⟨by decide +kernel, by decide +kernel, by decide +kernel⟩, by decide⟩
theorem iX5_count : Cond.instanceMethod yX5_count ∈ gTbl := g_in 273 (by decide +kernel) (by decide +kernel)
theorem sX5_count : Cond.selects yX5_count.cls yX5_count yX5_count ∈ gTbl := g_in 274 (by decide +kernel) (by decide +kernel)
set_option maxRecDepth 20000 in
theorem mX5_number : Cond.code yX5_number cX5_number 7 ((some .long)) ∈ gTbl ∧ Cond.initialized yX5_number.cls ∈ gTbl ∧ (yX5_number.cls ≠ "java/lang/invoke/MethodHandle" ∧ yX5_number.cls ≠ "java/lang/invoke/VarHandle" ∧ (parseMethodDescriptor yX5_number.desc).map (fun d => d.parameters.length) = some 2) ∧ 7 ≤ 15 := ⟨g_in 279 rfl rfl, g_in 47 (by decide +kernel) (by decide +kernel), ⟨by decide +kernel, by decide +kernel, by decide +kernel⟩, by decide⟩
theorem iX5_number : Cond.instanceMethod yX5_number ∈ gTbl := g_in 277 (by decide +kernel) (by decide +kernel)
theorem sX5_number : Cond.selects yX5_number.cls yX5_number yX5_number ∈ gTbl := g_in 278 (by decide +kernel) (by decide +kernel)
theorem kX5_24 : Cond.constantLong RX5 24 (255) ∈ gTbl := g_in 280 (by decide +kernel) (by decide +kernel)
set_option maxRecDepth 20000 in
theorem mX5_at : Cond.code yX5_at cX5_at 2 ((some .int)) ∈ gTbl ∧ Cond.initialized yX5_at.cls ∈ gTbl ∧ (yX5_at.cls ≠ "java/lang/invoke/MethodHandle" ∧ yX5_at.cls ≠ "java/lang/invoke/VarHandle" ∧ (parseMethodDescriptor yX5_at.desc).map (fun d => d.parameters.length) = some 1) ∧ 2 ≤ 15 := ⟨g_in 285 rfl rfl, g_in 47 (by decide +kernel) (by decide +kernel), ⟨by decide +kernel, by decide +kernel, by decide +kernel⟩, by decide⟩
theorem iX5_at : Cond.instanceMethod yX5_at ∈ gTbl := g_in 283 (by decide +kernel) (by decide +kernel)
theorem sX5_at : Cond.selects yX5_at.cls yX5_at yX5_at ∈ gTbl := g_in 284 (by decide +kernel) (by decide +kernel)
theorem kX5_20 : Cond.methodLink RX5 20 yX5_number ∈ gTbl := g_in 286 (by decide +kernel) (by decide +kernel)
set_option maxRecDepth 20000 in
theorem mX5_same : Cond.code yX5_same cX5_same 6 ((some .boolean)) ∈ gTbl ∧ Cond.initialized yX5_same.cls ∈ gTbl ∧ (yX5_same.cls ≠ "java/lang/invoke/MethodHandle" ∧ yX5_same.cls ≠ "java/lang/invoke/VarHandle" ∧ (parseMethodDescriptor yX5_same.desc).map (fun d => d.parameters.length) = some 4) ∧ 6 ≤ 15 := ⟨g_in 411 rfl rfl, g_in 47 (by decide +kernel) (by decide +kernel), ⟨by decide +kernel, by decide +kernel, by decide +kernel⟩, by decide⟩
theorem iX5_same : Cond.instanceMethod yX5_same ∈ gTbl := g_in 409 (by decide +kernel) (by decide +kernel)
theorem sX5_same : Cond.selects yX5_same.cls yX5_same yX5_same ∈ gTbl := g_in 410 (by decide +kernel) (by decide +kernel)
theorem kX5_30 : Cond.methodLink RX5 30 yX5_at ∈ gTbl := g_in 412 (by decide +kernel) (by decide +kernel)
set_option maxRecDepth 20000 in
theorem mX5_clear : Cond.code yX5_clear cX5_clear 1 none ∈ gTbl ∧ Cond.initialized yX5_clear.cls ∈ gTbl ∧ (yX5_clear.cls ≠ "java/lang/invoke/MethodHandle" ∧ yX5_clear.cls ≠ "java/lang/invoke/VarHandle" ∧ (parseMethodDescriptor yX5_clear.desc).map (fun d => d.parameters.length) = some 0) ∧ 1 ≤ 15 := ⟨g_in 490 rfl rfl, g_in 47 (by decide +kernel) (by decide +kernel), ⟨by decide +kernel, by decide +kernel, by decide +kernel⟩, by decide⟩
theorem iX5_clear : Cond.instanceMethod yX5_clear ∈ gTbl := g_in 488 (by decide +kernel) (by decide +kernel)
theorem sX5_clear : Cond.selects yX5_clear.cls yX5_clear yX5_clear ∈ gTbl := g_in 489 (by decide +kernel) (by decide +kernel)
set_option maxRecDepth 20000 in
theorem mX5_addLowest : Cond.code yX5_addLowest cX5_addLowest 5 none ∈ gTbl ∧ Cond.initialized yX5_addLowest.cls ∈ gTbl ∧ (yX5_addLowest.cls ≠ "java/lang/invoke/MethodHandle" ∧ yX5_addLowest.cls ≠ "java/lang/invoke/VarHandle" ∧ (parseMethodDescriptor yX5_addLowest.desc).map (fun d => d.parameters.length) = some 2) ∧ 5 ≤ 15 := ⟨g_in 582 rfl rfl, g_in 47 (by decide +kernel) (by decide +kernel), ⟨by decide +kernel, by decide +kernel, by decide +kernel⟩, by decide⟩
theorem iX5_addLowest : Cond.instanceMethod yX5_addLowest ∈ gTbl := g_in 580 (by decide +kernel) (by decide +kernel)
theorem sX5_addLowest : Cond.selects yX5_addLowest.cls yX5_addLowest yX5_addLowest ∈ gTbl := g_in 581 (by decide +kernel) (by decide +kernel)
theorem kX5_26 : Cond.methodLink RX5 26 yX5_addByte ∈ gTbl := g_in 583 (by decide +kernel) (by decide +kernel)
set_option maxRecDepth 20000 in
theorem mX5_addByte : Cond.code yX5_addByte cX5_addByte 5 none ∈ gTbl ∧ Cond.initialized yX5_addByte.cls ∈ gTbl ∧ (yX5_addByte.cls ≠ "java/lang/invoke/MethodHandle" ∧ yX5_addByte.cls ≠ "java/lang/invoke/VarHandle" ∧ (parseMethodDescriptor yX5_addByte.desc).map (fun d => d.parameters.length) = some 1) ∧ 5 ≤ 15 := ⟨g_in 586 rfl rfl, g_in 47 (by decide +kernel) (by decide +kernel), ⟨by decide +kernel, by decide +kernel, by decide +kernel⟩, by decide⟩
theorem iX5_addByte : Cond.instanceMethod yX5_addByte ∈ gTbl := g_in 585 (by decide +kernel) (by decide +kernel)
theorem sX5_addByte : Cond.selects yX5_addByte.cls yX5_addByte yX5_addByte ∈ gTbl := g_in 13 (by decide +kernel) (by decide +kernel)
theorem kX5_34 : Cond.constantLong RX5 34 (-1) ∈ gTbl := g_in 587 (by decide +kernel) (by decide +kernel)
set_option maxRecDepth 20000 in
theorem mX5_addFrom : Cond.code yX5_addFrom cX5_addFrom 5 none ∈ gTbl ∧ Cond.initialized yX5_addFrom.cls ∈ gTbl ∧ (yX5_addFrom.cls ≠ "java/lang/invoke/MethodHandle" ∧ yX5_addFrom.cls ≠ "java/lang/invoke/VarHandle" ∧ (parseMethodDescriptor yX5_addFrom.desc).map (fun d => d.parameters.length) = some 3) ∧ 5 ≤ 15 := ⟨g_in 770 rfl rfl, g_in 47 (by decide +kernel) (by decide +kernel), ⟨by decide +kernel, by decide +kernel, by decide +kernel⟩, by decide⟩
theorem iX5_addFrom : Cond.instanceMethod yX5_addFrom ∈ gTbl := g_in 768 (by decide +kernel) (by decide +kernel)
theorem sX5_addFrom : Cond.selects yX5_addFrom.cls yX5_addFrom yX5_addFrom ∈ gTbl := g_in 769 (by decide +kernel) (by decide +kernel)
theorem dX5_init_0 : decode cX5_init 0 = .ok (.aload_n 0, 1) := by decide +kernel
theorem dX5_init_1 : decode cX5_init 1 = .ok (.invokespecial 1, 3) := by decide +kernel
theorem dX5_init_4 : decode cX5_init 4 = .ok (.aload_n 0, 1) := by decide +kernel
theorem dX5_init_5 : decode cX5_init 5 = .ok (.iload_n 1, 1) := by decide +kernel
theorem dX5_init_6 : decode cX5_init 6 = .ok (.putfield 7, 3) := by decide +kernel
theorem dX5_init_9 : decode cX5_init 9 = .ok (.aload_n 0, 1) := by decide +kernel
theorem dX5_init_10 : decode cX5_init 10 = .ok (.iload_n 1, 1) := by decide +kernel
theorem dX5_init_11 : decode cX5_init 11 = .ok (.bipush 7, 2) := by decide +kernel
theorem dX5_init_13 : decode cX5_init 13 = .ok (.iadd, 1) := by decide +kernel
theorem dX5_init_14 : decode cX5_init 14 = .ok (.bipush 8, 2) := by decide +kernel
theorem dX5_init_16 : decode cX5_init 16 = .ok (.idiv, 1) := by decide +kernel
theorem dX5_init_17 : decode cX5_init 17 = .ok (.newarray .long, 2) := by decide +kernel
theorem dX5_init_19 : decode cX5_init 19 = .ok (.putfield 13, 3) := by decide +kernel
theorem dX5_init_22 : decode cX5_init 22 = .ok (.aload_n 0, 1) := by decide +kernel
theorem dX5_init_23 : decode cX5_init 23 = .ok (.iconst 0, 1) := by decide +kernel
theorem dX5_init_24 : decode cX5_init 24 = .ok (.putfield 17, 3) := by decide +kernel
theorem dX5_init_27 : decode cX5_init 27 = .ok (.return_, 1) := by decide +kernel
theorem dX5_count_0 : decode cX5_count 0 = .ok (.aload_n 0, 1) := by decide +kernel
theorem dX5_count_1 : decode cX5_count 1 = .ok (.getfield 17, 3) := by decide +kernel
theorem dX5_count_4 : decode cX5_count 4 = .ok (.ireturn, 1) := by decide +kernel
theorem dX5_clear_0 : decode cX5_clear 0 = .ok (.aload_n 0, 1) := by decide +kernel
theorem dX5_clear_1 : decode cX5_clear 1 = .ok (.iconst 0, 1) := by decide +kernel
theorem dX5_clear_2 : decode cX5_clear 2 = .ok (.putfield 17, 3) := by decide +kernel
theorem dX5_clear_5 : decode cX5_clear 5 = .ok (.return_, 1) := by decide +kernel
theorem dX5_at_0 : decode cX5_at 0 = .ok (.aload_n 0, 1) := by decide +kernel
theorem dX5_at_1 : decode cX5_at 1 = .ok (.iload_n 1, 1) := by decide +kernel
theorem dX5_at_2 : decode cX5_at 2 = .ok (.iconst 1, 1) := by decide +kernel
theorem dX5_at_3 : decode cX5_at 3 = .ok (.invokevirtual 20, 3) := by decide +kernel
theorem dX5_at_6 : decode cX5_at 6 = .ok (.l2i, 1) := by decide +kernel
theorem dX5_at_7 : decode cX5_at 7 = .ok (.ireturn, 1) := by decide +kernel
theorem dX5_number_0 : decode cX5_number 0 = .ok (.lconst 0, 1) := by decide +kernel
theorem dX5_number_1 : decode cX5_number 1 = .ok (.lstore_n 3, 1) := by decide +kernel
theorem dX5_number_2 : decode cX5_number 2 = .ok (.iconst 0, 1) := by decide +kernel
theorem dX5_number_3 : decode cX5_number 3 = .ok (.istore 5, 2) := by decide +kernel
theorem dX5_number_5 : decode cX5_number 5 = .ok (.iload 5, 2) := by decide +kernel
theorem dX5_number_7 : decode cX5_number 7 = .ok (.iload_n 2, 1) := by decide +kernel
theorem dX5_number_8 : decode cX5_number 8 = .ok (.if_icmp .ge 67, 3) := by decide +kernel
theorem dX5_number_11 : decode cX5_number 11 = .ok (.iload 5, 2) := by decide +kernel
theorem dX5_number_13 : decode cX5_number 13 = .ok (.bipush 8, 2) := by decide +kernel
theorem dX5_number_15 : decode cX5_number 15 = .ok (.if_icmp .ge 60, 3) := by decide +kernel
theorem dX5_number_18 : decode cX5_number 18 = .ok (.iload_n 1, 1) := by decide +kernel
theorem dX5_number_19 : decode cX5_number 19 = .ok (.iload 5, 2) := by decide +kernel
theorem dX5_number_21 : decode cX5_number 21 = .ok (.iadd, 1) := by decide +kernel
theorem dX5_number_22 : decode cX5_number 22 = .ok (.istore 6, 2) := by decide +kernel
theorem dX5_number_24 : decode cX5_number 24 = .ok (.iload 6, 2) := by decide +kernel
theorem dX5_number_26 : decode cX5_number 26 = .ok (.ifCond .lt 43, 3) := by decide +kernel
theorem dX5_number_29 : decode cX5_number 29 = .ok (.iload 6, 2) := by decide +kernel
theorem dX5_number_31 : decode cX5_number 31 = .ok (.aload_n 0, 1) := by decide +kernel
theorem dX5_number_32 : decode cX5_number 32 = .ok (.getfield 17, 3) := by decide +kernel
theorem dX5_number_35 : decode cX5_number 35 = .ok (.if_icmp .ge 34, 3) := by decide +kernel
theorem dX5_number_38 : decode cX5_number 38 = .ok (.lload_n 3, 1) := by decide +kernel
theorem dX5_number_39 : decode cX5_number 39 = .ok (.aload_n 0, 1) := by decide +kernel
theorem dX5_number_40 : decode cX5_number 40 = .ok (.getfield 13, 3) := by decide +kernel
theorem dX5_number_43 : decode cX5_number 43 = .ok (.iload 6, 2) := by decide +kernel
theorem dX5_number_45 : decode cX5_number 45 = .ok (.iconst 3, 1) := by decide +kernel
theorem dX5_number_46 : decode cX5_number 46 = .ok (.ishr, 1) := by decide +kernel
theorem dX5_number_47 : decode cX5_number 47 = .ok (.laload, 1) := by decide +kernel
theorem dX5_number_48 : decode cX5_number 48 = .ok (.bipush 8, 2) := by decide +kernel
theorem dX5_number_50 : decode cX5_number 50 = .ok (.iload 6, 2) := by decide +kernel
theorem dX5_number_52 : decode cX5_number 52 = .ok (.bipush 7, 2) := by decide +kernel
theorem dX5_number_54 : decode cX5_number 54 = .ok (.iand, 1) := by decide +kernel
theorem dX5_number_55 : decode cX5_number 55 = .ok (.imul, 1) := by decide +kernel
theorem dX5_number_56 : decode cX5_number 56 = .ok (.lushr, 1) := by decide +kernel
theorem dX5_number_57 : decode cX5_number 57 = .ok (.ldc2_w 24, 3) := by decide +kernel
theorem dX5_number_60 : decode cX5_number 60 = .ok (.land, 1) := by decide +kernel
theorem dX5_number_61 : decode cX5_number 61 = .ok (.bipush 8, 2) := by decide +kernel
theorem dX5_number_63 : decode cX5_number 63 = .ok (.iload 5, 2) := by decide +kernel
theorem dX5_number_65 : decode cX5_number 65 = .ok (.imul, 1) := by decide +kernel
theorem dX5_number_66 : decode cX5_number 66 = .ok (.lshl, 1) := by decide +kernel
theorem dX5_number_67 : decode cX5_number 67 = .ok (.lor, 1) := by decide +kernel
theorem dX5_number_68 : decode cX5_number 68 = .ok (.lstore_n 3, 1) := by decide +kernel
theorem dX5_number_69 : decode cX5_number 69 = .ok (.iinc 5 1, 3) := by decide +kernel
theorem dX5_number_72 : decode cX5_number 72 = .ok (.goto (-67), 3) := by decide +kernel
theorem dX5_number_75 : decode cX5_number 75 = .ok (.lload_n 3, 1) := by decide +kernel
theorem dX5_number_76 : decode cX5_number 76 = .ok (.lreturn, 1) := by decide +kernel
theorem dX5_addLowest_0 : decode cX5_addLowest 0 = .ok (.iconst 0, 1) := by decide +kernel
theorem dX5_addLowest_1 : decode cX5_addLowest 1 = .ok (.istore 4, 2) := by decide +kernel
theorem dX5_addLowest_3 : decode cX5_addLowest 3 = .ok (.iload 4, 2) := by decide +kernel
theorem dX5_addLowest_5 : decode cX5_addLowest 5 = .ok (.iload_n 1, 1) := by decide +kernel
theorem dX5_addLowest_6 : decode cX5_addLowest 6 = .ok (.if_icmp .ge 31, 3) := by decide +kernel
theorem dX5_addLowest_9 : decode cX5_addLowest 9 = .ok (.iload 4, 2) := by decide +kernel
theorem dX5_addLowest_11 : decode cX5_addLowest 11 = .ok (.bipush 8, 2) := by decide +kernel
theorem dX5_addLowest_13 : decode cX5_addLowest 13 = .ok (.if_icmp .ge 24, 3) := by decide +kernel
theorem dX5_addLowest_16 : decode cX5_addLowest 16 = .ok (.aload_n 0, 1) := by decide +kernel
theorem dX5_addLowest_17 : decode cX5_addLowest 17 = .ok (.lload_n 2, 1) := by decide +kernel
theorem dX5_addLowest_18 : decode cX5_addLowest 18 = .ok (.bipush 8, 2) := by decide +kernel
theorem dX5_addLowest_20 : decode cX5_addLowest 20 = .ok (.iload 4, 2) := by decide +kernel
theorem dX5_addLowest_22 : decode cX5_addLowest 22 = .ok (.imul, 1) := by decide +kernel
theorem dX5_addLowest_23 : decode cX5_addLowest 23 = .ok (.lshr, 1) := by decide +kernel
theorem dX5_addLowest_24 : decode cX5_addLowest 24 = .ok (.ldc2_w 24, 3) := by decide +kernel
theorem dX5_addLowest_27 : decode cX5_addLowest 27 = .ok (.land, 1) := by decide +kernel
theorem dX5_addLowest_28 : decode cX5_addLowest 28 = .ok (.invokevirtual 26, 3) := by decide +kernel
theorem dX5_addLowest_31 : decode cX5_addLowest 31 = .ok (.iinc 4 1, 3) := by decide +kernel
theorem dX5_addLowest_34 : decode cX5_addLowest 34 = .ok (.goto (-31), 3) := by decide +kernel
theorem dX5_addLowest_37 : decode cX5_addLowest 37 = .ok (.return_, 1) := by decide +kernel
theorem dX5_addFrom_0 : decode cX5_addFrom 0 = .ok (.iconst 0, 1) := by decide +kernel
theorem dX5_addFrom_1 : decode cX5_addFrom 1 = .ok (.istore 4, 2) := by decide +kernel
theorem dX5_addFrom_3 : decode cX5_addFrom 3 = .ok (.iload 4, 2) := by decide +kernel
theorem dX5_addFrom_5 : decode cX5_addFrom 5 = .ok (.iload_n 3, 1) := by decide +kernel
theorem dX5_addFrom_6 : decode cX5_addFrom 6 = .ok (.if_icmp .ge 22, 3) := by decide +kernel
theorem dX5_addFrom_9 : decode cX5_addFrom 9 = .ok (.aload_n 0, 1) := by decide +kernel
theorem dX5_addFrom_10 : decode cX5_addFrom 10 = .ok (.aload_n 1, 1) := by decide +kernel
theorem dX5_addFrom_11 : decode cX5_addFrom 11 = .ok (.iload_n 2, 1) := by decide +kernel
theorem dX5_addFrom_12 : decode cX5_addFrom 12 = .ok (.iload 4, 2) := by decide +kernel
theorem dX5_addFrom_14 : decode cX5_addFrom 14 = .ok (.iadd, 1) := by decide +kernel
theorem dX5_addFrom_15 : decode cX5_addFrom 15 = .ok (.invokevirtual 30, 3) := by decide +kernel
theorem dX5_addFrom_18 : decode cX5_addFrom 18 = .ok (.i2l, 1) := by decide +kernel
theorem dX5_addFrom_19 : decode cX5_addFrom 19 = .ok (.invokevirtual 26, 3) := by decide +kernel
theorem dX5_addFrom_22 : decode cX5_addFrom 22 = .ok (.iinc 4 1, 3) := by decide +kernel
theorem dX5_addFrom_25 : decode cX5_addFrom 25 = .ok (.goto (-22), 3) := by decide +kernel
theorem dX5_addFrom_28 : decode cX5_addFrom 28 = .ok (.return_, 1) := by decide +kernel
theorem dX5_same_0 : decode cX5_same 0 = .ok (.iconst 0, 1) := by decide +kernel
theorem dX5_same_1 : decode cX5_same 1 = .ok (.istore 5, 2) := by decide +kernel
theorem dX5_same_3 : decode cX5_same 3 = .ok (.iload 5, 2) := by decide +kernel
theorem dX5_same_5 : decode cX5_same 5 = .ok (.iload 4, 2) := by decide +kernel
theorem dX5_same_7 : decode cX5_same 7 = .ok (.if_icmp .ge 30, 3) := by decide +kernel
theorem dX5_same_10 : decode cX5_same 10 = .ok (.aload_n 0, 1) := by decide +kernel
theorem dX5_same_11 : decode cX5_same 11 = .ok (.iload_n 1, 1) := by decide +kernel
theorem dX5_same_12 : decode cX5_same 12 = .ok (.iload 5, 2) := by decide +kernel
theorem dX5_same_14 : decode cX5_same 14 = .ok (.iadd, 1) := by decide +kernel
theorem dX5_same_15 : decode cX5_same 15 = .ok (.invokevirtual 30, 3) := by decide +kernel
theorem dX5_same_18 : decode cX5_same 18 = .ok (.aload_n 2, 1) := by decide +kernel
theorem dX5_same_19 : decode cX5_same 19 = .ok (.iload_n 3, 1) := by decide +kernel
theorem dX5_same_20 : decode cX5_same 20 = .ok (.iload 5, 2) := by decide +kernel
theorem dX5_same_22 : decode cX5_same 22 = .ok (.iadd, 1) := by decide +kernel
theorem dX5_same_23 : decode cX5_same 23 = .ok (.invokevirtual 30, 3) := by decide +kernel
theorem dX5_same_26 : decode cX5_same 26 = .ok (.if_icmp .eq 5, 3) := by decide +kernel
theorem dX5_same_29 : decode cX5_same 29 = .ok (.iconst 0, 1) := by decide +kernel
theorem dX5_same_30 : decode cX5_same 30 = .ok (.ireturn, 1) := by decide +kernel
theorem dX5_same_31 : decode cX5_same 31 = .ok (.iinc 5 1, 3) := by decide +kernel
theorem dX5_same_34 : decode cX5_same 34 = .ok (.goto (-31), 3) := by decide +kernel
theorem dX5_same_37 : decode cX5_same 37 = .ok (.iconst 1, 1) := by decide +kernel
theorem dX5_same_38 : decode cX5_same 38 = .ok (.ireturn, 1) := by decide +kernel
theorem dX5_addByte_0 : decode cX5_addByte 0 = .ok (.aload_n 0, 1) := by decide +kernel
theorem dX5_addByte_1 : decode cX5_addByte 1 = .ok (.getfield 17, 3) := by decide +kernel
theorem dX5_addByte_4 : decode cX5_addByte 4 = .ok (.aload_n 0, 1) := by decide +kernel
theorem dX5_addByte_5 : decode cX5_addByte 5 = .ok (.getfield 7, 3) := by decide +kernel
theorem dX5_addByte_8 : decode cX5_addByte 8 = .ok (.if_icmp .lt 4, 3) := by decide +kernel
theorem dX5_addByte_11 : decode cX5_addByte 11 = .ok (.return_, 1) := by decide +kernel
theorem dX5_addByte_12 : decode cX5_addByte 12 = .ok (.bipush 8, 2) := by decide +kernel
theorem dX5_addByte_14 : decode cX5_addByte 14 = .ok (.aload_n 0, 1) := by decide +kernel
theorem dX5_addByte_15 : decode cX5_addByte 15 = .ok (.getfield 17, 3) := by decide +kernel
theorem dX5_addByte_18 : decode cX5_addByte 18 = .ok (.bipush 7, 2) := by decide +kernel
theorem dX5_addByte_20 : decode cX5_addByte 20 = .ok (.iand, 1) := by decide +kernel
theorem dX5_addByte_21 : decode cX5_addByte 21 = .ok (.imul, 1) := by decide +kernel
theorem dX5_addByte_22 : decode cX5_addByte 22 = .ok (.istore_n 3, 1) := by decide +kernel
theorem dX5_addByte_23 : decode cX5_addByte 23 = .ok (.aload_n 0, 1) := by decide +kernel
theorem dX5_addByte_24 : decode cX5_addByte 24 = .ok (.getfield 17, 3) := by decide +kernel
theorem dX5_addByte_27 : decode cX5_addByte 27 = .ok (.iconst 3, 1) := by decide +kernel
theorem dX5_addByte_28 : decode cX5_addByte 28 = .ok (.ishr, 1) := by decide +kernel
theorem dX5_addByte_29 : decode cX5_addByte 29 = .ok (.istore 4, 2) := by decide +kernel
theorem dX5_addByte_31 : decode cX5_addByte 31 = .ok (.aload_n 0, 1) := by decide +kernel
theorem dX5_addByte_32 : decode cX5_addByte 32 = .ok (.getfield 13, 3) := by decide +kernel
theorem dX5_addByte_35 : decode cX5_addByte 35 = .ok (.iload 4, 2) := by decide +kernel
theorem dX5_addByte_37 : decode cX5_addByte 37 = .ok (.aload_n 0, 1) := by decide +kernel
theorem dX5_addByte_38 : decode cX5_addByte 38 = .ok (.getfield 13, 3) := by decide +kernel
theorem dX5_addByte_41 : decode cX5_addByte 41 = .ok (.iload 4, 2) := by decide +kernel
theorem dX5_addByte_43 : decode cX5_addByte 43 = .ok (.laload, 1) := by decide +kernel
theorem dX5_addByte_44 : decode cX5_addByte 44 = .ok (.ldc2_w 24, 3) := by decide +kernel
theorem dX5_addByte_47 : decode cX5_addByte 47 = .ok (.iload_n 3, 1) := by decide +kernel
theorem dX5_addByte_48 : decode cX5_addByte 48 = .ok (.lshl, 1) := by decide +kernel
theorem dX5_addByte_49 : decode cX5_addByte 49 = .ok (.ldc2_w 34, 3) := by decide +kernel
theorem dX5_addByte_52 : decode cX5_addByte 52 = .ok (.lxor, 1) := by decide +kernel
theorem dX5_addByte_53 : decode cX5_addByte 53 = .ok (.land, 1) := by decide +kernel
theorem dX5_addByte_54 : decode cX5_addByte 54 = .ok (.lload_n 1, 1) := by decide +kernel
theorem dX5_addByte_55 : decode cX5_addByte 55 = .ok (.iload_n 3, 1) := by decide +kernel
theorem dX5_addByte_56 : decode cX5_addByte 56 = .ok (.lshl, 1) := by decide +kernel
theorem dX5_addByte_57 : decode cX5_addByte 57 = .ok (.lor, 1) := by decide +kernel
theorem dX5_addByte_58 : decode cX5_addByte 58 = .ok (.lastore, 1) := by decide +kernel
theorem dX5_addByte_59 : decode cX5_addByte 59 = .ok (.aload_n 0, 1) := by decide +kernel
theorem dX5_addByte_60 : decode cX5_addByte 60 = .ok (.dup, 1) := by decide +kernel
theorem dX5_addByte_61 : decode cX5_addByte 61 = .ok (.getfield 17, 3) := by decide +kernel
theorem dX5_addByte_64 : decode cX5_addByte 64 = .ok (.iconst 1, 1) := by decide +kernel
theorem dX5_addByte_65 : decode cX5_addByte 65 = .ok (.iadd, 1) := by decide +kernel
theorem dX5_addByte_66 : decode cX5_addByte 66 = .ok (.putfield 17, 3) := by decide +kernel
theorem dX5_addByte_69 : decode cX5_addByte 69 = .ok (.return_, 1) := by decide +kernel
