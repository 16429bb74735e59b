set_option maxRecDepth 20000 in
theorem mX3_init : Cond.code yX3_init cX3_init 1 none ∈ gTbl ∧ Cond.initialized yX3_init.cls ∈ gTbl ∧ (yX3_init.cls ≠ "java/lang/invoke/MethodHandle" ∧ yX3_init.cls ≠ "java/lang/invoke/VarHandle" ∧ (parseMethodDescriptor yX3_init.desc).map (fun d => d.parameters.length) = some 0) ∧ 1 ≤ 15 := ⟨g_in 136 rfl rfl, g_in 50 (by decide +kernel) (by decide +kernel), ⟨by decide +kernel, by decide +kernel, by decide +kernel⟩, by decide⟩
theorem iX3_init : Cond.instanceMethod yX3_init ∈ gTbl := g_in 135 (by decide +kernel) (by decide +kernel)
theorem kX3_3 : Cond.methodLink RX3 3 objectInit ∈ gTbl := g_in 137 (by decide +kernel) (by decide +kernel)
theorem kX3_9 : Cond.fieldLink RX3 9 "TypeFold$Names" "slot" "[I" ∈ gTbl := g_in 138 (by decide +kernel) (by decide +kernel)
theorem kX3_15 : Cond.fieldLink RX3 15 "TypeFold$Names" "told" "[I" ∈ gTbl := g_in 139 (by decide +kernel) (by decide +kernel)
theorem kX3_18 : Cond.fieldLink RX3 18 "TypeFold$Names" "place" "[I" ∈ gTbl := g_in 140 (by decide +kernel) (by decide +kernel)
theorem kX3_21 : Cond.fieldLink RX3 21 "TypeFold$Names" "letters" "[I" ∈ gTbl := g_in 141 (by decide +kernel) (by decide +kernel)
theorem kX3_24 : Cond.fieldLink RX3 24 "TypeFold$Names" "fresh" "[I" ∈ gTbl := g_in 142 (by decide +kernel) (by decide +kernel)
theorem kX3_27 : Cond.fieldLink RX3 27 "TypeFold$Names" "slots" "I" ∈ gTbl := g_in 143 (by decide +kernel) (by decide +kernel)
theorem kX3_31 : Cond.fieldLink RX3 31 "TypeFold$Names" "count" "I" ∈ gTbl := g_in 144 (by decide +kernel) (by decide +kernel)
theorem kX3_34 : Cond.fieldLink RX3 34 "TypeFold$Names" "freshBytes" "I" ∈ gTbl := g_in 145 (by decide +kernel) (by decide +kernel)
set_option maxRecDepth 20000 in
theorem mX3_gather : Cond.code yX3_gather cX3_gather 3 none ∈ gTbl ∧ Cond.initialized yX3_gather.cls ∈ gTbl ∧ (yX3_gather.cls ≠ "java/lang/invoke/MethodHandle" ∧ yX3_gather.cls ≠ "java/lang/invoke/VarHandle" ∧ (parseMethodDescriptor yX3_gather.desc).map (fun d => d.parameters.length) = some 1) ∧ 3 ≤ 15 := ⟨g_in 364 rfl rfl, g_in 50 (by decide +kernel) (by decide +kernel), ⟨by decide +kernel, by decide +kernel, by decide +kernel⟩, by decide⟩
theorem iX3_gather : Cond.instanceMethod yX3_gather ∈ gTbl := g_in 362 (by decide +kernel) (by decide +kernel)
theorem sX3_gather : Cond.selects yX3_gather.cls yX3_gather yX3_gather ∈ gTbl := g_in 363 (by decide +kernel) (by decide +kernel)
theorem kX3_37 : Cond.methodLink RX3 37 yX7_count ∈ gTbl := g_in 365 (by decide +kernel) (by decide +kernel)
theorem kX3_42 : Cond.methodLink RX3 42 yX3_gatherOf ∈ gTbl := g_in 369 (by decide +kernel) (by decide +kernel)
set_option maxRecDepth 20000 in
theorem mX3_gatherOf : Cond.code yX3_gatherOf cX3_gatherOf 6 none ∈ gTbl ∧ Cond.initialized yX3_gatherOf.cls ∈ gTbl ∧ (yX3_gatherOf.cls ≠ "java/lang/invoke/MethodHandle" ∧ yX3_gatherOf.cls ≠ "java/lang/invoke/VarHandle" ∧ (parseMethodDescriptor yX3_gatherOf.desc).map (fun d => d.parameters.length) = some 2) ∧ 6 ≤ 15 := ⟨g_in 372 rfl rfl, g_in 50 (by decide +kernel) (by decide +kernel), ⟨by decide +kernel, by decide +kernel, by decide +kernel⟩, by decide⟩
theorem iX3_gatherOf : Cond.instanceMethod yX3_gatherOf ∈ gTbl := g_in 371 (by decide +kernel) (by decide +kernel)
theorem sX3_gatherOf : Cond.selects yX3_gatherOf.cls yX3_gatherOf yX3_gatherOf ∈ gTbl := g_in 2 (by decide +kernel) (by decide +kernel)
theorem kX3_55 : Cond.methodLink RX3 55 yX7_kind ∈ gTbl := g_in 373 (by decide +kernel) (by decide +kernel)
theorem kX3_58 : Cond.methodLink RX3 58 yX7_words ∈ gTbl := g_in 382 (by decide +kernel) (by decide +kernel)
theorem kX3_61 : Cond.methodLink RX3 61 yX1_role ∈ gTbl := g_in 386 (by decide +kernel) (by decide +kernel)
theorem kX3_67 : Cond.methodLink RX3 67 yX7_text ∈ gTbl := g_in 387 (by decide +kernel) (by decide +kernel)
theorem kX3_71 : Cond.methodLink RX3 71 yX7_strings ∈ gTbl := g_in 391 (by decide +kernel) (by decide +kernel)
theorem kX3_74 : Cond.methodLink RX3 74 yX7_word ∈ gTbl := g_in 395 (by decide +kernel) (by decide +kernel)
theorem kX3_78 : Cond.methodLink RX3 78 yX3_numberOf ∈ gTbl := g_in 399 (by decide +kernel) (by decide +kernel)
set_option maxRecDepth 20000 in
theorem mX3_numberOf : Cond.code yX3_numberOf cX3_numberOf 5 ((some .int)) ∈ gTbl ∧ Cond.initialized yX3_numberOf.cls ∈ gTbl ∧ (yX3_numberOf.cls ≠ "java/lang/invoke/MethodHandle" ∧ yX3_numberOf.cls ≠ "java/lang/invoke/VarHandle" ∧ (parseMethodDescriptor yX3_numberOf.desc).map (fun d => d.parameters.length) = some 2) ∧ 5 ≤ 15 := ⟨g_in 402 rfl rfl, g_in 50 (by decide +kernel) (by decide +kernel), ⟨by decide +kernel, by decide +kernel, by decide +kernel⟩, by decide⟩
theorem iX3_numberOf : Cond.instanceMethod yX3_numberOf ∈ gTbl := g_in 401 (by decide +kernel) (by decide +kernel)
theorem sX3_numberOf : Cond.selects yX3_numberOf.cls yX3_numberOf yX3_numberOf ∈ gTbl := g_in 3 (by decide +kernel) (by decide +kernel)
theorem kX3_82 : Cond.methodLink RX3 82 yX3_lettersFrom ∈ gTbl := g_in 403 (by decide +kernel) (by decide +kernel)
set_option maxRecDepth 20000 in
theorem mX3_lettersFrom : Cond.code yX3_lettersFrom cX3_lettersFrom 3 ((some .int)) ∈ gTbl ∧ Cond.initialized yX3_lettersFrom.cls ∈ gTbl ∧ (yX3_lettersFrom.cls ≠ "java/lang/invoke/MethodHandle" ∧ yX3_lettersFrom.cls ≠ "java/lang/invoke/VarHandle" ∧ (parseMethodDescriptor yX3_lettersFrom.desc).map (fun d => d.parameters.length) = some 2) ∧ 3 ≤ 15 := ⟨g_in 405 rfl rfl, g_in 50 (by decide +kernel) (by decide +kernel), ⟨by decide +kernel, by decide +kernel, by decide +kernel⟩, by decide⟩
theorem iX3_lettersFrom : Cond.static yX3_lettersFrom ∈ gTbl := g_in 404 (by decide +kernel) (by decide +kernel)
theorem kX3_94 : Cond.methodLink RX3 94 yX5_count ∈ gTbl := g_in 406 (by decide +kernel) (by decide +kernel)
theorem kX3_95 : Cond.methodLink RX3 95 yX5_at ∈ gTbl := g_in 407 (by decide +kernel) (by decide +kernel)
theorem kX3_85 : Cond.methodLink RX3 85 yX5_same ∈ gTbl := g_in 408 (by decide +kernel) (by decide +kernel)
theorem kX3_91 : Cond.methodLink RX3 91 yX3_added ∈ gTbl := g_in 413 (by decide +kernel) (by decide +kernel)
set_option maxRecDepth 20000 in
theorem mX3_added : Cond.code yX3_added cX3_added 3 ((some .int)) ∈ gTbl ∧ Cond.initialized yX3_added.cls ∈ gTbl ∧ (yX3_added.cls ≠ "java/lang/invoke/MethodHandle" ∧ yX3_added.cls ≠ "java/lang/invoke/VarHandle" ∧ (parseMethodDescriptor yX3_added.desc).map (fun d => d.parameters.length) = some 2) ∧ 3 ≤ 15 := ⟨g_in 416 rfl rfl, g_in 50 (by decide +kernel) (by decide +kernel), ⟨by decide +kernel, by decide +kernel, by decide +kernel⟩, by decide⟩
theorem iX3_added : Cond.instanceMethod yX3_added ∈ gTbl := g_in 415 (by decide +kernel) (by decide +kernel)
theorem sX3_added : Cond.selects yX3_added.cls yX3_added yX3_added ∈ gTbl := g_in 4 (by decide +kernel) (by decide +kernel)
set_option maxRecDepth 20000 in
theorem mX3_slot : Cond.code yX3_slot cX3_slot 2 ((some .int)) ∈ gTbl ∧ Cond.initialized yX3_slot.cls ∈ gTbl ∧ (yX3_slot.cls ≠ "java/lang/invoke/MethodHandle" ∧ yX3_slot.cls ≠ "java/lang/invoke/VarHandle" ∧ (parseMethodDescriptor yX3_slot.desc).map (fun d => d.parameters.length) = some 1) ∧ 2 ≤ 15 := ⟨g_in 456 rfl rfl, g_in 50 (by decide +kernel) (by decide +kernel), ⟨by decide +kernel, by decide +kernel, by decide +kernel⟩, by decide⟩
theorem iX3_slot : Cond.instanceMethod yX3_slot ∈ gTbl := g_in 454 (by decide +kernel) (by decide +kernel)
theorem sX3_slot : Cond.selects yX3_slot.cls yX3_slot yX3_slot ∈ gTbl := g_in 455 (by decide +kernel) (by decide +kernel)
set_option maxRecDepth 20000 in
theorem mX3_told : Cond.code yX3_told cX3_told 2 ((some .int)) ∈ gTbl ∧ Cond.initialized yX3_told.cls ∈ gTbl ∧ (yX3_told.cls ≠ "java/lang/invoke/MethodHandle" ∧ yX3_told.cls ≠ "java/lang/invoke/VarHandle" ∧ (parseMethodDescriptor yX3_told.desc).map (fun d => d.parameters.length) = some 1) ∧ 2 ≤ 15 := ⟨g_in 461 rfl rfl, g_in 50 (by decide +kernel) (by decide +kernel), ⟨by decide +kernel, by decide +kernel, by decide +kernel⟩, by decide⟩
theorem iX3_told : Cond.instanceMethod yX3_told ∈ gTbl := g_in 459 (by decide +kernel) (by decide +kernel)
theorem sX3_told : Cond.selects yX3_told.cls yX3_told yX3_told ∈ gTbl := g_in 460 (by decide +kernel) (by decide +kernel)
set_option maxRecDepth 20000 in
theorem mX3_own : Cond.code yX3_own cX3_own 2 ((some .int)) ∈ gTbl ∧ Cond.initialized yX3_own.cls ∈ gTbl ∧ (yX3_own.cls ≠ "java/lang/invoke/MethodHandle" ∧ yX3_own.cls ≠ "java/lang/invoke/VarHandle" ∧ (parseMethodDescriptor yX3_own.desc).map (fun d => d.parameters.length) = some 1) ∧ 2 ≤ 15 := ⟨g_in 628 rfl rfl, g_in 50 (by decide +kernel) (by decide +kernel), ⟨by decide +kernel, by decide +kernel, by decide +kernel⟩, by decide⟩
theorem iX3_own : Cond.instanceMethod yX3_own ∈ gTbl := g_in 626 (by decide +kernel) (by decide +kernel)
theorem sX3_own : Cond.selects yX3_own.cls yX3_own yX3_own ∈ gTbl := g_in 627 (by decide +kernel) (by decide +kernel)
theorem kX3_46 : Cond.methodLink RX3 46 yX3_slot ∈ gTbl := g_in 629 (by decide +kernel) (by decide +kernel)
theorem kX3_49 : Cond.methodLink RX3 49 yX3_told ∈ gTbl := g_in 630 (by decide +kernel) (by decide +kernel)
set_option maxRecDepth 20000 in
theorem mX3_letters : Cond.code yX3_letters cX3_letters 2 ((some .int)) ∈ gTbl ∧ Cond.initialized yX3_letters.cls ∈ gTbl ∧ (yX3_letters.cls ≠ "java/lang/invoke/MethodHandle" ∧ yX3_letters.cls ≠ "java/lang/invoke/VarHandle" ∧ (parseMethodDescriptor yX3_letters.desc).map (fun d => d.parameters.length) = some 1) ∧ 2 ≤ 15 := ⟨g_in 634 rfl rfl, g_in 50 (by decide +kernel) (by decide +kernel), ⟨by decide +kernel, by decide +kernel, by decide +kernel⟩, by decide⟩
theorem iX3_letters : Cond.instanceMethod yX3_letters ∈ gTbl := g_in 632 (by decide +kernel) (by decide +kernel)
theorem sX3_letters : Cond.selects yX3_letters.cls yX3_letters yX3_letters ∈ gTbl := g_in 633 (by decide +kernel) (by decide +kernel)
theorem kX3_51 : Cond.methodLink RX3 51 yX3_isName ∈ gTbl := g_in 635 (by decide +kernel) (by decide +kernel)
set_option maxRecDepth 20000 in
theorem mX3_isName : Cond.code yX3_isName cX3_isName 2 ((some .boolean)) ∈ gTbl ∧ Cond.initialized yX3_isName.cls ∈ gTbl ∧ (yX3_isName.cls ≠ "java/lang/invoke/MethodHandle" ∧ yX3_isName.cls ≠ "java/lang/invoke/VarHandle" ∧ (parseMethodDescriptor yX3_isName.desc).map (fun d => d.parameters.length) = some 1) ∧ 2 ≤ 15 := ⟨g_in 638 rfl rfl, g_in 50 (by decide +kernel) (by decide +kernel), ⟨by decide +kernel, by decide +kernel, by decide +kernel⟩, by decide⟩
theorem iX3_isName : Cond.instanceMethod yX3_isName ∈ gTbl := g_in 637 (by decide +kernel) (by decide +kernel)
theorem sX3_isName : Cond.selects yX3_isName.cls yX3_isName yX3_isName ∈ gTbl := g_in 14 (by decide +kernel) (by decide +kernel)
set_option maxRecDepth 20000 in
theorem mX3_place : Cond.code yX3_place cX3_place 2 ((some .int)) ∈ gTbl ∧ Cond.initialized yX3_place.cls ∈ gTbl ∧ (yX3_place.cls ≠ "java/lang/invoke/MethodHandle" ∧ yX3_place.cls ≠ "java/lang/invoke/VarHandle" ∧ (parseMethodDescriptor yX3_place.desc).map (fun d => d.parameters.length) = some 1) ∧ 2 ≤ 15 := ⟨g_in 709 rfl rfl, g_in 50 (by decide +kernel) (by decide +kernel), ⟨by decide +kernel, by decide +kernel, by decide +kernel⟩, by decide⟩
theorem iX3_place : Cond.instanceMethod yX3_place ∈ gTbl := g_in 707 (by decide +kernel) (by decide +kernel)
theorem sX3_place : Cond.selects yX3_place.cls yX3_place yX3_place ∈ gTbl := g_in 708 (by decide +kernel) (by decide +kernel)
set_option maxRecDepth 20000 in
theorem mX3_freshBytes : Cond.code yX3_freshBytes cX3_freshBytes 1 ((some .int)) ∈ gTbl ∧ Cond.initialized yX3_freshBytes.cls ∈ gTbl ∧ (yX3_freshBytes.cls ≠ "java/lang/invoke/MethodHandle" ∧ yX3_freshBytes.cls ≠ "java/lang/invoke/VarHandle" ∧ (parseMethodDescriptor yX3_freshBytes.desc).map (fun d => d.parameters.length) = some 0) ∧ 1 ≤ 15 := ⟨g_in 741 rfl rfl, g_in 50 (by decide +kernel) (by decide +kernel), ⟨by decide +kernel, by decide +kernel, by decide +kernel⟩, by decide⟩
theorem iX3_freshBytes : Cond.instanceMethod yX3_freshBytes ∈ gTbl := g_in 739 (by decide +kernel) (by decide +kernel)
theorem sX3_freshBytes : Cond.selects yX3_freshBytes.cls yX3_freshBytes yX3_freshBytes ∈ gTbl := g_in 740 (by decide +kernel) (by decide +kernel)
set_option maxRecDepth 20000 in
theorem mX3_freshPlace : Cond.code yX3_freshPlace cX3_freshPlace 2 ((some .int)) ∈ gTbl ∧ Cond.initialized yX3_freshPlace.cls ∈ gTbl ∧ (yX3_freshPlace.cls ≠ "java/lang/invoke/MethodHandle" ∧ yX3_freshPlace.cls ≠ "java/lang/invoke/VarHandle" ∧ (parseMethodDescriptor yX3_freshPlace.desc).map (fun d => d.parameters.length) = some 1) ∧ 2 ≤ 15 := ⟨g_in 758 rfl rfl, g_in 50 (by decide +kernel) (by decide +kernel), ⟨by decide +kernel, by decide +kernel, by decide +kernel⟩, by decide⟩
theorem iX3_freshPlace : Cond.instanceMethod yX3_freshPlace ∈ gTbl := g_in 756 (by decide +kernel) (by decide +kernel)
theorem sX3_freshPlace : Cond.selects yX3_freshPlace.cls yX3_freshPlace yX3_freshPlace ∈ gTbl := g_in 757 (by decide +kernel) (by decide +kernel)
set_option maxRecDepth 20000 in
theorem mX3_count : Cond.code yX3_count cX3_count 1 ((some .int)) ∈ gTbl ∧ Cond.initialized yX3_count.cls ∈ gTbl ∧ (yX3_count.cls ≠ "java/lang/invoke/MethodHandle" ∧ yX3_count.cls ≠ "java/lang/invoke/VarHandle" ∧ (parseMethodDescriptor yX3_count.desc).map (fun d => d.parameters.length) = some 0) ∧ 1 ≤ 15 := ⟨g_in 766 rfl rfl, g_in 50 (by decide +kernel) (by decide +kernel), ⟨by decide +kernel, by decide +kernel, by decide +kernel⟩, by decide⟩
theorem iX3_count : Cond.instanceMethod yX3_count ∈ gTbl := g_in 764 (by decide +kernel) (by decide +kernel)
theorem sX3_count : Cond.selects yX3_count.cls yX3_count yX3_count ∈ gTbl := g_in 765 (by decide +kernel) (by decide +kernel)
theorem dX3_init_0 : decode cX3_init 0 = .ok (.aload_n 0, 1) := by decide +kernel
theorem dX3_init_1 : decode cX3_init 1 = .ok (.invokespecial 3, 3) := by decide +kernel
theorem dX3_init_4 : decode cX3_init 4 = .ok (.aload_n 0, 1) := by decide +kernel
theorem dX3_init_5 : decode cX3_init 5 = .ok (.sipush 201, 3) := by decide +kernel
theorem dX3_init_8 : decode cX3_init 8 = .ok (.newarray .int, 2) := by decide +kernel
theorem dX3_init_10 : decode cX3_init 10 = .ok (.putfield 9, 3) := by decide +kernel
theorem dX3_init_13 : decode cX3_init 13 = .ok (.aload_n 0, 1) := by decide +kernel
theorem dX3_init_14 : decode cX3_init 14 = .ok (.sipush 800, 3) := by decide +kernel
theorem dX3_init_17 : decode cX3_init 17 = .ok (.newarray .int, 2) := by decide +kernel
theorem dX3_init_19 : decode cX3_init 19 = .ok (.putfield 15, 3) := by decide +kernel
theorem dX3_init_22 : decode cX3_init 22 = .ok (.aload_n 0, 1) := by decide +kernel
theorem dX3_init_23 : decode cX3_init 23 = .ok (.sipush 801, 3) := by decide +kernel
theorem dX3_init_26 : decode cX3_init 26 = .ok (.newarray .int, 2) := by decide +kernel
theorem dX3_init_28 : decode cX3_init 28 = .ok (.putfield 18, 3) := by decide +kernel
theorem dX3_init_31 : decode cX3_init 31 = .ok (.aload_n 0, 1) := by decide +kernel
theorem dX3_init_32 : decode cX3_init 32 = .ok (.sipush 801, 3) := by decide +kernel
theorem dX3_init_35 : decode cX3_init 35 = .ok (.newarray .int, 2) := by decide +kernel
theorem dX3_init_37 : decode cX3_init 37 = .ok (.putfield 21, 3) := by decide +kernel
theorem dX3_init_40 : decode cX3_init 40 = .ok (.aload_n 0, 1) := by decide +kernel
theorem dX3_init_41 : decode cX3_init 41 = .ok (.sipush 801, 3) := by decide +kernel
theorem dX3_init_44 : decode cX3_init 44 = .ok (.newarray .int, 2) := by decide +kernel
theorem dX3_init_46 : decode cX3_init 46 = .ok (.putfield 24, 3) := by decide +kernel
theorem dX3_init_49 : decode cX3_init 49 = .ok (.aload_n 0, 1) := by decide +kernel
theorem dX3_init_50 : decode cX3_init 50 = .ok (.iconst 0, 1) := by decide +kernel
theorem dX3_init_51 : decode cX3_init 51 = .ok (.putfield 27, 3) := by decide +kernel
theorem dX3_init_54 : decode cX3_init 54 = .ok (.aload_n 0, 1) := by decide +kernel
theorem dX3_init_55 : decode cX3_init 55 = .ok (.iconst 0, 1) := by decide +kernel
theorem dX3_init_56 : decode cX3_init 56 = .ok (.putfield 31, 3) := by decide +kernel
theorem dX3_init_59 : decode cX3_init 59 = .ok (.aload_n 0, 1) := by decide +kernel
theorem dX3_init_60 : decode cX3_init 60 = .ok (.iconst 1, 1) := by decide +kernel
theorem dX3_init_61 : decode cX3_init 61 = .ok (.putfield 34, 3) := by decide +kernel
theorem dX3_init_64 : decode cX3_init 64 = .ok (.return_, 1) := by decide +kernel
theorem dX3_gather_0 : decode cX3_gather 0 = .ok (.aload_n 0, 1) := by decide +kernel
theorem dX3_gather_1 : decode cX3_gather 1 = .ok (.iconst 0, 1) := by decide +kernel
theorem dX3_gather_2 : decode cX3_gather 2 = .ok (.putfield 27, 3) := by decide +kernel
theorem dX3_gather_5 : decode cX3_gather 5 = .ok (.aload_n 0, 1) := by decide +kernel
theorem dX3_gather_6 : decode cX3_gather 6 = .ok (.iconst 0, 1) := by decide +kernel
theorem dX3_gather_7 : decode cX3_gather 7 = .ok (.putfield 31, 3) := by decide +kernel
theorem dX3_gather_10 : decode cX3_gather 10 = .ok (.aload_n 0, 1) := by decide +kernel
theorem dX3_gather_11 : decode cX3_gather 11 = .ok (.iconst 1, 1) := by decide +kernel
theorem dX3_gather_12 : decode cX3_gather 12 = .ok (.putfield 34, 3) := by decide +kernel
theorem dX3_gather_15 : decode cX3_gather 15 = .ok (.iconst 1, 1) := by decide +kernel
theorem dX3_gather_16 : decode cX3_gather 16 = .ok (.istore_n 2, 1) := by decide +kernel
theorem dX3_gather_17 : decode cX3_gather 17 = .ok (.iload_n 2, 1) := by decide +kernel
theorem dX3_gather_18 : decode cX3_gather 18 = .ok (.aload_n 1, 1) := by decide +kernel
theorem dX3_gather_19 : decode cX3_gather 19 = .ok (.invokevirtual 37, 3) := by decide +kernel
theorem dX3_gather_22 : decode cX3_gather 22 = .ok (.if_icmp .gt 34, 3) := by decide +kernel
theorem dX3_gather_25 : decode cX3_gather 25 = .ok (.iload_n 2, 1) := by decide +kernel
theorem dX3_gather_26 : decode cX3_gather 26 = .ok (.aload_n 0, 1) := by decide +kernel
theorem dX3_gather_27 : decode cX3_gather 27 = .ok (.getfield 9, 3) := by decide +kernel
theorem dX3_gather_30 : decode cX3_gather 30 = .ok (.arraylength, 1) := by decide +kernel
theorem dX3_gather_31 : decode cX3_gather 31 = .ok (.if_icmp .ge 25, 3) := by decide +kernel
theorem dX3_gather_34 : decode cX3_gather 34 = .ok (.aload_n 0, 1) := by decide +kernel
theorem dX3_gather_35 : decode cX3_gather 35 = .ok (.getfield 9, 3) := by decide +kernel
theorem dX3_gather_38 : decode cX3_gather 38 = .ok (.iload_n 2, 1) := by decide +kernel
theorem dX3_gather_39 : decode cX3_gather 39 = .ok (.aload_n 0, 1) := by decide +kernel
theorem dX3_gather_40 : decode cX3_gather 40 = .ok (.getfield 27, 3) := by decide +kernel
theorem dX3_gather_43 : decode cX3_gather 43 = .ok (.iastore, 1) := by decide +kernel
theorem dX3_gather_44 : decode cX3_gather 44 = .ok (.aload_n 0, 1) := by decide +kernel
theorem dX3_gather_45 : decode cX3_gather 45 = .ok (.aload_n 1, 1) := by decide +kernel
theorem dX3_gather_46 : decode cX3_gather 46 = .ok (.iload_n 2, 1) := by decide +kernel
theorem dX3_gather_47 : decode cX3_gather 47 = .ok (.invokevirtual 42, 3) := by decide +kernel
theorem dX3_gather_50 : decode cX3_gather 50 = .ok (.iinc 2 1, 3) := by decide +kernel
theorem dX3_gather_53 : decode cX3_gather 53 = .ok (.goto (-36), 3) := by decide +kernel
theorem dX3_gather_56 : decode cX3_gather 56 = .ok (.return_, 1) := by decide +kernel
theorem dX3_slot_0 : decode cX3_slot 0 = .ok (.iload_n 1, 1) := by decide +kernel
theorem dX3_slot_1 : decode cX3_slot 1 = .ok (.iconst 1, 1) := by decide +kernel
theorem dX3_slot_2 : decode cX3_slot 2 = .ok (.if_icmp .lt 21, 3) := by decide +kernel
theorem dX3_slot_5 : decode cX3_slot 5 = .ok (.iload_n 1, 1) := by decide +kernel
theorem dX3_slot_6 : decode cX3_slot 6 = .ok (.aload_n 0, 1) := by decide +kernel
theorem dX3_slot_7 : decode cX3_slot 7 = .ok (.getfield 9, 3) := by decide +kernel
theorem dX3_slot_10 : decode cX3_slot 10 = .ok (.arraylength, 1) := by decide +kernel
theorem dX3_slot_11 : decode cX3_slot 11 = .ok (.if_icmp .ge 12, 3) := by decide +kernel
theorem dX3_slot_14 : decode cX3_slot 14 = .ok (.aload_n 0, 1) := by decide +kernel
theorem dX3_slot_15 : decode cX3_slot 15 = .ok (.getfield 9, 3) := by decide +kernel
theorem dX3_slot_18 : decode cX3_slot 18 = .ok (.iload_n 1, 1) := by decide +kernel
theorem dX3_slot_19 : decode cX3_slot 19 = .ok (.iaload, 1) := by decide +kernel
theorem dX3_slot_20 : decode cX3_slot 20 = .ok (.goto 4, 3) := by decide +kernel
theorem dX3_slot_23 : decode cX3_slot 23 = .ok (.iconst 0, 1) := by decide +kernel
theorem dX3_slot_24 : decode cX3_slot 24 = .ok (.ireturn, 1) := by decide +kernel
theorem dX3_told_0 : decode cX3_told 0 = .ok (.iload_n 1, 1) := by decide +kernel
theorem dX3_told_1 : decode cX3_told 1 = .ok (.ifCond .lt 20, 3) := by decide +kernel
theorem dX3_told_4 : decode cX3_told 4 = .ok (.iload_n 1, 1) := by decide +kernel
theorem dX3_told_5 : decode cX3_told 5 = .ok (.aload_n 0, 1) := by decide +kernel
theorem dX3_told_6 : decode cX3_told 6 = .ok (.getfield 27, 3) := by decide +kernel
theorem dX3_told_9 : decode cX3_told 9 = .ok (.if_icmp .ge 12, 3) := by decide +kernel
theorem dX3_told_12 : decode cX3_told 12 = .ok (.aload_n 0, 1) := by decide +kernel
theorem dX3_told_13 : decode cX3_told 13 = .ok (.getfield 15, 3) := by decide +kernel
theorem dX3_told_16 : decode cX3_told 16 = .ok (.iload_n 1, 1) := by decide +kernel
theorem dX3_told_17 : decode cX3_told 17 = .ok (.iaload, 1) := by decide +kernel
theorem dX3_told_18 : decode cX3_told 18 = .ok (.goto 4, 3) := by decide +kernel
theorem dX3_told_21 : decode cX3_told 21 = .ok (.iconst 0, 1) := by decide +kernel
theorem dX3_told_22 : decode cX3_told 22 = .ok (.ireturn, 1) := by decide +kernel
theorem dX3_own_0 : decode cX3_own 0 = .ok (.aload_n 0, 1) := by decide +kernel
theorem dX3_own_1 : decode cX3_own 1 = .ok (.aload_n 0, 1) := by decide +kernel
theorem dX3_own_2 : decode cX3_own 2 = .ok (.iload_n 1, 1) := by decide +kernel
theorem dX3_own_3 : decode cX3_own 3 = .ok (.invokevirtual 46, 3) := by decide +kernel
theorem dX3_own_6 : decode cX3_own 6 = .ok (.invokevirtual 49, 3) := by decide +kernel
theorem dX3_own_9 : decode cX3_own 9 = .ok (.ireturn, 1) := by decide +kernel
theorem dX3_count_0 : decode cX3_count 0 = .ok (.aload_n 0, 1) := by decide +kernel
theorem dX3_count_1 : decode cX3_count 1 = .ok (.getfield 31, 3) := by decide +kernel
theorem dX3_count_4 : decode cX3_count 4 = .ok (.ireturn, 1) := by decide +kernel
theorem dX3_place_0 : decode cX3_place 0 = .ok (.aload_n 0, 1) := by decide +kernel
theorem dX3_place_1 : decode cX3_place 1 = .ok (.iload_n 1, 1) := by decide +kernel
theorem dX3_place_2 : decode cX3_place 2 = .ok (.invokevirtual 51, 3) := by decide +kernel
theorem dX3_place_5 : decode cX3_place 5 = .ok (.ifCond .eq 12, 3) := by decide +kernel
theorem dX3_place_8 : decode cX3_place 8 = .ok (.aload_n 0, 1) := by decide +kernel
theorem dX3_place_9 : decode cX3_place 9 = .ok (.getfield 18, 3) := by decide +kernel
theorem dX3_place_12 : decode cX3_place 12 = .ok (.iload_n 1, 1) := by decide +kernel
theorem dX3_place_13 : decode cX3_place 13 = .ok (.iaload, 1) := by decide +kernel
theorem dX3_place_14 : decode cX3_place 14 = .ok (.goto 4, 3) := by decide +kernel
theorem dX3_place_17 : decode cX3_place 17 = .ok (.iconst 0, 1) := by decide +kernel
theorem dX3_place_18 : decode cX3_place 18 = .ok (.ireturn, 1) := by decide +kernel
theorem dX3_letters_0 : decode cX3_letters 0 = .ok (.aload_n 0, 1) := by decide +kernel
theorem dX3_letters_1 : decode cX3_letters 1 = .ok (.iload_n 1, 1) := by decide +kernel
theorem dX3_letters_2 : decode cX3_letters 2 = .ok (.invokevirtual 51, 3) := by decide +kernel
theorem dX3_letters_5 : decode cX3_letters 5 = .ok (.ifCond .eq 12, 3) := by decide +kernel
theorem dX3_letters_8 : decode cX3_letters 8 = .ok (.aload_n 0, 1) := by decide +kernel
theorem dX3_letters_9 : decode cX3_letters 9 = .ok (.getfield 21, 3) := by decide +kernel
theorem dX3_letters_12 : decode cX3_letters 12 = .ok (.iload_n 1, 1) := by decide +kernel
theorem dX3_letters_13 : decode cX3_letters 13 = .ok (.iaload, 1) := by decide +kernel
theorem dX3_letters_14 : decode cX3_letters 14 = .ok (.goto 4, 3) := by decide +kernel
theorem dX3_letters_17 : decode cX3_letters 17 = .ok (.iconst 0, 1) := by decide +kernel
theorem dX3_letters_18 : decode cX3_letters 18 = .ok (.ireturn, 1) := by decide +kernel
theorem dX3_freshPlace_0 : decode cX3_freshPlace 0 = .ok (.aload_n 0, 1) := by decide +kernel
theorem dX3_freshPlace_1 : decode cX3_freshPlace 1 = .ok (.iload_n 1, 1) := by decide +kernel
theorem dX3_freshPlace_2 : decode cX3_freshPlace 2 = .ok (.invokevirtual 51, 3) := by decide +kernel
theorem dX3_freshPlace_5 : decode cX3_freshPlace 5 = .ok (.ifCond .eq 12, 3) := by decide +kernel
theorem dX3_freshPlace_8 : decode cX3_freshPlace 8 = .ok (.aload_n 0, 1) := by decide +kernel
theorem dX3_freshPlace_9 : decode cX3_freshPlace 9 = .ok (.getfield 24, 3) := by decide +kernel
theorem dX3_freshPlace_12 : decode cX3_freshPlace 12 = .ok (.iload_n 1, 1) := by decide +kernel
theorem dX3_freshPlace_13 : decode cX3_freshPlace 13 = .ok (.iaload, 1) := by decide +kernel
theorem dX3_freshPlace_14 : decode cX3_freshPlace 14 = .ok (.goto 4, 3) := by decide +kernel
theorem dX3_freshPlace_17 : decode cX3_freshPlace 17 = .ok (.iconst 0, 1) := by decide +kernel
theorem dX3_freshPlace_18 : decode cX3_freshPlace 18 = .ok (.ireturn, 1) := by decide +kernel
theorem dX3_freshBytes_0 : decode cX3_freshBytes 0 = .ok (.aload_n 0, 1) := by decide +kernel
theorem dX3_freshBytes_1 : decode cX3_freshBytes 1 = .ok (.getfield 34, 3) := by decide +kernel
theorem dX3_freshBytes_4 : decode cX3_freshBytes 4 = .ok (.ireturn, 1) := by decide +kernel
theorem dX3_isName_0 : decode cX3_isName 0 = .ok (.iload_n 1, 1) := by decide +kernel
theorem dX3_isName_1 : decode cX3_isName 1 = .ok (.iconst 1, 1) := by decide +kernel
theorem dX3_isName_2 : decode cX3_isName 2 = .ok (.if_icmp .lt 15, 3) := by decide +kernel
theorem dX3_isName_5 : decode cX3_isName 5 = .ok (.iload_n 1, 1) := by decide +kernel
theorem dX3_isName_6 : decode cX3_isName 6 = .ok (.aload_n 0, 1) := by decide +kernel
theorem dX3_isName_7 : decode cX3_isName 7 = .ok (.getfield 31, 3) := by decide +kernel
theorem dX3_isName_10 : decode cX3_isName 10 = .ok (.if_icmp .gt 7, 3) := by decide +kernel
theorem dX3_isName_13 : decode cX3_isName 13 = .ok (.iconst 1, 1) := by decide +kernel
theorem dX3_isName_14 : decode cX3_isName 14 = .ok (.goto 4, 3) := by decide +kernel
theorem dX3_isName_17 : decode cX3_isName 17 = .ok (.iconst 0, 1) := by decide +kernel
theorem dX3_isName_18 : decode cX3_isName 18 = .ok (.ireturn, 1) := by decide +kernel
theorem dX3_gatherOf_0 : decode cX3_gatherOf 0 = .ok (.aload_n 1, 1) := by decide +kernel
theorem dX3_gatherOf_1 : decode cX3_gatherOf 1 = .ok (.iload_n 2, 1) := by decide +kernel
theorem dX3_gatherOf_2 : decode cX3_gatherOf 2 = .ok (.invokevirtual 55, 3) := by decide +kernel
theorem dX3_gatherOf_5 : decode cX3_gatherOf 5 = .ok (.istore_n 3, 1) := by decide +kernel
theorem dX3_gatherOf_6 : decode cX3_gatherOf 6 = .ok (.aload_n 1, 1) := by decide +kernel
theorem dX3_gatherOf_7 : decode cX3_gatherOf 7 = .ok (.iload_n 2, 1) := by decide +kernel
theorem dX3_gatherOf_8 : decode cX3_gatherOf 8 = .ok (.invokevirtual 58, 3) := by decide +kernel
theorem dX3_gatherOf_11 : decode cX3_gatherOf 11 = .ok (.istore 4, 2) := by decide +kernel
theorem dX3_gatherOf_13 : decode cX3_gatherOf 13 = .ok (.iconst 0, 1) := by decide +kernel
theorem dX3_gatherOf_14 : decode cX3_gatherOf 14 = .ok (.istore 5, 2) := by decide +kernel
theorem dX3_gatherOf_16 : decode cX3_gatherOf 16 = .ok (.iload 5, 2) := by decide +kernel
theorem dX3_gatherOf_18 : decode cX3_gatherOf 18 = .ok (.iload 4, 2) := by decide +kernel
theorem dX3_gatherOf_20 : decode cX3_gatherOf 20 = .ok (.if_icmp .ge 71, 3) := by decide +kernel
theorem dX3_gatherOf_23 : decode cX3_gatherOf 23 = .ok (.iload_n 3, 1) := by decide +kernel
theorem dX3_gatherOf_24 : decode cX3_gatherOf 24 = .ok (.iload 5, 2) := by decide +kernel
theorem dX3_gatherOf_26 : decode cX3_gatherOf 26 = .ok (.invokestatic 61, 3) := by decide +kernel
theorem dX3_gatherOf_29 : decode cX3_gatherOf 29 = .ok (.iconst 1, 1) := by decide +kernel
theorem dX3_gatherOf_30 : decode cX3_gatherOf 30 = .ok (.if_icmp .ne 55, 3) := by decide +kernel
theorem dX3_gatherOf_33 : decode cX3_gatherOf 33 = .ok (.aload_n 0, 1) := by decide +kernel
theorem dX3_gatherOf_34 : decode cX3_gatherOf 34 = .ok (.getfield 27, 3) := by decide +kernel
theorem dX3_gatherOf_37 : decode cX3_gatherOf 37 = .ok (.aload_n 0, 1) := by decide +kernel
theorem dX3_gatherOf_38 : decode cX3_gatherOf 38 = .ok (.getfield 15, 3) := by decide +kernel
theorem dX3_gatherOf_41 : decode cX3_gatherOf 41 = .ok (.arraylength, 1) := by decide +kernel
theorem dX3_gatherOf_42 : decode cX3_gatherOf 42 = .ok (.if_icmp .ge 43, 3) := by decide +kernel
theorem dX3_gatherOf_45 : decode cX3_gatherOf 45 = .ok (.aload_n 0, 1) := by decide +kernel
theorem dX3_gatherOf_46 : decode cX3_gatherOf 46 = .ok (.getfield 15, 3) := by decide +kernel
theorem dX3_gatherOf_49 : decode cX3_gatherOf 49 = .ok (.aload_n 0, 1) := by decide +kernel
theorem dX3_gatherOf_50 : decode cX3_gatherOf 50 = .ok (.getfield 27, 3) := by decide +kernel
theorem dX3_gatherOf_53 : decode cX3_gatherOf 53 = .ok (.aload_n 0, 1) := by decide +kernel
theorem dX3_gatherOf_54 : decode cX3_gatherOf 54 = .ok (.aload_n 1, 1) := by decide +kernel
theorem dX3_gatherOf_55 : decode cX3_gatherOf 55 = .ok (.invokevirtual 67, 3) := by decide +kernel
theorem dX3_gatherOf_58 : decode cX3_gatherOf 58 = .ok (.aload_n 1, 1) := by decide +kernel
theorem dX3_gatherOf_59 : decode cX3_gatherOf 59 = .ok (.invokevirtual 71, 3) := by decide +kernel
theorem dX3_gatherOf_62 : decode cX3_gatherOf 62 = .ok (.aload_n 1, 1) := by decide +kernel
theorem dX3_gatherOf_63 : decode cX3_gatherOf 63 = .ok (.iload_n 2, 1) := by decide +kernel
theorem dX3_gatherOf_64 : decode cX3_gatherOf 64 = .ok (.iload 5, 2) := by decide +kernel
theorem dX3_gatherOf_66 : decode cX3_gatherOf 66 = .ok (.invokevirtual 74, 3) := by decide +kernel
theorem dX3_gatherOf_69 : decode cX3_gatherOf 69 = .ok (.l2i, 1) := by decide +kernel
theorem dX3_gatherOf_70 : decode cX3_gatherOf 70 = .ok (.iadd, 1) := by decide +kernel
theorem dX3_gatherOf_71 : decode cX3_gatherOf 71 = .ok (.invokevirtual 78, 3) := by decide +kernel
theorem dX3_gatherOf_74 : decode cX3_gatherOf 74 = .ok (.iastore, 1) := by decide +kernel
theorem dX3_gatherOf_75 : decode cX3_gatherOf 75 = .ok (.aload_n 0, 1) := by decide +kernel
theorem dX3_gatherOf_76 : decode cX3_gatherOf 76 = .ok (.dup, 1) := by decide +kernel
theorem dX3_gatherOf_77 : decode cX3_gatherOf 77 = .ok (.getfield 27, 3) := by decide +kernel
theorem dX3_gatherOf_80 : decode cX3_gatherOf 80 = .ok (.iconst 1, 1) := by decide +kernel
theorem dX3_gatherOf_81 : decode cX3_gatherOf 81 = .ok (.iadd, 1) := by decide +kernel
theorem dX3_gatherOf_82 : decode cX3_gatherOf 82 = .ok (.putfield 27, 3) := by decide +kernel
theorem dX3_gatherOf_85 : decode cX3_gatherOf 85 = .ok (.iinc 5 1, 3) := by decide +kernel
theorem dX3_gatherOf_88 : decode cX3_gatherOf 88 = .ok (.goto (-72), 3) := by decide +kernel
theorem dX3_gatherOf_91 : decode cX3_gatherOf 91 = .ok (.return_, 1) := by decide +kernel
theorem dX3_numberOf_0 : decode cX3_numberOf 0 = .ok (.aload_n 1, 1) := by decide +kernel
theorem dX3_numberOf_1 : decode cX3_numberOf 1 = .ok (.iload_n 2, 1) := by decide +kernel
theorem dX3_numberOf_2 : decode cX3_numberOf 2 = .ok (.invokestatic 82, 3) := by decide +kernel
theorem dX3_numberOf_5 : decode cX3_numberOf 5 = .ok (.istore_n 3, 1) := by decide +kernel
theorem dX3_numberOf_6 : decode cX3_numberOf 6 = .ok (.iload_n 3, 1) := by decide +kernel
theorem dX3_numberOf_7 : decode cX3_numberOf 7 = .ok (.ifCond .ne 5, 3) := by decide +kernel
theorem dX3_numberOf_10 : decode cX3_numberOf 10 = .ok (.iconst 0, 1) := by decide +kernel
theorem dX3_numberOf_11 : decode cX3_numberOf 11 = .ok (.ireturn, 1) := by decide +kernel
theorem dX3_numberOf_12 : decode cX3_numberOf 12 = .ok (.iconst 1, 1) := by decide +kernel
theorem dX3_numberOf_13 : decode cX3_numberOf 13 = .ok (.istore 4, 2) := by decide +kernel
theorem dX3_numberOf_15 : decode cX3_numberOf 15 = .ok (.iload 4, 2) := by decide +kernel
theorem dX3_numberOf_17 : decode cX3_numberOf 17 = .ok (.aload_n 0, 1) := by decide +kernel
theorem dX3_numberOf_18 : decode cX3_numberOf 18 = .ok (.getfield 31, 3) := by decide +kernel
theorem dX3_numberOf_21 : decode cX3_numberOf 21 = .ok (.if_icmp .gt 51, 3) := by decide +kernel
theorem dX3_numberOf_24 : decode cX3_numberOf 24 = .ok (.aload_n 0, 1) := by decide +kernel
theorem dX3_numberOf_25 : decode cX3_numberOf 25 = .ok (.getfield 21, 3) := by decide +kernel
theorem dX3_numberOf_28 : decode cX3_numberOf 28 = .ok (.iload 4, 2) := by decide +kernel
theorem dX3_numberOf_30 : decode cX3_numberOf 30 = .ok (.iaload, 1) := by decide +kernel
theorem dX3_numberOf_31 : decode cX3_numberOf 31 = .ok (.iload_n 3, 1) := by decide +kernel
theorem dX3_numberOf_32 : decode cX3_numberOf 32 = .ok (.if_icmp .ne 34, 3) := by decide +kernel
theorem dX3_numberOf_35 : decode cX3_numberOf 35 = .ok (.aload_n 0, 1) := by decide +kernel
theorem dX3_numberOf_36 : decode cX3_numberOf 36 = .ok (.getfield 18, 3) := by decide +kernel
theorem dX3_numberOf_39 : decode cX3_numberOf 39 = .ok (.iload 4, 2) := by decide +kernel
theorem dX3_numberOf_41 : decode cX3_numberOf 41 = .ok (.iaload, 1) := by decide +kernel
theorem dX3_numberOf_42 : decode cX3_numberOf 42 = .ok (.iload_n 2, 1) := by decide +kernel
theorem dX3_numberOf_43 : decode cX3_numberOf 43 = .ok (.if_icmp .eq 20, 3) := by decide +kernel
theorem dX3_numberOf_46 : decode cX3_numberOf 46 = .ok (.aload_n 1, 1) := by decide +kernel
theorem dX3_numberOf_47 : decode cX3_numberOf 47 = .ok (.iload_n 2, 1) := by decide +kernel
theorem dX3_numberOf_48 : decode cX3_numberOf 48 = .ok (.aload_n 1, 1) := by decide +kernel
theorem dX3_numberOf_49 : decode cX3_numberOf 49 = .ok (.aload_n 0, 1) := by decide +kernel
theorem dX3_numberOf_50 : decode cX3_numberOf 50 = .ok (.getfield 18, 3) := by decide +kernel
theorem dX3_numberOf_53 : decode cX3_numberOf 53 = .ok (.iload 4, 2) := by decide +kernel
theorem dX3_numberOf_55 : decode cX3_numberOf 55 = .ok (.iaload, 1) := by decide +kernel
theorem dX3_numberOf_56 : decode cX3_numberOf 56 = .ok (.iload_n 3, 1) := by decide +kernel
theorem dX3_numberOf_57 : decode cX3_numberOf 57 = .ok (.invokevirtual 85, 3) := by decide +kernel
theorem dX3_numberOf_60 : decode cX3_numberOf 60 = .ok (.ifCond .eq 6, 3) := by decide +kernel
theorem dX3_numberOf_63 : decode cX3_numberOf 63 = .ok (.iload 4, 2) := by decide +kernel
theorem dX3_numberOf_65 : decode cX3_numberOf 65 = .ok (.ireturn, 1) := by decide +kernel
theorem dX3_numberOf_66 : decode cX3_numberOf 66 = .ok (.iinc 4 1, 3) := by decide +kernel
theorem dX3_numberOf_69 : decode cX3_numberOf 69 = .ok (.goto (-54), 3) := by decide +kernel
theorem dX3_numberOf_72 : decode cX3_numberOf 72 = .ok (.aload_n 0, 1) := by decide +kernel
theorem dX3_numberOf_73 : decode cX3_numberOf 73 = .ok (.iload_n 2, 1) := by decide +kernel
theorem dX3_numberOf_74 : decode cX3_numberOf 74 = .ok (.iload_n 3, 1) := by decide +kernel
theorem dX3_numberOf_75 : decode cX3_numberOf 75 = .ok (.invokevirtual 91, 3) := by decide +kernel
theorem dX3_numberOf_78 : decode cX3_numberOf 78 = .ok (.ireturn, 1) := by decide +kernel
theorem dX3_lettersFrom_0 : decode cX3_lettersFrom 0 = .ok (.iload_n 1, 1) := by decide +kernel
theorem dX3_lettersFrom_1 : decode cX3_lettersFrom 1 = .ok (.istore_n 2, 1) := by decide +kernel
theorem dX3_lettersFrom_2 : decode cX3_lettersFrom 2 = .ok (.iload_n 2, 1) := by decide +kernel
theorem dX3_lettersFrom_3 : decode cX3_lettersFrom 3 = .ok (.aload_n 0, 1) := by decide +kernel
theorem dX3_lettersFrom_4 : decode cX3_lettersFrom 4 = .ok (.invokevirtual 94, 3) := by decide +kernel
theorem dX3_lettersFrom_7 : decode cX3_lettersFrom 7 = .ok (.if_icmp .ge 17, 3) := by decide +kernel
theorem dX3_lettersFrom_10 : decode cX3_lettersFrom 10 = .ok (.aload_n 0, 1) := by decide +kernel
theorem dX3_lettersFrom_11 : decode cX3_lettersFrom 11 = .ok (.iload_n 2, 1) := by decide +kernel
theorem dX3_lettersFrom_12 : decode cX3_lettersFrom 12 = .ok (.invokevirtual 95, 3) := by decide +kernel
theorem dX3_lettersFrom_15 : decode cX3_lettersFrom 15 = .ok (.ifCond .eq 9, 3) := by decide +kernel
theorem dX3_lettersFrom_18 : decode cX3_lettersFrom 18 = .ok (.iinc 2 1, 3) := by decide +kernel
theorem dX3_lettersFrom_21 : decode cX3_lettersFrom 21 = .ok (.goto (-19), 3) := by decide +kernel
theorem dX3_lettersFrom_24 : decode cX3_lettersFrom 24 = .ok (.iload_n 2, 1) := by decide +kernel
theorem dX3_lettersFrom_25 : decode cX3_lettersFrom 25 = .ok (.iload_n 1, 1) := by decide +kernel
theorem dX3_lettersFrom_26 : decode cX3_lettersFrom 26 = .ok (.isub, 1) := by decide +kernel
theorem dX3_lettersFrom_27 : decode cX3_lettersFrom 27 = .ok (.ireturn, 1) := by decide +kernel
theorem dX3_added_0 : decode cX3_added 0 = .ok (.aload_n 0, 1) := by decide +kernel
theorem dX3_added_1 : decode cX3_added 1 = .ok (.getfield 31, 3) := by decide +kernel
theorem dX3_added_4 : decode cX3_added 4 = .ok (.sipush 800, 3) := by decide +kernel
theorem dX3_added_7 : decode cX3_added 7 = .ok (.if_icmp .lt 5, 3) := by decide +kernel
theorem dX3_added_10 : decode cX3_added 10 = .ok (.iconst 0, 1) := by decide +kernel
theorem dX3_added_11 : decode cX3_added 11 = .ok (.ireturn, 1) := by decide +kernel
theorem dX3_added_12 : decode cX3_added 12 = .ok (.aload_n 0, 1) := by decide +kernel
theorem dX3_added_13 : decode cX3_added 13 = .ok (.dup, 1) := by decide +kernel
theorem dX3_added_14 : decode cX3_added 14 = .ok (.getfield 31, 3) := by decide +kernel
theorem dX3_added_17 : decode cX3_added 17 = .ok (.iconst 1, 1) := by decide +kernel
theorem dX3_added_18 : decode cX3_added 18 = .ok (.iadd, 1) := by decide +kernel
theorem dX3_added_19 : decode cX3_added 19 = .ok (.putfield 31, 3) := by decide +kernel
theorem dX3_added_22 : decode cX3_added 22 = .ok (.aload_n 0, 1) := by decide +kernel
theorem dX3_added_23 : decode cX3_added 23 = .ok (.getfield 18, 3) := by decide +kernel
theorem dX3_added_26 : decode cX3_added 26 = .ok (.aload_n 0, 1) := by decide +kernel
theorem dX3_added_27 : decode cX3_added 27 = .ok (.getfield 31, 3) := by decide +kernel
theorem dX3_added_30 : decode cX3_added 30 = .ok (.iload_n 1, 1) := by decide +kernel
theorem dX3_added_31 : decode cX3_added 31 = .ok (.iastore, 1) := by decide +kernel
theorem dX3_added_32 : decode cX3_added 32 = .ok (.aload_n 0, 1) := by decide +kernel
theorem dX3_added_33 : decode cX3_added 33 = .ok (.getfield 21, 3) := by decide +kernel
theorem dX3_added_36 : decode cX3_added 36 = .ok (.aload_n 0, 1) := by decide +kernel
theorem dX3_added_37 : decode cX3_added 37 = .ok (.getfield 31, 3) := by decide +kernel
theorem dX3_added_40 : decode cX3_added 40 = .ok (.iload_n 2, 1) := by decide +kernel
theorem dX3_added_41 : decode cX3_added 41 = .ok (.iastore, 1) := by decide +kernel
theorem dX3_added_42 : decode cX3_added 42 = .ok (.aload_n 0, 1) := by decide +kernel
theorem dX3_added_43 : decode cX3_added 43 = .ok (.getfield 24, 3) := by decide +kernel
theorem dX3_added_46 : decode cX3_added 46 = .ok (.aload_n 0, 1) := by decide +kernel
theorem dX3_added_47 : decode cX3_added 47 = .ok (.getfield 31, 3) := by decide +kernel
theorem dX3_added_50 : decode cX3_added 50 = .ok (.aload_n 0, 1) := by decide +kernel
theorem dX3_added_51 : decode cX3_added 51 = .ok (.getfield 34, 3) := by decide +kernel
theorem dX3_added_54 : decode cX3_added 54 = .ok (.iastore, 1) := by decide +kernel
theorem dX3_added_55 : decode cX3_added 55 = .ok (.aload_n 0, 1) := by decide +kernel
theorem dX3_added_56 : decode cX3_added 56 = .ok (.dup, 1) := by decide +kernel
theorem dX3_added_57 : decode cX3_added 57 = .ok (.getfield 34, 3) := by decide +kernel
theorem dX3_added_60 : decode cX3_added 60 = .ok (.iload_n 2, 1) := by decide +kernel
theorem dX3_added_61 : decode cX3_added 61 = .ok (.iconst 1, 1) := by decide +kernel
theorem dX3_added_62 : decode cX3_added 62 = .ok (.iadd, 1) := by decide +kernel
theorem dX3_added_63 : decode cX3_added 63 = .ok (.iadd, 1) := by decide +kernel
theorem dX3_added_64 : decode cX3_added 64 = .ok (.putfield 34, 3) := by decide +kernel
theorem dX3_added_67 : decode cX3_added 67 = .ok (.aload_n 0, 1) := by decide +kernel
theorem dX3_added_68 : decode cX3_added 68 = .ok (.getfield 31, 3) := by decide +kernel
theorem dX3_added_71 : decode cX3_added 71 = .ok (.ireturn, 1) := by decide +kernel
