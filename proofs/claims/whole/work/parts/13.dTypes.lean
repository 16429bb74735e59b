set_option maxRecDepth 20000 in
theorem mX7_init : Cond.code yX7_init cX7_init 1 none ∈ gTbl ∧ Cond.initialized yX7_init.cls ∈ gTbl ∧ (yX7_init.cls ≠ "java/lang/invoke/MethodHandle" ∧ yX7_init.cls ≠ "java/lang/invoke/VarHandle" ∧ (parseMethodDescriptor yX7_init.desc).map (fun d => d.parameters.length) = some 0) ∧ 1 ≤ 15 := ⟨g_in 108 rfl rfl, g_in 49 (by decide +kernel) (by decide +kernel), ⟨by decide +kernel, by decide +kernel, by decide +kernel⟩, by decide⟩
theorem iX7_init : Cond.instanceMethod yX7_init ∈ gTbl := g_in 107 (by decide +kernel) (by decide +kernel)
theorem kX7_3 : Cond.methodLink RX7 3 objectInit ∈ gTbl := g_in 109 (by decide +kernel) (by decide +kernel)
theorem kX7_22 : Cond.classLink RX7 22 RX5 ∈ gTbl := g_in 110 (by decide +kernel) (by decide +kernel)
theorem kX7_24 : Cond.methodLink RX7 24 yX5_init ∈ gTbl := g_in 111 (by decide +kernel) (by decide +kernel)
theorem kX7_9 : Cond.fieldLink RX7 9 "TypeFold$Types" "at" "[I" ∈ gTbl := g_in 112 (by decide +kernel) (by decide +kernel)
theorem kX7_15 : Cond.fieldLink RX7 15 "TypeFold$Types" "info" "[J" ∈ gTbl := g_in 113 (by decide +kernel) (by decide +kernel)
theorem kX7_19 : Cond.fieldLink RX7 19 "TypeFold$Types" "words" "[I" ∈ gTbl := g_in 114 (by decide +kernel) (by decide +kernel)
theorem kX7_27 : Cond.fieldLink RX7 27 "TypeFold$Types" "text" "LTypeFold$Row;" ∈ gTbl := g_in 115 (by decide +kernel) (by decide +kernel)
theorem kX7_31 : Cond.fieldLink RX7 31 "TypeFold$Types" "count" "I" ∈ gTbl := g_in 116 (by decide +kernel) (by decide +kernel)
theorem kX7_35 : Cond.fieldLink RX7 35 "TypeFold$Types" "strings" "I" ∈ gTbl := g_in 117 (by decide +kernel) (by decide +kernel)
set_option maxRecDepth 20000 in
theorem mX7_take : Cond.code yX7_take cX7_take 5 ((some (.object "TypeFold$Row"))) ∈ gTbl ∧ Cond.initialized yX7_take.cls ∈ gTbl ∧ (yX7_take.cls ≠ "java/lang/invoke/MethodHandle" ∧ yX7_take.cls ≠ "java/lang/invoke/VarHandle" ∧ (parseMethodDescriptor yX7_take.desc).map (fun d => d.parameters.length) = some 1) ∧ 5 ≤ 15 := ⟨g_in 358 rfl rfl, g_in 49 (by decide +kernel) (by decide +kernel), ⟨by decide +kernel, by decide +kernel, by decide +kernel⟩, by decide⟩
theorem iX7_take : Cond.instanceMethod yX7_take ∈ gTbl := g_in 356 (by decide +kernel) (by decide +kernel)
theorem sX7_take : Cond.selects yX7_take.cls yX7_take yX7_take ∈ gTbl := g_in 357 (by decide +kernel) (by decide +kernel)
theorem kX7_38 : Cond.methodLink RX7 38 yX5_number ∈ gTbl := g_in 359 (by decide +kernel) (by decide +kernel)
theorem kX7_42 : Cond.methodLink RX7 42 yX1_words ∈ gTbl := g_in 360 (by decide +kernel) (by decide +kernel)
set_option maxRecDepth 20000 in
theorem mX7_count : Cond.code yX7_count cX7_count 1 ((some .int)) ∈ gTbl ∧ Cond.initialized yX7_count.cls ∈ gTbl ∧ (yX7_count.cls ≠ "java/lang/invoke/MethodHandle" ∧ yX7_count.cls ≠ "java/lang/invoke/VarHandle" ∧ (parseMethodDescriptor yX7_count.desc).map (fun d => d.parameters.length) = some 0) ∧ 1 ≤ 15 := ⟨g_in 368 rfl rfl, g_in 49 (by decide +kernel) (by decide +kernel), ⟨by decide +kernel, by decide +kernel, by decide +kernel⟩, by decide⟩
theorem iX7_count : Cond.instanceMethod yX7_count ∈ gTbl := g_in 366 (by decide +kernel) (by decide +kernel)
theorem sX7_count : Cond.selects yX7_count.cls yX7_count yX7_count ∈ gTbl := g_in 367 (by decide +kernel) (by decide +kernel)
set_option maxRecDepth 20000 in
theorem mX7_kind : Cond.code yX7_kind cX7_kind 2 ((some .int)) ∈ gTbl ∧ Cond.initialized yX7_kind.cls ∈ gTbl ∧ (yX7_kind.cls ≠ "java/lang/invoke/MethodHandle" ∧ yX7_kind.cls ≠ "java/lang/invoke/VarHandle" ∧ (parseMethodDescriptor yX7_kind.desc).map (fun d => d.parameters.length) = some 1) ∧ 2 ≤ 15 := ⟨g_in 376 rfl rfl, g_in 49 (by decide +kernel) (by decide +kernel), ⟨by decide +kernel, by decide +kernel, by decide +kernel⟩, by decide⟩
theorem iX7_kind : Cond.instanceMethod yX7_kind ∈ gTbl := g_in 374 (by decide +kernel) (by decide +kernel)
theorem sX7_kind : Cond.selects yX7_kind.cls yX7_kind yX7_kind ∈ gTbl := g_in 375 (by decide +kernel) (by decide +kernel)
theorem kX7_47 : Cond.methodLink RX7 47 yX7_has ∈ gTbl := g_in 377 (by decide +kernel) (by decide +kernel)
set_option maxRecDepth 20000 in
theorem mX7_has : Cond.code yX7_has cX7_has 2 ((some .boolean)) ∈ gTbl ∧ Cond.initialized yX7_has.cls ∈ gTbl ∧ (yX7_has.cls ≠ "java/lang/invoke/MethodHandle" ∧ yX7_has.cls ≠ "java/lang/invoke/VarHandle" ∧ (parseMethodDescriptor yX7_has.desc).map (fun d => d.parameters.length) = some 1) ∧ 2 ≤ 15 := ⟨g_in 380 rfl rfl, g_in 49 (by decide +kernel) (by decide +kernel), ⟨by decide +kernel, by decide +kernel, by decide +kernel⟩, by decide⟩
theorem iX7_has : Cond.instanceMethod yX7_has ∈ gTbl := g_in 378 (by decide +kernel) (by decide +kernel)
theorem sX7_has : Cond.selects yX7_has.cls yX7_has yX7_has ∈ gTbl := g_in 379 (by decide +kernel) (by decide +kernel)
theorem kX7_51 : Cond.methodLink RX7 51 yX1_kind ∈ gTbl := g_in 381 (by decide +kernel) (by decide +kernel)
set_option maxRecDepth 20000 in
theorem mX7_words : Cond.code yX7_words cX7_words 2 ((some .int)) ∈ gTbl ∧ Cond.initialized yX7_words.cls ∈ gTbl ∧ (yX7_words.cls ≠ "java/lang/invoke/MethodHandle" ∧ yX7_words.cls ≠ "java/lang/invoke/VarHandle" ∧ (parseMethodDescriptor yX7_words.desc).map (fun d => d.parameters.length) = some 1) ∧ 2 ≤ 15 := ⟨g_in 385 rfl rfl, g_in 49 (by decide +kernel) (by decide +kernel), ⟨by decide +kernel, by decide +kernel, by decide +kernel⟩, by decide⟩
theorem iX7_words : Cond.instanceMethod yX7_words ∈ gTbl := g_in 383 (by decide +kernel) (by decide +kernel)
theorem sX7_words : Cond.selects yX7_words.cls yX7_words yX7_words ∈ gTbl := g_in 384 (by decide +kernel) (by decide +kernel)
set_option maxRecDepth 20000 in
theorem mX7_text : Cond.code yX7_text cX7_text 1 ((some (.object "TypeFold$Row"))) ∈ gTbl ∧ Cond.initialized yX7_text.cls ∈ gTbl ∧ (yX7_text.cls ≠ "java/lang/invoke/MethodHandle" ∧ yX7_text.cls ≠ "java/lang/invoke/VarHandle" ∧ (parseMethodDescriptor yX7_text.desc).map (fun d => d.parameters.length) = some 0) ∧ 1 ≤ 15 := ⟨g_in 390 rfl rfl, g_in 49 (by decide +kernel) (by decide +kernel), ⟨by decide +kernel, by decide +kernel, by decide +kernel⟩, by decide⟩
theorem iX7_text : Cond.instanceMethod yX7_text ∈ gTbl := g_in 388 (by decide +kernel) (by decide +kernel)
theorem sX7_text : Cond.selects yX7_text.cls yX7_text yX7_text ∈ gTbl := g_in 389 (by decide +kernel) (by decide +kernel)
set_option maxRecDepth 20000 in
theorem mX7_strings : Cond.code yX7_strings cX7_strings 1 ((some .int)) ∈ gTbl ∧ Cond.initialized yX7_strings.cls ∈ gTbl ∧ (yX7_strings.cls ≠ "java/lang/invoke/MethodHandle" ∧ yX7_strings.cls ≠ "java/lang/invoke/VarHandle" ∧ (parseMethodDescriptor yX7_strings.desc).map (fun d => d.parameters.length) = some 0) ∧ 1 ≤ 15 := ⟨g_in 394 rfl rfl, g_in 49 (by decide +kernel) (by decide +kernel), ⟨by decide +kernel, by decide +kernel, by decide +kernel⟩, by decide⟩
theorem iX7_strings : Cond.instanceMethod yX7_strings ∈ gTbl := g_in 392 (by decide +kernel) (by decide +kernel)
theorem sX7_strings : Cond.selects yX7_strings.cls yX7_strings yX7_strings ∈ gTbl := g_in 393 (by decide +kernel) (by decide +kernel)
set_option maxRecDepth 20000 in
theorem mX7_word : Cond.code yX7_word cX7_word 3 ((some .long)) ∈ gTbl ∧ Cond.initialized yX7_word.cls ∈ gTbl ∧ (yX7_word.cls ≠ "java/lang/invoke/MethodHandle" ∧ yX7_word.cls ≠ "java/lang/invoke/VarHandle" ∧ (parseMethodDescriptor yX7_word.desc).map (fun d => d.parameters.length) = some 2) ∧ 3 ≤ 15 := ⟨g_in 398 rfl rfl, g_in 49 (by decide +kernel) (by decide +kernel), ⟨by decide +kernel, by decide +kernel, by decide +kernel⟩, by decide⟩
theorem iX7_word : Cond.instanceMethod yX7_word ∈ gTbl := g_in 396 (by decide +kernel) (by decide +kernel)
theorem sX7_word : Cond.selects yX7_word.cls yX7_word yX7_word ∈ gTbl := g_in 397 (by decide +kernel) (by decide +kernel)
set_option maxRecDepth 20000 in
theorem mX7_tally : Cond.code yX7_tally cX7_tally 2 ((some .int)) ∈ gTbl ∧ Cond.initialized yX7_tally.cls ∈ gTbl ∧ (yX7_tally.cls ≠ "java/lang/invoke/MethodHandle" ∧ yX7_tally.cls ≠ "java/lang/invoke/VarHandle" ∧ (parseMethodDescriptor yX7_tally.desc).map (fun d => d.parameters.length) = some 1) ∧ 2 ≤ 15 := ⟨g_in 616 rfl rfl, g_in 49 (by decide +kernel) (by decide +kernel), ⟨by decide +kernel, by decide +kernel, by decide +kernel⟩, by decide⟩
theorem iX7_tally : Cond.instanceMethod yX7_tally ∈ gTbl := g_in 614 (by decide +kernel) (by decide +kernel)
theorem sX7_tally : Cond.selects yX7_tally.cls yX7_tally yX7_tally ∈ gTbl := g_in 615 (by decide +kernel) (by decide +kernel)
theorem kX7_54 : Cond.methodLink RX7 54 yX1_tally ∈ gTbl := g_in 617 (by decide +kernel) (by decide +kernel)
set_option maxRecDepth 20000 in
theorem mX7_flag : Cond.code yX7_flag cX7_flag 2 ((some .int)) ∈ gTbl ∧ Cond.initialized yX7_flag.cls ∈ gTbl ∧ (yX7_flag.cls ≠ "java/lang/invoke/MethodHandle" ∧ yX7_flag.cls ≠ "java/lang/invoke/VarHandle" ∧ (parseMethodDescriptor yX7_flag.desc).map (fun d => d.parameters.length) = some 1) ∧ 2 ≤ 15 := ⟨g_in 621 rfl rfl, g_in 49 (by decide +kernel) (by decide +kernel), ⟨by decide +kernel, by decide +kernel, by decide +kernel⟩, by decide⟩
theorem iX7_flag : Cond.instanceMethod yX7_flag ∈ gTbl := g_in 619 (by decide +kernel) (by decide +kernel)
theorem sX7_flag : Cond.selects yX7_flag.cls yX7_flag yX7_flag ∈ gTbl := g_in 620 (by decide +kernel) (by decide +kernel)
theorem kX7_57 : Cond.methodLink RX7 57 yX1_flag ∈ gTbl := g_in 622 (by decide +kernel) (by decide +kernel)
set_option maxRecDepth 20000 in
theorem mX7_hasOrVoid : Cond.code yX7_hasOrVoid cX7_hasOrVoid 2 ((some .boolean)) ∈ gTbl ∧ Cond.initialized yX7_hasOrVoid.cls ∈ gTbl ∧ (yX7_hasOrVoid.cls ≠ "java/lang/invoke/MethodHandle" ∧ yX7_hasOrVoid.cls ≠ "java/lang/invoke/VarHandle" ∧ (parseMethodDescriptor yX7_hasOrVoid.desc).map (fun d => d.parameters.length) = some 1) ∧ 2 ≤ 15 := ⟨g_in 662 rfl rfl, g_in 49 (by decide +kernel) (by decide +kernel), ⟨by decide +kernel, by decide +kernel, by decide +kernel⟩, by decide⟩
theorem iX7_hasOrVoid : Cond.instanceMethod yX7_hasOrVoid ∈ gTbl := g_in 660 (by decide +kernel) (by decide +kernel)
theorem sX7_hasOrVoid : Cond.selects yX7_hasOrVoid.cls yX7_hasOrVoid yX7_hasOrVoid ∈ gTbl := g_in 661 (by decide +kernel) (by decide +kernel)
theorem dX7_init_0 : decode cX7_init 0 = .ok (.aload_n 0, 1) := by decide +kernel
theorem dX7_init_1 : decode cX7_init 1 = .ok (.invokespecial 3, 3) := by decide +kernel
theorem dX7_init_4 : decode cX7_init 4 = .ok (.aload_n 0, 1) := by decide +kernel
theorem dX7_init_5 : decode cX7_init 5 = .ok (.sipush 201, 3) := by decide +kernel
theorem dX7_init_8 : decode cX7_init 8 = .ok (.newarray .int, 2) := by decide +kernel
theorem dX7_init_10 : decode cX7_init 10 = .ok (.putfield 9, 3) := by decide +kernel
theorem dX7_init_13 : decode cX7_init 13 = .ok (.aload_n 0, 1) := by decide +kernel
theorem dX7_init_14 : decode cX7_init 14 = .ok (.sipush 201, 3) := by decide +kernel
theorem dX7_init_17 : decode cX7_init 17 = .ok (.newarray .long, 2) := by decide +kernel
theorem dX7_init_19 : decode cX7_init 19 = .ok (.putfield 15, 3) := by decide +kernel
theorem dX7_init_22 : decode cX7_init 22 = .ok (.aload_n 0, 1) := by decide +kernel
theorem dX7_init_23 : decode cX7_init 23 = .ok (.sipush 201, 3) := by decide +kernel
theorem dX7_init_26 : decode cX7_init 26 = .ok (.newarray .int, 2) := by decide +kernel
theorem dX7_init_28 : decode cX7_init 28 = .ok (.putfield 19, 3) := by decide +kernel
theorem dX7_init_31 : decode cX7_init 31 = .ok (.aload_n 0, 1) := by decide +kernel
theorem dX7_init_32 : decode cX7_init 32 = .ok (.new 22, 3) := by decide +kernel
theorem dX7_init_35 : decode cX7_init 35 = .ok (.dup, 1) := by decide +kernel
theorem dX7_init_36 : decode cX7_init 36 = .ok (.sipush 8192, 3) := by decide +kernel
theorem dX7_init_39 : decode cX7_init 39 = .ok (.invokespecial 24, 3) := by decide +kernel
theorem dX7_init_42 : decode cX7_init 42 = .ok (.putfield 27, 3) := by decide +kernel
theorem dX7_init_45 : decode cX7_init 45 = .ok (.aload_n 0, 1) := by decide +kernel
theorem dX7_init_46 : decode cX7_init 46 = .ok (.iconst 0, 1) := by decide +kernel
theorem dX7_init_47 : decode cX7_init 47 = .ok (.putfield 31, 3) := by decide +kernel
theorem dX7_init_50 : decode cX7_init 50 = .ok (.aload_n 0, 1) := by decide +kernel
theorem dX7_init_51 : decode cX7_init 51 = .ok (.iconst 0, 1) := by decide +kernel
theorem dX7_init_52 : decode cX7_init 52 = .ok (.putfield 35, 3) := by decide +kernel
theorem dX7_init_55 : decode cX7_init 55 = .ok (.return_, 1) := by decide +kernel
theorem dX7_take_0 : decode cX7_take 0 = .ok (.aload_n 0, 1) := by decide +kernel
theorem dX7_take_1 : decode cX7_take 1 = .ok (.getfield 27, 3) := by decide +kernel
theorem dX7_take_4 : decode cX7_take 4 = .ok (.astore_n 2, 1) := by decide +kernel
theorem dX7_take_5 : decode cX7_take 5 = .ok (.aload_n 0, 1) := by decide +kernel
theorem dX7_take_6 : decode cX7_take 6 = .ok (.aload_n 1, 1) := by decide +kernel
theorem dX7_take_7 : decode cX7_take 7 = .ok (.putfield 27, 3) := by decide +kernel
theorem dX7_take_10 : decode cX7_take 10 = .ok (.aload_n 0, 1) := by decide +kernel
theorem dX7_take_11 : decode cX7_take 11 = .ok (.iconst 0, 1) := by decide +kernel
theorem dX7_take_12 : decode cX7_take 12 = .ok (.putfield 31, 3) := by decide +kernel
theorem dX7_take_15 : decode cX7_take 15 = .ok (.aload_n 0, 1) := by decide +kernel
theorem dX7_take_16 : decode cX7_take 16 = .ok (.bipush 24, 2) := by decide +kernel
theorem dX7_take_18 : decode cX7_take 18 = .ok (.aload_n 0, 1) := by decide +kernel
theorem dX7_take_19 : decode cX7_take 19 = .ok (.getfield 27, 3) := by decide +kernel
theorem dX7_take_22 : decode cX7_take 22 = .ok (.bipush 12, 2) := by decide +kernel
theorem dX7_take_24 : decode cX7_take 24 = .ok (.iconst 4, 1) := by decide +kernel
theorem dX7_take_25 : decode cX7_take 25 = .ok (.invokevirtual 38, 3) := by decide +kernel
theorem dX7_take_28 : decode cX7_take 28 = .ok (.l2i, 1) := by decide +kernel
theorem dX7_take_29 : decode cX7_take 29 = .ok (.iadd, 1) := by decide +kernel
theorem dX7_take_30 : decode cX7_take 30 = .ok (.putfield 35, 3) := by decide +kernel
theorem dX7_take_33 : decode cX7_take 33 = .ok (.bipush 24, 2) := by decide +kernel
theorem dX7_take_35 : decode cX7_take 35 = .ok (.istore_n 3, 1) := by decide +kernel
theorem dX7_take_36 : decode cX7_take 36 = .ok (.iconst 1, 1) := by decide +kernel
theorem dX7_take_37 : decode cX7_take 37 = .ok (.istore 4, 2) := by decide +kernel
theorem dX7_take_39 : decode cX7_take 39 = .ok (.iload 4, 2) := by decide +kernel
theorem dX7_take_41 : decode cX7_take 41 = .ok (.sipush 200, 3) := by decide +kernel
theorem dX7_take_44 : decode cX7_take 44 = .ok (.if_icmp .gt 78, 3) := by decide +kernel
theorem dX7_take_47 : decode cX7_take 47 = .ok (.iload_n 3, 1) := by decide +kernel
theorem dX7_take_48 : decode cX7_take 48 = .ok (.aload_n 0, 1) := by decide +kernel
theorem dX7_take_49 : decode cX7_take 49 = .ok (.getfield 35, 3) := by decide +kernel
theorem dX7_take_52 : decode cX7_take 52 = .ok (.if_icmp .ge 70, 3) := by decide +kernel
theorem dX7_take_55 : decode cX7_take 55 = .ok (.aload_n 0, 1) := by decide +kernel
theorem dX7_take_56 : decode cX7_take 56 = .ok (.getfield 9, 3) := by decide +kernel
theorem dX7_take_59 : decode cX7_take 59 = .ok (.iload 4, 2) := by decide +kernel
theorem dX7_take_61 : decode cX7_take 61 = .ok (.iload_n 3, 1) := by decide +kernel
theorem dX7_take_62 : decode cX7_take 62 = .ok (.iastore, 1) := by decide +kernel
theorem dX7_take_63 : decode cX7_take 63 = .ok (.aload_n 0, 1) := by decide +kernel
theorem dX7_take_64 : decode cX7_take 64 = .ok (.getfield 15, 3) := by decide +kernel
theorem dX7_take_67 : decode cX7_take 67 = .ok (.iload 4, 2) := by decide +kernel
theorem dX7_take_69 : decode cX7_take 69 = .ok (.aload_n 0, 1) := by decide +kernel
theorem dX7_take_70 : decode cX7_take 70 = .ok (.getfield 27, 3) := by decide +kernel
theorem dX7_take_73 : decode cX7_take 73 = .ok (.iload_n 3, 1) := by decide +kernel
theorem dX7_take_74 : decode cX7_take 74 = .ok (.iconst 4, 1) := by decide +kernel
theorem dX7_take_75 : decode cX7_take 75 = .ok (.iadd, 1) := by decide +kernel
theorem dX7_take_76 : decode cX7_take 76 = .ok (.iconst 4, 1) := by decide +kernel
theorem dX7_take_77 : decode cX7_take 77 = .ok (.invokevirtual 38, 3) := by decide +kernel
theorem dX7_take_80 : decode cX7_take 80 = .ok (.lastore, 1) := by decide +kernel
theorem dX7_take_81 : decode cX7_take 81 = .ok (.aload_n 0, 1) := by decide +kernel
theorem dX7_take_82 : decode cX7_take 82 = .ok (.getfield 19, 3) := by decide +kernel
theorem dX7_take_85 : decode cX7_take 85 = .ok (.iload 4, 2) := by decide +kernel
theorem dX7_take_87 : decode cX7_take 87 = .ok (.aload_n 0, 1) := by decide +kernel
theorem dX7_take_88 : decode cX7_take 88 = .ok (.getfield 15, 3) := by decide +kernel
theorem dX7_take_91 : decode cX7_take 91 = .ok (.iload 4, 2) := by decide +kernel
theorem dX7_take_93 : decode cX7_take 93 = .ok (.laload, 1) := by decide +kernel
theorem dX7_take_94 : decode cX7_take 94 = .ok (.invokestatic 42, 3) := by decide +kernel
theorem dX7_take_97 : decode cX7_take 97 = .ok (.iastore, 1) := by decide +kernel
theorem dX7_take_98 : decode cX7_take 98 = .ok (.aload_n 0, 1) := by decide +kernel
theorem dX7_take_99 : decode cX7_take 99 = .ok (.iload 4, 2) := by decide +kernel
theorem dX7_take_101 : decode cX7_take 101 = .ok (.putfield 31, 3) := by decide +kernel
theorem dX7_take_104 : decode cX7_take 104 = .ok (.iload_n 3, 1) := by decide +kernel
theorem dX7_take_105 : decode cX7_take 105 = .ok (.iconst 4, 1) := by decide +kernel
theorem dX7_take_106 : decode cX7_take 106 = .ok (.aload_n 0, 1) := by decide +kernel
theorem dX7_take_107 : decode cX7_take 107 = .ok (.getfield 19, 3) := by decide +kernel
theorem dX7_take_110 : decode cX7_take 110 = .ok (.iload 4, 2) := by decide +kernel
theorem dX7_take_112 : decode cX7_take 112 = .ok (.iaload, 1) := by decide +kernel
theorem dX7_take_113 : decode cX7_take 113 = .ok (.imul, 1) := by decide +kernel
theorem dX7_take_114 : decode cX7_take 114 = .ok (.iadd, 1) := by decide +kernel
theorem dX7_take_115 : decode cX7_take 115 = .ok (.istore_n 3, 1) := by decide +kernel
theorem dX7_take_116 : decode cX7_take 116 = .ok (.iinc 4 1, 3) := by decide +kernel
theorem dX7_take_119 : decode cX7_take 119 = .ok (.goto (-80), 3) := by decide +kernel
theorem dX7_take_122 : decode cX7_take 122 = .ok (.aload_n 2, 1) := by decide +kernel
theorem dX7_take_123 : decode cX7_take 123 = .ok (.areturn, 1) := by decide +kernel
theorem dX7_text_0 : decode cX7_text 0 = .ok (.aload_n 0, 1) := by decide +kernel
theorem dX7_text_1 : decode cX7_text 1 = .ok (.getfield 27, 3) := by decide +kernel
theorem dX7_text_4 : decode cX7_text 4 = .ok (.areturn, 1) := by decide +kernel
theorem dX7_strings_0 : decode cX7_strings 0 = .ok (.aload_n 0, 1) := by decide +kernel
theorem dX7_strings_1 : decode cX7_strings 1 = .ok (.getfield 35, 3) := by decide +kernel
theorem dX7_strings_4 : decode cX7_strings 4 = .ok (.ireturn, 1) := by decide +kernel
theorem dX7_count_0 : decode cX7_count 0 = .ok (.aload_n 0, 1) := by decide +kernel
theorem dX7_count_1 : decode cX7_count 1 = .ok (.getfield 31, 3) := by decide +kernel
theorem dX7_count_4 : decode cX7_count 4 = .ok (.ireturn, 1) := by decide +kernel
theorem dX7_has_0 : decode cX7_has 0 = .ok (.iload_n 1, 1) := by decide +kernel
theorem dX7_has_1 : decode cX7_has 1 = .ok (.iconst 1, 1) := by decide +kernel
theorem dX7_has_2 : decode cX7_has 2 = .ok (.if_icmp .lt 15, 3) := by decide +kernel
theorem dX7_has_5 : decode cX7_has 5 = .ok (.iload_n 1, 1) := by decide +kernel
theorem dX7_has_6 : decode cX7_has 6 = .ok (.aload_n 0, 1) := by decide +kernel
theorem dX7_has_7 : decode cX7_has 7 = .ok (.getfield 31, 3) := by decide +kernel
theorem dX7_has_10 : decode cX7_has 10 = .ok (.if_icmp .gt 7, 3) := by decide +kernel
theorem dX7_has_13 : decode cX7_has 13 = .ok (.iconst 1, 1) := by decide +kernel
theorem dX7_has_14 : decode cX7_has 14 = .ok (.goto 4, 3) := by decide +kernel
theorem dX7_has_17 : decode cX7_has 17 = .ok (.iconst 0, 1) := by decide +kernel
theorem dX7_has_18 : decode cX7_has 18 = .ok (.ireturn, 1) := by decide +kernel
theorem dX7_hasOrVoid_0 : decode cX7_hasOrVoid 0 = .ok (.iload_n 1, 1) := by decide +kernel
theorem dX7_hasOrVoid_1 : decode cX7_hasOrVoid 1 = .ok (.ifCond .eq 11, 3) := by decide +kernel
theorem dX7_hasOrVoid_4 : decode cX7_hasOrVoid 4 = .ok (.aload_n 0, 1) := by decide +kernel
theorem dX7_hasOrVoid_5 : decode cX7_hasOrVoid 5 = .ok (.iload_n 1, 1) := by decide +kernel
theorem dX7_hasOrVoid_6 : decode cX7_hasOrVoid 6 = .ok (.invokevirtual 47, 3) := by decide +kernel
theorem dX7_hasOrVoid_9 : decode cX7_hasOrVoid 9 = .ok (.ifCond .eq 7, 3) := by decide +kernel
theorem dX7_hasOrVoid_12 : decode cX7_hasOrVoid 12 = .ok (.iconst 1, 1) := by decide +kernel
theorem dX7_hasOrVoid_13 : decode cX7_hasOrVoid 13 = .ok (.goto 4, 3) := by decide +kernel
theorem dX7_hasOrVoid_16 : decode cX7_hasOrVoid 16 = .ok (.iconst 0, 1) := by decide +kernel
theorem dX7_hasOrVoid_17 : decode cX7_hasOrVoid 17 = .ok (.ireturn, 1) := by decide +kernel
theorem dX7_kind_0 : decode cX7_kind 0 = .ok (.aload_n 0, 1) := by decide +kernel
theorem dX7_kind_1 : decode cX7_kind 1 = .ok (.iload_n 1, 1) := by decide +kernel
theorem dX7_kind_2 : decode cX7_kind 2 = .ok (.invokevirtual 47, 3) := by decide +kernel
theorem dX7_kind_5 : decode cX7_kind 5 = .ok (.ifCond .eq 15, 3) := by decide +kernel
theorem dX7_kind_8 : decode cX7_kind 8 = .ok (.aload_n 0, 1) := by decide +kernel
theorem dX7_kind_9 : decode cX7_kind 9 = .ok (.getfield 15, 3) := by decide +kernel
theorem dX7_kind_12 : decode cX7_kind 12 = .ok (.iload_n 1, 1) := by decide +kernel
theorem dX7_kind_13 : decode cX7_kind 13 = .ok (.laload, 1) := by decide +kernel
theorem dX7_kind_14 : decode cX7_kind 14 = .ok (.invokestatic 51, 3) := by decide +kernel
theorem dX7_kind_17 : decode cX7_kind 17 = .ok (.goto 4, 3) := by decide +kernel
theorem dX7_kind_20 : decode cX7_kind 20 = .ok (.iconst 0, 1) := by decide +kernel
theorem dX7_kind_21 : decode cX7_kind 21 = .ok (.ireturn, 1) := by decide +kernel
theorem dX7_tally_0 : decode cX7_tally 0 = .ok (.aload_n 0, 1) := by decide +kernel
theorem dX7_tally_1 : decode cX7_tally 1 = .ok (.iload_n 1, 1) := by decide +kernel
theorem dX7_tally_2 : decode cX7_tally 2 = .ok (.invokevirtual 47, 3) := by decide +kernel
theorem dX7_tally_5 : decode cX7_tally 5 = .ok (.ifCond .eq 15, 3) := by decide +kernel
theorem dX7_tally_8 : decode cX7_tally 8 = .ok (.aload_n 0, 1) := by decide +kernel
theorem dX7_tally_9 : decode cX7_tally 9 = .ok (.getfield 15, 3) := by decide +kernel
theorem dX7_tally_12 : decode cX7_tally 12 = .ok (.iload_n 1, 1) := by decide +kernel
theorem dX7_tally_13 : decode cX7_tally 13 = .ok (.laload, 1) := by decide +kernel
theorem dX7_tally_14 : decode cX7_tally 14 = .ok (.invokestatic 54, 3) := by decide +kernel
theorem dX7_tally_17 : decode cX7_tally 17 = .ok (.goto 4, 3) := by decide +kernel
theorem dX7_tally_20 : decode cX7_tally 20 = .ok (.iconst 0, 1) := by decide +kernel
theorem dX7_tally_21 : decode cX7_tally 21 = .ok (.ireturn, 1) := by decide +kernel
theorem dX7_flag_0 : decode cX7_flag 0 = .ok (.aload_n 0, 1) := by decide +kernel
theorem dX7_flag_1 : decode cX7_flag 1 = .ok (.iload_n 1, 1) := by decide +kernel
theorem dX7_flag_2 : decode cX7_flag 2 = .ok (.invokevirtual 47, 3) := by decide +kernel
theorem dX7_flag_5 : decode cX7_flag 5 = .ok (.ifCond .eq 15, 3) := by decide +kernel
theorem dX7_flag_8 : decode cX7_flag 8 = .ok (.aload_n 0, 1) := by decide +kernel
theorem dX7_flag_9 : decode cX7_flag 9 = .ok (.getfield 15, 3) := by decide +kernel
theorem dX7_flag_12 : decode cX7_flag 12 = .ok (.iload_n 1, 1) := by decide +kernel
theorem dX7_flag_13 : decode cX7_flag 13 = .ok (.laload, 1) := by decide +kernel
theorem dX7_flag_14 : decode cX7_flag 14 = .ok (.invokestatic 57, 3) := by decide +kernel
theorem dX7_flag_17 : decode cX7_flag 17 = .ok (.goto 4, 3) := by decide +kernel
theorem dX7_flag_20 : decode cX7_flag 20 = .ok (.iconst 0, 1) := by decide +kernel
theorem dX7_flag_21 : decode cX7_flag 21 = .ok (.ireturn, 1) := by decide +kernel
theorem dX7_words_0 : decode cX7_words 0 = .ok (.aload_n 0, 1) := by decide +kernel
theorem dX7_words_1 : decode cX7_words 1 = .ok (.iload_n 1, 1) := by decide +kernel
theorem dX7_words_2 : decode cX7_words 2 = .ok (.invokevirtual 47, 3) := by decide +kernel
theorem dX7_words_5 : decode cX7_words 5 = .ok (.ifCond .eq 12, 3) := by decide +kernel
theorem dX7_words_8 : decode cX7_words 8 = .ok (.aload_n 0, 1) := by decide +kernel
theorem dX7_words_9 : decode cX7_words 9 = .ok (.getfield 19, 3) := by decide +kernel
theorem dX7_words_12 : decode cX7_words 12 = .ok (.iload_n 1, 1) := by decide +kernel
theorem dX7_words_13 : decode cX7_words 13 = .ok (.iaload, 1) := by decide +kernel
theorem dX7_words_14 : decode cX7_words 14 = .ok (.goto 4, 3) := by decide +kernel
theorem dX7_words_17 : decode cX7_words 17 = .ok (.iconst 0, 1) := by decide +kernel
theorem dX7_words_18 : decode cX7_words 18 = .ok (.ireturn, 1) := by decide +kernel
theorem dX7_word_0 : decode cX7_word 0 = .ok (.aload_n 0, 1) := by decide +kernel
theorem dX7_word_1 : decode cX7_word 1 = .ok (.iload_n 1, 1) := by decide +kernel
theorem dX7_word_2 : decode cX7_word 2 = .ok (.invokevirtual 47, 3) := by decide +kernel
theorem dX7_word_5 : decode cX7_word 5 = .ok (.ifCond .eq 24, 3) := by decide +kernel
theorem dX7_word_8 : decode cX7_word 8 = .ok (.aload_n 0, 1) := by decide +kernel
theorem dX7_word_9 : decode cX7_word 9 = .ok (.getfield 27, 3) := by decide +kernel
theorem dX7_word_12 : decode cX7_word 12 = .ok (.aload_n 0, 1) := by decide +kernel
theorem dX7_word_13 : decode cX7_word 13 = .ok (.getfield 9, 3) := by decide +kernel
theorem dX7_word_16 : decode cX7_word 16 = .ok (.iload_n 1, 1) := by decide +kernel
theorem dX7_word_17 : decode cX7_word 17 = .ok (.iaload, 1) := by decide +kernel
theorem dX7_word_18 : decode cX7_word 18 = .ok (.iconst 4, 1) := by decide +kernel
theorem dX7_word_19 : decode cX7_word 19 = .ok (.iload_n 2, 1) := by decide +kernel
theorem dX7_word_20 : decode cX7_word 20 = .ok (.imul, 1) := by decide +kernel
theorem dX7_word_21 : decode cX7_word 21 = .ok (.iadd, 1) := by decide +kernel
theorem dX7_word_22 : decode cX7_word 22 = .ok (.iconst 4, 1) := by decide +kernel
theorem dX7_word_23 : decode cX7_word 23 = .ok (.invokevirtual 38, 3) := by decide +kernel
theorem dX7_word_26 : decode cX7_word 26 = .ok (.goto 4, 3) := by decide +kernel
theorem dX7_word_29 : decode cX7_word 29 = .ok (.lconst 0, 1) := by decide +kernel
theorem dX7_word_30 : decode cX7_word 30 = .ok (.lreturn, 1) := by decide +kernel
