set_option maxRecDepth 20000 in
theorem mX0_init : Cond.code yX0_init cX0_init 1 none ∈ gTbl ∧ Cond.initialized yX0_init.cls ∈ gTbl ∧ (yX0_init.cls ≠ "java/lang/invoke/MethodHandle" ∧ yX0_init.cls ≠ "java/lang/invoke/VarHandle" ∧ (parseMethodDescriptor yX0_init.desc).map (fun d => d.parameters.length) = some 0) ∧ 1 ≤ 15 := ⟨g_in 196 rfl rfl, g_in 52 (by decide +kernel) (by decide +kernel), ⟨by decide +kernel, by decide +kernel, by decide +kernel⟩, by decide⟩
theorem iX0_init : Cond.instanceMethod yX0_init ∈ gTbl := g_in 195 (by decide +kernel) (by decide +kernel)
theorem kX0_3 : Cond.methodLink RX0 3 objectInit ∈ gTbl := g_in 197 (by decide +kernel) (by decide +kernel)
theorem kX0_9 : Cond.fieldLink RX0 9 "TypeFold$Folding" "now" "[I" ∈ gTbl := g_in 198 (by decide +kernel) (by decide +kernel)
theorem kX0_15 : Cond.fieldLink RX0 15 "TypeFold$Folding" "was" "[I" ∈ gTbl := g_in 199 (by decide +kernel) (by decide +kernel)
theorem kX0_18 : Cond.fieldLink RX0 18 "TypeFold$Folding" "first" "[I" ∈ gTbl := g_in 200 (by decide +kernel) (by decide +kernel)
theorem kX0_21 : Cond.fieldLink RX0 21 "TypeFold$Folding" "sibling" "[I" ∈ gTbl := g_in 201 (by decide +kernel) (by decide +kernel)
theorem kX0_24 : Cond.fieldLink RX0 24 "TypeFold$Folding" "parent" "[I" ∈ gTbl := g_in 202 (by decide +kernel) (by decide +kernel)
theorem kX0_27 : Cond.fieldLink RX0 27 "TypeFold$Folding" "birth" "[I" ∈ gTbl := g_in 203 (by decide +kernel) (by decide +kernel)
theorem kX0_30 : Cond.fieldLink RX0 30 "TypeFold$Folding" "fresh" "[I" ∈ gTbl := g_in 204 (by decide +kernel) (by decide +kernel)
theorem kX0_33 : Cond.fieldLink RX0 33 "TypeFold$Folding" "count" "I" ∈ gTbl := g_in 205 (by decide +kernel) (by decide +kernel)
theorem kX0_37 : Cond.fieldLink RX0 37 "TypeFold$Folding" "latestBirth" "I" ∈ gTbl := g_in 206 (by decide +kernel) (by decide +kernel)
set_option maxRecDepth 20000 in
theorem mX0_fold : Cond.code yX0_fold cX0_fold 7 none ∈ gTbl ∧ Cond.initialized yX0_fold.cls ∈ gTbl ∧ (yX0_fold.cls ≠ "java/lang/invoke/MethodHandle" ∧ yX0_fold.cls ≠ "java/lang/invoke/VarHandle" ∧ (parseMethodDescriptor yX0_fold.desc).map (fun d => d.parameters.length) = some 3) ∧ 7 ≤ 15 := ⟨g_in 437 rfl rfl, g_in 52 (by decide +kernel) (by decide +kernel), ⟨by decide +kernel, by decide +kernel, by decide +kernel⟩, by decide⟩
theorem iX0_fold : Cond.instanceMethod yX0_fold ∈ gTbl := g_in 435 (by decide +kernel) (by decide +kernel)
theorem sX0_fold : Cond.selects yX0_fold.cls yX0_fold yX0_fold ∈ gTbl := g_in 436 (by decide +kernel) (by decide +kernel)
theorem kX0_40 : Cond.methodLink RX0 40 yX7_count ∈ gTbl := g_in 438 (by decide +kernel) (by decide +kernel)
theorem kX0_45 : Cond.methodLink RX0 45 yX0_refine ∈ gTbl := g_in 439 (by decide +kernel) (by decide +kernel)
set_option maxRecDepth 20000 in
theorem mX0_refine : Cond.code yX0_refine cX0_refine 9 ((some .boolean)) ∈ gTbl ∧ Cond.initialized yX0_refine.cls ∈ gTbl ∧ (yX0_refine.cls ≠ "java/lang/invoke/MethodHandle" ∧ yX0_refine.cls ≠ "java/lang/invoke/VarHandle" ∧ (parseMethodDescriptor yX0_refine.desc).map (fun d => d.parameters.length) = some 4) ∧ 9 ≤ 15 := ⟨g_in 442 rfl rfl, g_in 52 (by decide +kernel) (by decide +kernel), ⟨by decide +kernel, by decide +kernel, by decide +kernel⟩, by decide⟩
theorem iX0_refine : Cond.instanceMethod yX0_refine ∈ gTbl := g_in 441 (by decide +kernel) (by decide +kernel)
theorem sX0_refine : Cond.selects yX0_refine.cls yX0_refine yX0_refine ∈ gTbl := g_in 7 (by decide +kernel) (by decide +kernel)
theorem kX0_63 : Cond.methodLink RX0 63 yX0_alike ∈ gTbl := g_in 443 (by decide +kernel) (by decide +kernel)
set_option maxRecDepth 20000 in
theorem mX0_alike : Cond.code yX0_alike cX0_alike 7 ((some .boolean)) ∈ gTbl ∧ Cond.initialized yX0_alike.cls ∈ gTbl ∧ (yX0_alike.cls ≠ "java/lang/invoke/MethodHandle" ∧ yX0_alike.cls ≠ "java/lang/invoke/VarHandle" ∧ (parseMethodDescriptor yX0_alike.desc).map (fun d => d.parameters.length) = some 6) ∧ 7 ≤ 15 := ⟨g_in 446 rfl rfl, g_in 52 (by decide +kernel) (by decide +kernel), ⟨by decide +kernel, by decide +kernel, by decide +kernel⟩, by decide⟩
theorem iX0_alike : Cond.instanceMethod yX0_alike ∈ gTbl := g_in 445 (by decide +kernel) (by decide +kernel)
theorem sX0_alike : Cond.selects yX0_alike.cls yX0_alike yX0_alike ∈ gTbl := g_in 8 (by decide +kernel) (by decide +kernel)
theorem kX0_71 : Cond.methodLink RX0 71 yX0_sameLabel ∈ gTbl := g_in 447 (by decide +kernel) (by decide +kernel)
set_option maxRecDepth 20000 in
theorem mX0_sameLabel : Cond.code yX0_sameLabel cX0_sameLabel 10 ((some .boolean)) ∈ gTbl ∧ Cond.initialized yX0_sameLabel.cls ∈ gTbl ∧ (yX0_sameLabel.cls ≠ "java/lang/invoke/MethodHandle" ∧ yX0_sameLabel.cls ≠ "java/lang/invoke/VarHandle" ∧ (parseMethodDescriptor yX0_sameLabel.desc).map (fun d => d.parameters.length) = some 4) ∧ 10 ≤ 15 := ⟨g_in 449 rfl rfl, g_in 52 (by decide +kernel) (by decide +kernel), ⟨by decide +kernel, by decide +kernel, by decide +kernel⟩, by decide⟩
theorem iX0_sameLabel : Cond.static yX0_sameLabel ∈ gTbl := g_in 448 (by decide +kernel) (by decide +kernel)
theorem kX0_79 : Cond.methodLink RX0 79 yX7_word ∈ gTbl := g_in 450 (by decide +kernel) (by decide +kernel)
theorem kX0_83 : Cond.methodLink RX0 83 yX7_kind ∈ gTbl := g_in 451 (by decide +kernel) (by decide +kernel)
theorem kX0_86 : Cond.methodLink RX0 86 yX7_words ∈ gTbl := g_in 452 (by decide +kernel) (by decide +kernel)
theorem kX0_89 : Cond.methodLink RX0 89 yX3_slot ∈ gTbl := g_in 453 (by decide +kernel) (by decide +kernel)
theorem kX0_94 : Cond.methodLink RX0 94 yX1_role ∈ gTbl := g_in 457 (by decide +kernel) (by decide +kernel)
theorem kX0_99 : Cond.methodLink RX0 99 yX3_told ∈ gTbl := g_in 458 (by decide +kernel) (by decide +kernel)
theorem kX0_75 : Cond.methodLink RX0 75 yX0_sameTargets ∈ gTbl := g_in 462 (by decide +kernel) (by decide +kernel)
set_option maxRecDepth 20000 in
theorem mX0_sameTargets : Cond.code yX0_sameTargets cX0_sameTargets 6 ((some .boolean)) ∈ gTbl ∧ Cond.initialized yX0_sameTargets.cls ∈ gTbl ∧ (yX0_sameTargets.cls ≠ "java/lang/invoke/MethodHandle" ∧ yX0_sameTargets.cls ≠ "java/lang/invoke/VarHandle" ∧ (parseMethodDescriptor yX0_sameTargets.desc).map (fun d => d.parameters.length) = some 3) ∧ 6 ≤ 15 := ⟨g_in 465 rfl rfl, g_in 52 (by decide +kernel) (by decide +kernel), ⟨by decide +kernel, by decide +kernel, by decide +kernel⟩, by decide⟩
theorem iX0_sameTargets : Cond.instanceMethod yX0_sameTargets ∈ gTbl := g_in 464 (by decide +kernel) (by decide +kernel)
theorem sX0_sameTargets : Cond.selects yX0_sameTargets.cls yX0_sameTargets yX0_sameTargets ∈ gTbl := g_in 9 (by decide +kernel) (by decide +kernel)
theorem kX0_102 : Cond.methodLink RX0 102 yX2_tally ∈ gTbl := g_in 466 (by decide +kernel) (by decide +kernel)
theorem kX0_107 : Cond.methodLink RX0 107 yX2_target ∈ gTbl := g_in 470 (by decide +kernel) (by decide +kernel)
theorem kX0_67 : Cond.methodLink RX0 67 yX0_born ∈ gTbl := g_in 475 (by decide +kernel) (by decide +kernel)
set_option maxRecDepth 20000 in
theorem mX0_born : Cond.code yX0_born cX0_born 5 ((some .int)) ∈ gTbl ∧ Cond.initialized yX0_born.cls ∈ gTbl ∧ (yX0_born.cls ≠ "java/lang/invoke/MethodHandle" ∧ yX0_born.cls ≠ "java/lang/invoke/VarHandle" ∧ (parseMethodDescriptor yX0_born.desc).map (fun d => d.parameters.length) = some 3) ∧ 5 ≤ 15 := ⟨g_in 478 rfl rfl, g_in 52 (by decide +kernel) (by decide +kernel), ⟨by decide +kernel, by decide +kernel, by decide +kernel⟩, by decide⟩
theorem iX0_born : Cond.instanceMethod yX0_born ∈ gTbl := g_in 477 (by decide +kernel) (by decide +kernel)
theorem sX0_born : Cond.selects yX0_born.cls yX0_born yX0_born ∈ gTbl := g_in 10 (by decide +kernel) (by decide +kernel)
theorem kX0_49 : Cond.methodLink RX0 49 yX0_numberLeaders ∈ gTbl := g_in 479 (by decide +kernel) (by decide +kernel)
set_option maxRecDepth 20000 in
theorem mX0_numberLeaders : Cond.code yX0_numberLeaders cX0_numberLeaders 4 none ∈ gTbl ∧ Cond.initialized yX0_numberLeaders.cls ∈ gTbl ∧ (yX0_numberLeaders.cls ≠ "java/lang/invoke/MethodHandle" ∧ yX0_numberLeaders.cls ≠ "java/lang/invoke/VarHandle" ∧ (parseMethodDescriptor yX0_numberLeaders.desc).map (fun d => d.parameters.length) = some 1) ∧ 4 ≤ 15 := ⟨g_in 482 rfl rfl, g_in 52 (by decide +kernel) (by decide +kernel), ⟨by decide +kernel, by decide +kernel, by decide +kernel⟩, by decide⟩
theorem iX0_numberLeaders : Cond.instanceMethod yX0_numberLeaders ∈ gTbl := g_in 481 (by decide +kernel) (by decide +kernel)
theorem sX0_numberLeaders : Cond.selects yX0_numberLeaders.cls yX0_numberLeaders yX0_numberLeaders ∈ gTbl := g_in 11 (by decide +kernel) (by decide +kernel)
theorem kX0_53 : Cond.methodLink RX0 53 yX0_leader ∈ gTbl := g_in 483 (by decide +kernel) (by decide +kernel)
set_option maxRecDepth 20000 in
theorem mX0_leader : Cond.code yX0_leader cX0_leader 2 ((some .int)) ∈ gTbl ∧ Cond.initialized yX0_leader.cls ∈ gTbl ∧ (yX0_leader.cls ≠ "java/lang/invoke/MethodHandle" ∧ yX0_leader.cls ≠ "java/lang/invoke/VarHandle" ∧ (parseMethodDescriptor yX0_leader.desc).map (fun d => d.parameters.length) = some 1) ∧ 2 ≤ 15 := ⟨g_in 486 rfl rfl, g_in 52 (by decide +kernel) (by decide +kernel), ⟨by decide +kernel, by decide +kernel, by decide +kernel⟩, by decide⟩
theorem iX0_leader : Cond.instanceMethod yX0_leader ∈ gTbl := g_in 484 (by decide +kernel) (by decide +kernel)
theorem sX0_leader : Cond.selects yX0_leader.cls yX0_leader yX0_leader ∈ gTbl := g_in 485 (by decide +kernel) (by decide +kernel)
set_option maxRecDepth 20000 in
theorem mX0_freshNumber : Cond.code yX0_freshNumber cX0_freshNumber 2 ((some .int)) ∈ gTbl ∧ Cond.initialized yX0_freshNumber.cls ∈ gTbl ∧ (yX0_freshNumber.cls ≠ "java/lang/invoke/MethodHandle" ∧ yX0_freshNumber.cls ≠ "java/lang/invoke/VarHandle" ∧ (parseMethodDescriptor yX0_freshNumber.desc).map (fun d => d.parameters.length) = some 1) ∧ 2 ≤ 15 := ⟨g_in 643 rfl rfl, g_in 52 (by decide +kernel) (by decide +kernel), ⟨by decide +kernel, by decide +kernel, by decide +kernel⟩, by decide⟩
theorem iX0_freshNumber : Cond.instanceMethod yX0_freshNumber ∈ gTbl := g_in 641 (by decide +kernel) (by decide +kernel)
theorem sX0_freshNumber : Cond.selects yX0_freshNumber.cls yX0_freshNumber yX0_freshNumber ∈ gTbl := g_in 642 (by decide +kernel) (by decide +kernel)
set_option maxRecDepth 20000 in
theorem mX0_depthApart : Cond.code yX0_depthApart cX0_depthApart 7 ((some .int)) ∈ gTbl ∧ Cond.initialized yX0_depthApart.cls ∈ gTbl ∧ (yX0_depthApart.cls ≠ "java/lang/invoke/MethodHandle" ∧ yX0_depthApart.cls ≠ "java/lang/invoke/VarHandle" ∧ (parseMethodDescriptor yX0_depthApart.desc).map (fun d => d.parameters.length) = some 2) ∧ 7 ≤ 15 := ⟨g_in 666 rfl rfl, g_in 52 (by decide +kernel) (by decide +kernel), ⟨by decide +kernel, by decide +kernel, by decide +kernel⟩, by decide⟩
theorem iX0_depthApart : Cond.instanceMethod yX0_depthApart ∈ gTbl := g_in 664 (by decide +kernel) (by decide +kernel)
theorem sX0_depthApart : Cond.selects yX0_depthApart.cls yX0_depthApart yX0_depthApart ∈ gTbl := g_in 665 (by decide +kernel) (by decide +kernel)
set_option maxRecDepth 20000 in
theorem mX0_classes : Cond.code yX0_classes cX0_classes 1 ((some .int)) ∈ gTbl ∧ Cond.initialized yX0_classes.cls ∈ gTbl ∧ (yX0_classes.cls ≠ "java/lang/invoke/MethodHandle" ∧ yX0_classes.cls ≠ "java/lang/invoke/VarHandle" ∧ (parseMethodDescriptor yX0_classes.desc).map (fun d => d.parameters.length) = some 0) ∧ 1 ≤ 15 := ⟨g_in 796 rfl rfl, g_in 52 (by decide +kernel) (by decide +kernel), ⟨by decide +kernel, by decide +kernel, by decide +kernel⟩, by decide⟩
theorem iX0_classes : Cond.instanceMethod yX0_classes ∈ gTbl := g_in 794 (by decide +kernel) (by decide +kernel)
theorem sX0_classes : Cond.selects yX0_classes.cls yX0_classes yX0_classes ∈ gTbl := g_in 795 (by decide +kernel) (by decide +kernel)
set_option maxRecDepth 20000 in
theorem mX0_greatestAlike : Cond.code yX0_greatestAlike cX0_greatestAlike 1 ((some .int)) ∈ gTbl ∧ Cond.initialized yX0_greatestAlike.cls ∈ gTbl ∧ (yX0_greatestAlike.cls ≠ "java/lang/invoke/MethodHandle" ∧ yX0_greatestAlike.cls ≠ "java/lang/invoke/VarHandle" ∧ (parseMethodDescriptor yX0_greatestAlike.desc).map (fun d => d.parameters.length) = some 0) ∧ 1 ≤ 15 := ⟨g_in 808 rfl rfl, g_in 52 (by decide +kernel) (by decide +kernel), ⟨by decide +kernel, by decide +kernel, by decide +kernel⟩, by decide⟩
theorem iX0_greatestAlike : Cond.instanceMethod yX0_greatestAlike ∈ gTbl := g_in 806 (by decide +kernel) (by decide +kernel)
theorem sX0_greatestAlike : Cond.selects yX0_greatestAlike.cls yX0_greatestAlike yX0_greatestAlike ∈ gTbl := g_in 807 (by decide +kernel) (by decide +kernel)
theorem kX0_57 : Cond.methodLink RX0 57 ⟨"java/lang/Math", "max", "(II)I"⟩ ∈ gTbl := g_in 809 (by decide +kernel) (by decide +kernel)
theorem dX0_init_0 : decode cX0_init 0 = .ok (.aload_n 0, 1) := by decide +kernel
theorem dX0_init_1 : decode cX0_init 1 = .ok (.invokespecial 3, 3) := by decide +kernel
theorem dX0_init_4 : decode cX0_init 4 = .ok (.aload_n 0, 1) := by decide +kernel
theorem dX0_init_5 : decode cX0_init 5 = .ok (.sipush 201, 3) := by decide +kernel
theorem dX0_init_8 : decode cX0_init 8 = .ok (.newarray .int, 2) := by decide +kernel
theorem dX0_init_10 : decode cX0_init 10 = .ok (.putfield 9, 3) := by decide +kernel
theorem dX0_init_13 : decode cX0_init 13 = .ok (.aload_n 0, 1) := by decide +kernel
theorem dX0_init_14 : decode cX0_init 14 = .ok (.sipush 201, 3) := by decide +kernel
theorem dX0_init_17 : decode cX0_init 17 = .ok (.newarray .int, 2) := by decide +kernel
theorem dX0_init_19 : decode cX0_init 19 = .ok (.putfield 15, 3) := by decide +kernel
theorem dX0_init_22 : decode cX0_init 22 = .ok (.aload_n 0, 1) := by decide +kernel
theorem dX0_init_23 : decode cX0_init 23 = .ok (.sipush 201, 3) := by decide +kernel
theorem dX0_init_26 : decode cX0_init 26 = .ok (.newarray .int, 2) := by decide +kernel
theorem dX0_init_28 : decode cX0_init 28 = .ok (.putfield 18, 3) := by decide +kernel
theorem dX0_init_31 : decode cX0_init 31 = .ok (.aload_n 0, 1) := by decide +kernel
theorem dX0_init_32 : decode cX0_init 32 = .ok (.sipush 201, 3) := by decide +kernel
theorem dX0_init_35 : decode cX0_init 35 = .ok (.newarray .int, 2) := by decide +kernel
theorem dX0_init_37 : decode cX0_init 37 = .ok (.putfield 21, 3) := by decide +kernel
theorem dX0_init_40 : decode cX0_init 40 = .ok (.aload_n 0, 1) := by decide +kernel
theorem dX0_init_41 : decode cX0_init 41 = .ok (.sipush 201, 3) := by decide +kernel
theorem dX0_init_44 : decode cX0_init 44 = .ok (.newarray .int, 2) := by decide +kernel
theorem dX0_init_46 : decode cX0_init 46 = .ok (.putfield 24, 3) := by decide +kernel
theorem dX0_init_49 : decode cX0_init 49 = .ok (.aload_n 0, 1) := by decide +kernel
theorem dX0_init_50 : decode cX0_init 50 = .ok (.sipush 201, 3) := by decide +kernel
theorem dX0_init_53 : decode cX0_init 53 = .ok (.newarray .int, 2) := by decide +kernel
theorem dX0_init_55 : decode cX0_init 55 = .ok (.putfield 27, 3) := by decide +kernel
theorem dX0_init_58 : decode cX0_init 58 = .ok (.aload_n 0, 1) := by decide +kernel
theorem dX0_init_59 : decode cX0_init 59 = .ok (.sipush 201, 3) := by decide +kernel
theorem dX0_init_62 : decode cX0_init 62 = .ok (.newarray .int, 2) := by decide +kernel
theorem dX0_init_64 : decode cX0_init 64 = .ok (.putfield 30, 3) := by decide +kernel
theorem dX0_init_67 : decode cX0_init 67 = .ok (.aload_n 0, 1) := by decide +kernel
theorem dX0_init_68 : decode cX0_init 68 = .ok (.iconst 1, 1) := by decide +kernel
theorem dX0_init_69 : decode cX0_init 69 = .ok (.putfield 33, 3) := by decide +kernel
theorem dX0_init_72 : decode cX0_init 72 = .ok (.aload_n 0, 1) := by decide +kernel
theorem dX0_init_73 : decode cX0_init 73 = .ok (.iconst 0, 1) := by decide +kernel
theorem dX0_init_74 : decode cX0_init 74 = .ok (.putfield 37, 3) := by decide +kernel
theorem dX0_init_77 : decode cX0_init 77 = .ok (.return_, 1) := by decide +kernel
theorem dX0_fold_0 : decode cX0_fold 0 = .ok (.aload_n 1, 1) := by decide +kernel
theorem dX0_fold_1 : decode cX0_fold 1 = .ok (.invokevirtual 40, 3) := by decide +kernel
theorem dX0_fold_4 : decode cX0_fold 4 = .ok (.istore 4, 2) := by decide +kernel
theorem dX0_fold_6 : decode cX0_fold 6 = .ok (.iconst 0, 1) := by decide +kernel
theorem dX0_fold_7 : decode cX0_fold 7 = .ok (.istore 5, 2) := by decide +kernel
theorem dX0_fold_9 : decode cX0_fold 9 = .ok (.iload 5, 2) := by decide +kernel
theorem dX0_fold_11 : decode cX0_fold 11 = .ok (.iload 4, 2) := by decide +kernel
theorem dX0_fold_13 : decode cX0_fold 13 = .ok (.if_icmp .gt 17, 3) := by decide +kernel
theorem dX0_fold_16 : decode cX0_fold 16 = .ok (.aload_n 0, 1) := by decide +kernel
theorem dX0_fold_17 : decode cX0_fold 17 = .ok (.getfield 9, 3) := by decide +kernel
theorem dX0_fold_20 : decode cX0_fold 20 = .ok (.iload 5, 2) := by decide +kernel
theorem dX0_fold_22 : decode cX0_fold 22 = .ok (.iconst 0, 1) := by decide +kernel
theorem dX0_fold_23 : decode cX0_fold 23 = .ok (.iastore, 1) := by decide +kernel
theorem dX0_fold_24 : decode cX0_fold 24 = .ok (.iinc 5 1, 3) := by decide +kernel
theorem dX0_fold_27 : decode cX0_fold 27 = .ok (.goto (-18), 3) := by decide +kernel
theorem dX0_fold_30 : decode cX0_fold 30 = .ok (.aload_n 0, 1) := by decide +kernel
theorem dX0_fold_31 : decode cX0_fold 31 = .ok (.getfield 18, 3) := by decide +kernel
theorem dX0_fold_34 : decode cX0_fold 34 = .ok (.iconst 0, 1) := by decide +kernel
theorem dX0_fold_35 : decode cX0_fold 35 = .ok (.iconst 0, 1) := by decide +kernel
theorem dX0_fold_36 : decode cX0_fold 36 = .ok (.iastore, 1) := by decide +kernel
theorem dX0_fold_37 : decode cX0_fold 37 = .ok (.aload_n 0, 1) := by decide +kernel
theorem dX0_fold_38 : decode cX0_fold 38 = .ok (.iconst 1, 1) := by decide +kernel
theorem dX0_fold_39 : decode cX0_fold 39 = .ok (.putfield 33, 3) := by decide +kernel
theorem dX0_fold_42 : decode cX0_fold 42 = .ok (.aload_n 0, 1) := by decide +kernel
theorem dX0_fold_43 : decode cX0_fold 43 = .ok (.iconst 0, 1) := by decide +kernel
theorem dX0_fold_44 : decode cX0_fold 44 = .ok (.putfield 37, 3) := by decide +kernel
theorem dX0_fold_47 : decode cX0_fold 47 = .ok (.iconst 1, 1) := by decide +kernel
theorem dX0_fold_48 : decode cX0_fold 48 = .ok (.istore 5, 2) := by decide +kernel
theorem dX0_fold_50 : decode cX0_fold 50 = .ok (.iconst 1, 1) := by decide +kernel
theorem dX0_fold_51 : decode cX0_fold 51 = .ok (.istore 6, 2) := by decide +kernel
theorem dX0_fold_53 : decode cX0_fold 53 = .ok (.iload 6, 2) := by decide +kernel
theorem dX0_fold_55 : decode cX0_fold 55 = .ok (.sipush 201, 3) := by decide +kernel
theorem dX0_fold_58 : decode cX0_fold 58 = .ok (.if_icmp .gt 25, 3) := by decide +kernel
theorem dX0_fold_61 : decode cX0_fold 61 = .ok (.iload 5, 2) := by decide +kernel
theorem dX0_fold_63 : decode cX0_fold 63 = .ok (.ifCond .eq 20, 3) := by decide +kernel
theorem dX0_fold_66 : decode cX0_fold 66 = .ok (.aload_n 0, 1) := by decide +kernel
theorem dX0_fold_67 : decode cX0_fold 67 = .ok (.iload 6, 2) := by decide +kernel
theorem dX0_fold_69 : decode cX0_fold 69 = .ok (.aload_n 1, 1) := by decide +kernel
theorem dX0_fold_70 : decode cX0_fold 70 = .ok (.aload_n 2, 1) := by decide +kernel
theorem dX0_fold_71 : decode cX0_fold 71 = .ok (.aload_n 3, 1) := by decide +kernel
theorem dX0_fold_72 : decode cX0_fold 72 = .ok (.invokevirtual 45, 3) := by decide +kernel
theorem dX0_fold_75 : decode cX0_fold 75 = .ok (.istore 5, 2) := by decide +kernel
theorem dX0_fold_77 : decode cX0_fold 77 = .ok (.iinc 6 1, 3) := by decide +kernel
theorem dX0_fold_80 : decode cX0_fold 80 = .ok (.goto (-27), 3) := by decide +kernel
theorem dX0_fold_83 : decode cX0_fold 83 = .ok (.aload_n 0, 1) := by decide +kernel
theorem dX0_fold_84 : decode cX0_fold 84 = .ok (.iload 4, 2) := by decide +kernel
theorem dX0_fold_86 : decode cX0_fold 86 = .ok (.invokevirtual 49, 3) := by decide +kernel
theorem dX0_fold_89 : decode cX0_fold 89 = .ok (.return_, 1) := by decide +kernel
theorem dX0_leader_0 : decode cX0_leader 0 = .ok (.aload_n 0, 1) := by decide +kernel
theorem dX0_leader_1 : decode cX0_leader 1 = .ok (.getfield 18, 3) := by decide +kernel
theorem dX0_leader_4 : decode cX0_leader 4 = .ok (.aload_n 0, 1) := by decide +kernel
theorem dX0_leader_5 : decode cX0_leader 5 = .ok (.getfield 9, 3) := by decide +kernel
theorem dX0_leader_8 : decode cX0_leader 8 = .ok (.iload_n 1, 1) := by decide +kernel
theorem dX0_leader_9 : decode cX0_leader 9 = .ok (.iaload, 1) := by decide +kernel
theorem dX0_leader_10 : decode cX0_leader 10 = .ok (.iaload, 1) := by decide +kernel
theorem dX0_leader_11 : decode cX0_leader 11 = .ok (.ireturn, 1) := by decide +kernel
theorem dX0_freshNumber_0 : decode cX0_freshNumber 0 = .ok (.aload_n 0, 1) := by decide +kernel
theorem dX0_freshNumber_1 : decode cX0_freshNumber 1 = .ok (.getfield 30, 3) := by decide +kernel
theorem dX0_freshNumber_4 : decode cX0_freshNumber 4 = .ok (.aload_n 0, 1) := by decide +kernel
theorem dX0_freshNumber_5 : decode cX0_freshNumber 5 = .ok (.iload_n 1, 1) := by decide +kernel
theorem dX0_freshNumber_6 : decode cX0_freshNumber 6 = .ok (.invokevirtual 53, 3) := by decide +kernel
theorem dX0_freshNumber_9 : decode cX0_freshNumber 9 = .ok (.iaload, 1) := by decide +kernel
theorem dX0_freshNumber_10 : decode cX0_freshNumber 10 = .ok (.ireturn, 1) := by decide +kernel
theorem dX0_classes_0 : decode cX0_classes 0 = .ok (.aload_n 0, 1) := by decide +kernel
theorem dX0_classes_1 : decode cX0_classes 1 = .ok (.getfield 33, 3) := by decide +kernel
theorem dX0_classes_4 : decode cX0_classes 4 = .ok (.iconst 1, 1) := by decide +kernel
theorem dX0_classes_5 : decode cX0_classes 5 = .ok (.isub, 1) := by decide +kernel
theorem dX0_classes_6 : decode cX0_classes 6 = .ok (.ireturn, 1) := by decide +kernel
theorem dX0_greatestAlike_0 : decode cX0_greatestAlike 0 = .ok (.iconst 0, 1) := by decide +kernel
theorem dX0_greatestAlike_1 : decode cX0_greatestAlike 1 = .ok (.aload_n 0, 1) := by decide +kernel
theorem dX0_greatestAlike_2 : decode cX0_greatestAlike 2 = .ok (.getfield 37, 3) := by decide +kernel
theorem dX0_greatestAlike_5 : decode cX0_greatestAlike 5 = .ok (.iconst 1, 1) := by decide +kernel
theorem dX0_greatestAlike_6 : decode cX0_greatestAlike 6 = .ok (.isub, 1) := by decide +kernel
theorem dX0_greatestAlike_7 : decode cX0_greatestAlike 7 = .ok (.invokestatic 57, 3) := by decide +kernel
theorem dX0_greatestAlike_10 : decode cX0_greatestAlike 10 = .ok (.ireturn, 1) := by decide +kernel
theorem dX0_depthApart_0 : decode cX0_depthApart 0 = .ok (.aload_n 0, 1) := by decide +kernel
theorem dX0_depthApart_1 : decode cX0_depthApart 1 = .ok (.getfield 9, 3) := by decide +kernel
theorem dX0_depthApart_4 : decode cX0_depthApart 4 = .ok (.iload_n 1, 1) := by decide +kernel
theorem dX0_depthApart_5 : decode cX0_depthApart 5 = .ok (.iaload, 1) := by decide +kernel
theorem dX0_depthApart_6 : decode cX0_depthApart 6 = .ok (.istore_n 3, 1) := by decide +kernel
theorem dX0_depthApart_7 : decode cX0_depthApart 7 = .ok (.aload_n 0, 1) := by decide +kernel
theorem dX0_depthApart_8 : decode cX0_depthApart 8 = .ok (.getfield 9, 3) := by decide +kernel
theorem dX0_depthApart_11 : decode cX0_depthApart 11 = .ok (.iload_n 2, 1) := by decide +kernel
theorem dX0_depthApart_12 : decode cX0_depthApart 12 = .ok (.iaload, 1) := by decide +kernel
theorem dX0_depthApart_13 : decode cX0_depthApart 13 = .ok (.istore 4, 2) := by decide +kernel
theorem dX0_depthApart_15 : decode cX0_depthApart 15 = .ok (.iconst 0, 1) := by decide +kernel
theorem dX0_depthApart_16 : decode cX0_depthApart 16 = .ok (.istore 5, 2) := by decide +kernel
theorem dX0_depthApart_18 : decode cX0_depthApart 18 = .ok (.iconst 0, 1) := by decide +kernel
theorem dX0_depthApart_19 : decode cX0_depthApart 19 = .ok (.istore 6, 2) := by decide +kernel
theorem dX0_depthApart_21 : decode cX0_depthApart 21 = .ok (.iload 6, 2) := by decide +kernel
theorem dX0_depthApart_23 : decode cX0_depthApart 23 = .ok (.iconst 2, 1) := by decide +kernel
theorem dX0_depthApart_24 : decode cX0_depthApart 24 = .ok (.aload_n 0, 1) := by decide +kernel
theorem dX0_depthApart_25 : decode cX0_depthApart 25 = .ok (.getfield 33, 3) := by decide +kernel
theorem dX0_depthApart_28 : decode cX0_depthApart 28 = .ok (.imul, 1) := by decide +kernel
theorem dX0_depthApart_29 : decode cX0_depthApart 29 = .ok (.if_icmp .ge 67, 3) := by decide +kernel
theorem dX0_depthApart_32 : decode cX0_depthApart 32 = .ok (.iload_n 3, 1) := by decide +kernel
theorem dX0_depthApart_33 : decode cX0_depthApart 33 = .ok (.iload 4, 2) := by decide +kernel
theorem dX0_depthApart_35 : decode cX0_depthApart 35 = .ok (.if_icmp .eq 61, 3) := by decide +kernel
theorem dX0_depthApart_38 : decode cX0_depthApart 38 = .ok (.aload_n 0, 1) := by decide +kernel
theorem dX0_depthApart_39 : decode cX0_depthApart 39 = .ok (.getfield 27, 3) := by decide +kernel
theorem dX0_depthApart_42 : decode cX0_depthApart 42 = .ok (.iload_n 3, 1) := by decide +kernel
theorem dX0_depthApart_43 : decode cX0_depthApart 43 = .ok (.iaload, 1) := by decide +kernel
theorem dX0_depthApart_44 : decode cX0_depthApart 44 = .ok (.aload_n 0, 1) := by decide +kernel
theorem dX0_depthApart_45 : decode cX0_depthApart 45 = .ok (.getfield 27, 3) := by decide +kernel
theorem dX0_depthApart_48 : decode cX0_depthApart 48 = .ok (.iload 4, 2) := by decide +kernel
theorem dX0_depthApart_50 : decode cX0_depthApart 50 = .ok (.iaload, 1) := by decide +kernel
theorem dX0_depthApart_51 : decode cX0_depthApart 51 = .ok (.if_icmp .lt 21, 3) := by decide +kernel
theorem dX0_depthApart_54 : decode cX0_depthApart 54 = .ok (.aload_n 0, 1) := by decide +kernel
theorem dX0_depthApart_55 : decode cX0_depthApart 55 = .ok (.getfield 27, 3) := by decide +kernel
theorem dX0_depthApart_58 : decode cX0_depthApart 58 = .ok (.iload_n 3, 1) := by decide +kernel
theorem dX0_depthApart_59 : decode cX0_depthApart 59 = .ok (.iaload, 1) := by decide +kernel
theorem dX0_depthApart_60 : decode cX0_depthApart 60 = .ok (.istore 5, 2) := by decide +kernel
theorem dX0_depthApart_62 : decode cX0_depthApart 62 = .ok (.aload_n 0, 1) := by decide +kernel
theorem dX0_depthApart_63 : decode cX0_depthApart 63 = .ok (.getfield 24, 3) := by decide +kernel
theorem dX0_depthApart_66 : decode cX0_depthApart 66 = .ok (.iload_n 3, 1) := by decide +kernel
theorem dX0_depthApart_67 : decode cX0_depthApart 67 = .ok (.iaload, 1) := by decide +kernel
theorem dX0_depthApart_68 : decode cX0_depthApart 68 = .ok (.istore_n 3, 1) := by decide +kernel
theorem dX0_depthApart_69 : decode cX0_depthApart 69 = .ok (.goto 21, 3) := by decide +kernel
theorem dX0_depthApart_72 : decode cX0_depthApart 72 = .ok (.aload_n 0, 1) := by decide +kernel
theorem dX0_depthApart_73 : decode cX0_depthApart 73 = .ok (.getfield 27, 3) := by decide +kernel
theorem dX0_depthApart_76 : decode cX0_depthApart 76 = .ok (.iload 4, 2) := by decide +kernel
theorem dX0_depthApart_78 : decode cX0_depthApart 78 = .ok (.iaload, 1) := by decide +kernel
theorem dX0_depthApart_79 : decode cX0_depthApart 79 = .ok (.istore 5, 2) := by decide +kernel
theorem dX0_depthApart_81 : decode cX0_depthApart 81 = .ok (.aload_n 0, 1) := by decide +kernel
theorem dX0_depthApart_82 : decode cX0_depthApart 82 = .ok (.getfield 24, 3) := by decide +kernel
theorem dX0_depthApart_85 : decode cX0_depthApart 85 = .ok (.iload 4, 2) := by decide +kernel
theorem dX0_depthApart_87 : decode cX0_depthApart 87 = .ok (.iaload, 1) := by decide +kernel
theorem dX0_depthApart_88 : decode cX0_depthApart 88 = .ok (.istore 4, 2) := by decide +kernel
theorem dX0_depthApart_90 : decode cX0_depthApart 90 = .ok (.iinc 6 1, 3) := by decide +kernel
theorem dX0_depthApart_93 : decode cX0_depthApart 93 = .ok (.goto (-72), 3) := by decide +kernel
theorem dX0_depthApart_96 : decode cX0_depthApart 96 = .ok (.iload 5, 2) := by decide +kernel
theorem dX0_depthApart_98 : decode cX0_depthApart 98 = .ok (.ireturn, 1) := by decide +kernel
theorem dX0_refine_0 : decode cX0_refine 0 = .ok (.aload_n 0, 1) := by decide +kernel
theorem dX0_refine_1 : decode cX0_refine 1 = .ok (.getfield 33, 3) := by decide +kernel
theorem dX0_refine_4 : decode cX0_refine 4 = .ok (.istore 5, 2) := by decide +kernel
theorem dX0_refine_6 : decode cX0_refine 6 = .ok (.iconst 0, 1) := by decide +kernel
theorem dX0_refine_7 : decode cX0_refine 7 = .ok (.istore 6, 2) := by decide +kernel
theorem dX0_refine_9 : decode cX0_refine 9 = .ok (.iload 6, 2) := by decide +kernel
theorem dX0_refine_11 : decode cX0_refine 11 = .ok (.aload_n 0, 1) := by decide +kernel
theorem dX0_refine_12 : decode cX0_refine 12 = .ok (.getfield 33, 3) := by decide +kernel
theorem dX0_refine_15 : decode cX0_refine 15 = .ok (.if_icmp .ge 17, 3) := by decide +kernel
theorem dX0_refine_18 : decode cX0_refine 18 = .ok (.aload_n 0, 1) := by decide +kernel
theorem dX0_refine_19 : decode cX0_refine 19 = .ok (.getfield 21, 3) := by decide +kernel
theorem dX0_refine_22 : decode cX0_refine 22 = .ok (.iload 6, 2) := by decide +kernel
theorem dX0_refine_24 : decode cX0_refine 24 = .ok (.iconst (-1), 1) := by decide +kernel
theorem dX0_refine_25 : decode cX0_refine 25 = .ok (.iastore, 1) := by decide +kernel
theorem dX0_refine_26 : decode cX0_refine 26 = .ok (.iinc 6 1, 3) := by decide +kernel
theorem dX0_refine_29 : decode cX0_refine 29 = .ok (.goto (-20), 3) := by decide +kernel
theorem dX0_refine_32 : decode cX0_refine 32 = .ok (.iconst 0, 1) := by decide +kernel
theorem dX0_refine_33 : decode cX0_refine 33 = .ok (.istore 6, 2) := by decide +kernel
theorem dX0_refine_35 : decode cX0_refine 35 = .ok (.iload 6, 2) := by decide +kernel
theorem dX0_refine_37 : decode cX0_refine 37 = .ok (.aload_n 2, 1) := by decide +kernel
theorem dX0_refine_38 : decode cX0_refine 38 = .ok (.invokevirtual 40, 3) := by decide +kernel
theorem dX0_refine_41 : decode cX0_refine 41 = .ok (.if_icmp .gt 23, 3) := by decide +kernel
theorem dX0_refine_44 : decode cX0_refine 44 = .ok (.aload_n 0, 1) := by decide +kernel
theorem dX0_refine_45 : decode cX0_refine 45 = .ok (.getfield 15, 3) := by decide +kernel
theorem dX0_refine_48 : decode cX0_refine 48 = .ok (.iload 6, 2) := by decide +kernel
theorem dX0_refine_50 : decode cX0_refine 50 = .ok (.aload_n 0, 1) := by decide +kernel
theorem dX0_refine_51 : decode cX0_refine 51 = .ok (.getfield 9, 3) := by decide +kernel
theorem dX0_refine_54 : decode cX0_refine 54 = .ok (.iload 6, 2) := by decide +kernel
theorem dX0_refine_56 : decode cX0_refine 56 = .ok (.iaload, 1) := by decide +kernel
theorem dX0_refine_57 : decode cX0_refine 57 = .ok (.iastore, 1) := by decide +kernel
theorem dX0_refine_58 : decode cX0_refine 58 = .ok (.iinc 6 1, 3) := by decide +kernel
theorem dX0_refine_61 : decode cX0_refine 61 = .ok (.goto (-26), 3) := by decide +kernel
theorem dX0_refine_64 : decode cX0_refine 64 = .ok (.iconst 0, 1) := by decide +kernel
theorem dX0_refine_65 : decode cX0_refine 65 = .ok (.istore 6, 2) := by decide +kernel
theorem dX0_refine_67 : decode cX0_refine 67 = .ok (.iload 6, 2) := by decide +kernel
theorem dX0_refine_69 : decode cX0_refine 69 = .ok (.aload_n 2, 1) := by decide +kernel
theorem dX0_refine_70 : decode cX0_refine 70 = .ok (.invokevirtual 40, 3) := by decide +kernel
theorem dX0_refine_73 : decode cX0_refine 73 = .ok (.if_icmp .gt 106, 3) := by decide +kernel
theorem dX0_refine_76 : decode cX0_refine 76 = .ok (.aload_n 0, 1) := by decide +kernel
theorem dX0_refine_77 : decode cX0_refine 77 = .ok (.getfield 15, 3) := by decide +kernel
theorem dX0_refine_80 : decode cX0_refine 80 = .ok (.iload 6, 2) := by decide +kernel
theorem dX0_refine_82 : decode cX0_refine 82 = .ok (.iaload, 1) := by decide +kernel
theorem dX0_refine_83 : decode cX0_refine 83 = .ok (.istore 7, 2) := by decide +kernel
theorem dX0_refine_85 : decode cX0_refine 85 = .ok (.iconst 0, 1) := by decide +kernel
theorem dX0_refine_86 : decode cX0_refine 86 = .ok (.istore 8, 2) := by decide +kernel
theorem dX0_refine_88 : decode cX0_refine 88 = .ok (.iload 8, 2) := by decide +kernel
theorem dX0_refine_90 : decode cX0_refine 90 = .ok (.aload_n 0, 1) := by decide +kernel
theorem dX0_refine_91 : decode cX0_refine 91 = .ok (.getfield 33, 3) := by decide +kernel
theorem dX0_refine_94 : decode cX0_refine 94 = .ok (.if_icmp .gt 70, 3) := by decide +kernel
theorem dX0_refine_97 : decode cX0_refine 97 = .ok (.aload_n 0, 1) := by decide +kernel
theorem dX0_refine_98 : decode cX0_refine 98 = .ok (.aload_n 0, 1) := by decide +kernel
theorem dX0_refine_99 : decode cX0_refine 99 = .ok (.getfield 18, 3) := by decide +kernel
theorem dX0_refine_102 : decode cX0_refine 102 = .ok (.iload 7, 2) := by decide +kernel
theorem dX0_refine_104 : decode cX0_refine 104 = .ok (.iaload, 1) := by decide +kernel
theorem dX0_refine_105 : decode cX0_refine 105 = .ok (.iload 6, 2) := by decide +kernel
theorem dX0_refine_107 : decode cX0_refine 107 = .ok (.iload_n 1, 1) := by decide +kernel
theorem dX0_refine_108 : decode cX0_refine 108 = .ok (.aload_n 2, 1) := by decide +kernel
theorem dX0_refine_109 : decode cX0_refine 109 = .ok (.aload_n 3, 1) := by decide +kernel
theorem dX0_refine_110 : decode cX0_refine 110 = .ok (.aload 4, 2) := by decide +kernel
theorem dX0_refine_112 : decode cX0_refine 112 = .ok (.invokevirtual 63, 3) := by decide +kernel
theorem dX0_refine_115 : decode cX0_refine 115 = .ok (.ifCond .ne 49, 3) := by decide +kernel
theorem dX0_refine_118 : decode cX0_refine 118 = .ok (.aload_n 0, 1) := by decide +kernel
theorem dX0_refine_119 : decode cX0_refine 119 = .ok (.getfield 21, 3) := by decide +kernel
theorem dX0_refine_122 : decode cX0_refine 122 = .ok (.iload 7, 2) := by decide +kernel
theorem dX0_refine_124 : decode cX0_refine 124 = .ok (.iaload, 1) := by decide +kernel
theorem dX0_refine_125 : decode cX0_refine 125 = .ok (.ifCond .ge 24, 3) := by decide +kernel
theorem dX0_refine_128 : decode cX0_refine 128 = .ok (.aload_n 0, 1) := by decide +kernel
theorem dX0_refine_129 : decode cX0_refine 129 = .ok (.getfield 21, 3) := by decide +kernel
theorem dX0_refine_132 : decode cX0_refine 132 = .ok (.iload 7, 2) := by decide +kernel
theorem dX0_refine_134 : decode cX0_refine 134 = .ok (.aload_n 0, 1) := by decide +kernel
theorem dX0_refine_135 : decode cX0_refine 135 = .ok (.aload_n 0, 1) := by decide +kernel
theorem dX0_refine_136 : decode cX0_refine 136 = .ok (.getfield 15, 3) := by decide +kernel
theorem dX0_refine_139 : decode cX0_refine 139 = .ok (.iload 6, 2) := by decide +kernel
theorem dX0_refine_141 : decode cX0_refine 141 = .ok (.iaload, 1) := by decide +kernel
theorem dX0_refine_142 : decode cX0_refine 142 = .ok (.iload 6, 2) := by decide +kernel
theorem dX0_refine_144 : decode cX0_refine 144 = .ok (.iload_n 1, 1) := by decide +kernel
theorem dX0_refine_145 : decode cX0_refine 145 = .ok (.invokevirtual 67, 3) := by decide +kernel
theorem dX0_refine_148 : decode cX0_refine 148 = .ok (.iastore, 1) := by decide +kernel
theorem dX0_refine_149 : decode cX0_refine 149 = .ok (.aload_n 0, 1) := by decide +kernel
theorem dX0_refine_150 : decode cX0_refine 150 = .ok (.getfield 21, 3) := by decide +kernel
theorem dX0_refine_153 : decode cX0_refine 153 = .ok (.iload 7, 2) := by decide +kernel
theorem dX0_refine_155 : decode cX0_refine 155 = .ok (.iaload, 1) := by decide +kernel
theorem dX0_refine_156 : decode cX0_refine 156 = .ok (.istore 7, 2) := by decide +kernel
theorem dX0_refine_158 : decode cX0_refine 158 = .ok (.iinc 8 1, 3) := by decide +kernel
theorem dX0_refine_161 : decode cX0_refine 161 = .ok (.goto (-73), 3) := by decide +kernel
theorem dX0_refine_164 : decode cX0_refine 164 = .ok (.aload_n 0, 1) := by decide +kernel
theorem dX0_refine_165 : decode cX0_refine 165 = .ok (.getfield 9, 3) := by decide +kernel
theorem dX0_refine_168 : decode cX0_refine 168 = .ok (.iload 6, 2) := by decide +kernel
theorem dX0_refine_170 : decode cX0_refine 170 = .ok (.iload 7, 2) := by decide +kernel
theorem dX0_refine_172 : decode cX0_refine 172 = .ok (.iastore, 1) := by decide +kernel
theorem dX0_refine_173 : decode cX0_refine 173 = .ok (.iinc 6 1, 3) := by decide +kernel
theorem dX0_refine_176 : decode cX0_refine 176 = .ok (.goto (-109), 3) := by decide +kernel
theorem dX0_refine_179 : decode cX0_refine 179 = .ok (.aload_n 0, 1) := by decide +kernel
theorem dX0_refine_180 : decode cX0_refine 180 = .ok (.getfield 33, 3) := by decide +kernel
theorem dX0_refine_183 : decode cX0_refine 183 = .ok (.iload 5, 2) := by decide +kernel
theorem dX0_refine_185 : decode cX0_refine 185 = .ok (.if_icmp .le 7, 3) := by decide +kernel
theorem dX0_refine_188 : decode cX0_refine 188 = .ok (.iconst 1, 1) := by decide +kernel
theorem dX0_refine_189 : decode cX0_refine 189 = .ok (.goto 4, 3) := by decide +kernel
theorem dX0_refine_192 : decode cX0_refine 192 = .ok (.iconst 0, 1) := by decide +kernel
theorem dX0_refine_193 : decode cX0_refine 193 = .ok (.ireturn, 1) := by decide +kernel
theorem dX0_born_0 : decode cX0_born 0 = .ok (.aload_n 0, 1) := by decide +kernel
theorem dX0_born_1 : decode cX0_born 1 = .ok (.getfield 33, 3) := by decide +kernel
theorem dX0_born_4 : decode cX0_born 4 = .ok (.istore 4, 2) := by decide +kernel
theorem dX0_born_6 : decode cX0_born 6 = .ok (.aload_n 0, 1) := by decide +kernel
theorem dX0_born_7 : decode cX0_born 7 = .ok (.dup, 1) := by decide +kernel
theorem dX0_born_8 : decode cX0_born 8 = .ok (.getfield 33, 3) := by decide +kernel
theorem dX0_born_11 : decode cX0_born 11 = .ok (.iconst 1, 1) := by decide +kernel
theorem dX0_born_12 : decode cX0_born 12 = .ok (.iadd, 1) := by decide +kernel
theorem dX0_born_13 : decode cX0_born 13 = .ok (.putfield 33, 3) := by decide +kernel
theorem dX0_born_16 : decode cX0_born 16 = .ok (.aload_n 0, 1) := by decide +kernel
theorem dX0_born_17 : decode cX0_born 17 = .ok (.getfield 18, 3) := by decide +kernel
theorem dX0_born_20 : decode cX0_born 20 = .ok (.iload 4, 2) := by decide +kernel
theorem dX0_born_22 : decode cX0_born 22 = .ok (.iload_n 2, 1) := by decide +kernel
theorem dX0_born_23 : decode cX0_born 23 = .ok (.iastore, 1) := by decide +kernel
theorem dX0_born_24 : decode cX0_born 24 = .ok (.aload_n 0, 1) := by decide +kernel
theorem dX0_born_25 : decode cX0_born 25 = .ok (.getfield 21, 3) := by decide +kernel
theorem dX0_born_28 : decode cX0_born 28 = .ok (.iload 4, 2) := by decide +kernel
theorem dX0_born_30 : decode cX0_born 30 = .ok (.iconst (-1), 1) := by decide +kernel
theorem dX0_born_31 : decode cX0_born 31 = .ok (.iastore, 1) := by decide +kernel
theorem dX0_born_32 : decode cX0_born 32 = .ok (.aload_n 0, 1) := by decide +kernel
theorem dX0_born_33 : decode cX0_born 33 = .ok (.getfield 24, 3) := by decide +kernel
theorem dX0_born_36 : decode cX0_born 36 = .ok (.iload 4, 2) := by decide +kernel
theorem dX0_born_38 : decode cX0_born 38 = .ok (.iload_n 1, 1) := by decide +kernel
theorem dX0_born_39 : decode cX0_born 39 = .ok (.iastore, 1) := by decide +kernel
theorem dX0_born_40 : decode cX0_born 40 = .ok (.aload_n 0, 1) := by decide +kernel
theorem dX0_born_41 : decode cX0_born 41 = .ok (.getfield 27, 3) := by decide +kernel
theorem dX0_born_44 : decode cX0_born 44 = .ok (.iload 4, 2) := by decide +kernel
theorem dX0_born_46 : decode cX0_born 46 = .ok (.iload_n 3, 1) := by decide +kernel
theorem dX0_born_47 : decode cX0_born 47 = .ok (.iastore, 1) := by decide +kernel
theorem dX0_born_48 : decode cX0_born 48 = .ok (.aload_n 0, 1) := by decide +kernel
theorem dX0_born_49 : decode cX0_born 49 = .ok (.iload_n 3, 1) := by decide +kernel
theorem dX0_born_50 : decode cX0_born 50 = .ok (.putfield 37, 3) := by decide +kernel
theorem dX0_born_53 : decode cX0_born 53 = .ok (.iload 4, 2) := by decide +kernel
theorem dX0_born_55 : decode cX0_born 55 = .ok (.ireturn, 1) := by decide +kernel
theorem dX0_alike_0 : decode cX0_alike 0 = .ok (.iload_n 1, 1) := by decide +kernel
theorem dX0_alike_1 : decode cX0_alike 1 = .ok (.iload_n 2, 1) := by decide +kernel
theorem dX0_alike_2 : decode cX0_alike 2 = .ok (.if_icmp .ne 5, 3) := by decide +kernel
theorem dX0_alike_5 : decode cX0_alike 5 = .ok (.iconst 1, 1) := by decide +kernel
theorem dX0_alike_6 : decode cX0_alike 6 = .ok (.ireturn, 1) := by decide +kernel
theorem dX0_alike_7 : decode cX0_alike 7 = .ok (.iload_n 3, 1) := by decide +kernel
theorem dX0_alike_8 : decode cX0_alike 8 = .ok (.iconst 1, 1) := by decide +kernel
theorem dX0_alike_9 : decode cX0_alike 9 = .ok (.if_icmp .ne 15, 3) := by decide +kernel
theorem dX0_alike_12 : decode cX0_alike 12 = .ok (.iload_n 1, 1) := by decide +kernel
theorem dX0_alike_13 : decode cX0_alike 13 = .ok (.iload_n 2, 1) := by decide +kernel
theorem dX0_alike_14 : decode cX0_alike 14 = .ok (.aload 4, 2) := by decide +kernel
theorem dX0_alike_16 : decode cX0_alike 16 = .ok (.aload 5, 2) := by decide +kernel
theorem dX0_alike_18 : decode cX0_alike 18 = .ok (.invokestatic 71, 3) := by decide +kernel
theorem dX0_alike_21 : decode cX0_alike 21 = .ok (.goto 11, 3) := by decide +kernel
theorem dX0_alike_24 : decode cX0_alike 24 = .ok (.aload_n 0, 1) := by decide +kernel
theorem dX0_alike_25 : decode cX0_alike 25 = .ok (.iload_n 1, 1) := by decide +kernel
theorem dX0_alike_26 : decode cX0_alike 26 = .ok (.iload_n 2, 1) := by decide +kernel
theorem dX0_alike_27 : decode cX0_alike 27 = .ok (.aload 6, 2) := by decide +kernel
theorem dX0_alike_29 : decode cX0_alike 29 = .ok (.invokevirtual 75, 3) := by decide +kernel
theorem dX0_alike_32 : decode cX0_alike 32 = .ok (.ireturn, 1) := by decide +kernel
theorem dX0_sameLabel_0 : decode cX0_sameLabel 0 = .ok (.iload_n 0, 1) := by decide +kernel
theorem dX0_sameLabel_1 : decode cX0_sameLabel 1 = .ok (.ifCond .eq 23, 3) := by decide +kernel
theorem dX0_sameLabel_4 : decode cX0_sameLabel 4 = .ok (.iload_n 1, 1) := by decide +kernel
theorem dX0_sameLabel_5 : decode cX0_sameLabel 5 = .ok (.ifCond .eq 19, 3) := by decide +kernel
theorem dX0_sameLabel_8 : decode cX0_sameLabel 8 = .ok (.aload_n 2, 1) := by decide +kernel
theorem dX0_sameLabel_9 : decode cX0_sameLabel 9 = .ok (.iload_n 0, 1) := by decide +kernel
theorem dX0_sameLabel_10 : decode cX0_sameLabel 10 = .ok (.iconst 1, 1) := by decide +kernel
theorem dX0_sameLabel_11 : decode cX0_sameLabel 11 = .ok (.invokevirtual 79, 3) := by decide +kernel
theorem dX0_sameLabel_14 : decode cX0_sameLabel 14 = .ok (.aload_n 2, 1) := by decide +kernel
theorem dX0_sameLabel_15 : decode cX0_sameLabel 15 = .ok (.iload_n 1, 1) := by decide +kernel
theorem dX0_sameLabel_16 : decode cX0_sameLabel 16 = .ok (.iconst 1, 1) := by decide +kernel
theorem dX0_sameLabel_17 : decode cX0_sameLabel 17 = .ok (.invokevirtual 79, 3) := by decide +kernel
theorem dX0_sameLabel_20 : decode cX0_sameLabel 20 = .ok (.lcmp, 1) := by decide +kernel
theorem dX0_sameLabel_21 : decode cX0_sameLabel 21 = .ok (.ifCond .eq 5, 3) := by decide +kernel
theorem dX0_sameLabel_24 : decode cX0_sameLabel 24 = .ok (.iconst 0, 1) := by decide +kernel
theorem dX0_sameLabel_25 : decode cX0_sameLabel 25 = .ok (.ireturn, 1) := by decide +kernel
theorem dX0_sameLabel_26 : decode cX0_sameLabel 26 = .ok (.aload_n 2, 1) := by decide +kernel
theorem dX0_sameLabel_27 : decode cX0_sameLabel 27 = .ok (.iload_n 0, 1) := by decide +kernel
theorem dX0_sameLabel_28 : decode cX0_sameLabel 28 = .ok (.invokevirtual 83, 3) := by decide +kernel
theorem dX0_sameLabel_31 : decode cX0_sameLabel 31 = .ok (.istore 4, 2) := by decide +kernel
theorem dX0_sameLabel_33 : decode cX0_sameLabel 33 = .ok (.aload_n 2, 1) := by decide +kernel
theorem dX0_sameLabel_34 : decode cX0_sameLabel 34 = .ok (.iload_n 0, 1) := by decide +kernel
theorem dX0_sameLabel_35 : decode cX0_sameLabel 35 = .ok (.invokevirtual 86, 3) := by decide +kernel
theorem dX0_sameLabel_38 : decode cX0_sameLabel 38 = .ok (.istore 5, 2) := by decide +kernel
theorem dX0_sameLabel_40 : decode cX0_sameLabel 40 = .ok (.aload_n 3, 1) := by decide +kernel
theorem dX0_sameLabel_41 : decode cX0_sameLabel 41 = .ok (.iload_n 0, 1) := by decide +kernel
theorem dX0_sameLabel_42 : decode cX0_sameLabel 42 = .ok (.invokevirtual 89, 3) := by decide +kernel
theorem dX0_sameLabel_45 : decode cX0_sameLabel 45 = .ok (.istore 6, 2) := by decide +kernel
theorem dX0_sameLabel_47 : decode cX0_sameLabel 47 = .ok (.aload_n 3, 1) := by decide +kernel
theorem dX0_sameLabel_48 : decode cX0_sameLabel 48 = .ok (.iload_n 1, 1) := by decide +kernel
theorem dX0_sameLabel_49 : decode cX0_sameLabel 49 = .ok (.invokevirtual 89, 3) := by decide +kernel
theorem dX0_sameLabel_52 : decode cX0_sameLabel 52 = .ok (.istore 7, 2) := by decide +kernel
theorem dX0_sameLabel_54 : decode cX0_sameLabel 54 = .ok (.iconst 0, 1) := by decide +kernel
theorem dX0_sameLabel_55 : decode cX0_sameLabel 55 = .ok (.istore 8, 2) := by decide +kernel
theorem dX0_sameLabel_57 : decode cX0_sameLabel 57 = .ok (.iload 8, 2) := by decide +kernel
theorem dX0_sameLabel_59 : decode cX0_sameLabel 59 = .ok (.iload 5, 2) := by decide +kernel
theorem dX0_sameLabel_61 : decode cX0_sameLabel 61 = .ok (.if_icmp .ge 75, 3) := by decide +kernel
theorem dX0_sameLabel_64 : decode cX0_sameLabel 64 = .ok (.iload 4, 2) := by decide +kernel
theorem dX0_sameLabel_66 : decode cX0_sameLabel 66 = .ok (.iload 8, 2) := by decide +kernel
theorem dX0_sameLabel_68 : decode cX0_sameLabel 68 = .ok (.invokestatic 94, 3) := by decide +kernel
theorem dX0_sameLabel_71 : decode cX0_sameLabel 71 = .ok (.istore 9, 2) := by decide +kernel
theorem dX0_sameLabel_73 : decode cX0_sameLabel 73 = .ok (.iload 9, 2) := by decide +kernel
theorem dX0_sameLabel_75 : decode cX0_sameLabel 75 = .ok (.iconst 1, 1) := by decide +kernel
theorem dX0_sameLabel_76 : decode cX0_sameLabel 76 = .ok (.if_icmp .ne 29, 3) := by decide +kernel
theorem dX0_sameLabel_79 : decode cX0_sameLabel 79 = .ok (.aload_n 3, 1) := by decide +kernel
theorem dX0_sameLabel_80 : decode cX0_sameLabel 80 = .ok (.iload 6, 2) := by decide +kernel
theorem dX0_sameLabel_82 : decode cX0_sameLabel 82 = .ok (.invokevirtual 99, 3) := by decide +kernel
theorem dX0_sameLabel_85 : decode cX0_sameLabel 85 = .ok (.aload_n 3, 1) := by decide +kernel
theorem dX0_sameLabel_86 : decode cX0_sameLabel 86 = .ok (.iload 7, 2) := by decide +kernel
theorem dX0_sameLabel_88 : decode cX0_sameLabel 88 = .ok (.invokevirtual 99, 3) := by decide +kernel
theorem dX0_sameLabel_91 : decode cX0_sameLabel 91 = .ok (.if_icmp .eq 5, 3) := by decide +kernel
theorem dX0_sameLabel_94 : decode cX0_sameLabel 94 = .ok (.iconst 0, 1) := by decide +kernel
theorem dX0_sameLabel_95 : decode cX0_sameLabel 95 = .ok (.ireturn, 1) := by decide +kernel
theorem dX0_sameLabel_96 : decode cX0_sameLabel 96 = .ok (.iinc 6 1, 3) := by decide +kernel
theorem dX0_sameLabel_99 : decode cX0_sameLabel 99 = .ok (.iinc 7 1, 3) := by decide +kernel
theorem dX0_sameLabel_102 : decode cX0_sameLabel 102 = .ok (.goto 28, 3) := by decide +kernel
theorem dX0_sameLabel_105 : decode cX0_sameLabel 105 = .ok (.iload 9, 2) := by decide +kernel
theorem dX0_sameLabel_107 : decode cX0_sameLabel 107 = .ok (.ifCond .ne 23, 3) := by decide +kernel
theorem dX0_sameLabel_110 : decode cX0_sameLabel 110 = .ok (.aload_n 2, 1) := by decide +kernel
theorem dX0_sameLabel_111 : decode cX0_sameLabel 111 = .ok (.iload_n 0, 1) := by decide +kernel
theorem dX0_sameLabel_112 : decode cX0_sameLabel 112 = .ok (.iload 8, 2) := by decide +kernel
theorem dX0_sameLabel_114 : decode cX0_sameLabel 114 = .ok (.invokevirtual 79, 3) := by decide +kernel
theorem dX0_sameLabel_117 : decode cX0_sameLabel 117 = .ok (.aload_n 2, 1) := by decide +kernel
theorem dX0_sameLabel_118 : decode cX0_sameLabel 118 = .ok (.iload_n 1, 1) := by decide +kernel
theorem dX0_sameLabel_119 : decode cX0_sameLabel 119 = .ok (.iload 8, 2) := by decide +kernel
theorem dX0_sameLabel_121 : decode cX0_sameLabel 121 = .ok (.invokevirtual 79, 3) := by decide +kernel
theorem dX0_sameLabel_124 : decode cX0_sameLabel 124 = .ok (.lcmp, 1) := by decide +kernel
theorem dX0_sameLabel_125 : decode cX0_sameLabel 125 = .ok (.ifCond .eq 5, 3) := by decide +kernel
theorem dX0_sameLabel_128 : decode cX0_sameLabel 128 = .ok (.iconst 0, 1) := by decide +kernel
theorem dX0_sameLabel_129 : decode cX0_sameLabel 129 = .ok (.ireturn, 1) := by decide +kernel
theorem dX0_sameLabel_130 : decode cX0_sameLabel 130 = .ok (.iinc 8 1, 3) := by decide +kernel
theorem dX0_sameLabel_133 : decode cX0_sameLabel 133 = .ok (.goto (-76), 3) := by decide +kernel
theorem dX0_sameLabel_136 : decode cX0_sameLabel 136 = .ok (.iconst 1, 1) := by decide +kernel
theorem dX0_sameLabel_137 : decode cX0_sameLabel 137 = .ok (.ireturn, 1) := by decide +kernel
theorem dX0_sameTargets_0 : decode cX0_sameTargets 0 = .ok (.aload_n 3, 1) := by decide +kernel
theorem dX0_sameTargets_1 : decode cX0_sameTargets 1 = .ok (.iload_n 1, 1) := by decide +kernel
theorem dX0_sameTargets_2 : decode cX0_sameTargets 2 = .ok (.invokevirtual 102, 3) := by decide +kernel
theorem dX0_sameTargets_5 : decode cX0_sameTargets 5 = .ok (.istore 4, 2) := by decide +kernel
theorem dX0_sameTargets_7 : decode cX0_sameTargets 7 = .ok (.iconst 0, 1) := by decide +kernel
theorem dX0_sameTargets_8 : decode cX0_sameTargets 8 = .ok (.istore 5, 2) := by decide +kernel
theorem dX0_sameTargets_10 : decode cX0_sameTargets 10 = .ok (.iload 5, 2) := by decide +kernel
theorem dX0_sameTargets_12 : decode cX0_sameTargets 12 = .ok (.iload 4, 2) := by decide +kernel
theorem dX0_sameTargets_14 : decode cX0_sameTargets 14 = .ok (.if_icmp .ge 38, 3) := by decide +kernel
theorem dX0_sameTargets_17 : decode cX0_sameTargets 17 = .ok (.aload_n 0, 1) := by decide +kernel
theorem dX0_sameTargets_18 : decode cX0_sameTargets 18 = .ok (.getfield 15, 3) := by decide +kernel
theorem dX0_sameTargets_21 : decode cX0_sameTargets 21 = .ok (.aload_n 3, 1) := by decide +kernel
theorem dX0_sameTargets_22 : decode cX0_sameTargets 22 = .ok (.iload_n 1, 1) := by decide +kernel
theorem dX0_sameTargets_23 : decode cX0_sameTargets 23 = .ok (.iload 5, 2) := by decide +kernel
theorem dX0_sameTargets_25 : decode cX0_sameTargets 25 = .ok (.invokevirtual 107, 3) := by decide +kernel
theorem dX0_sameTargets_28 : decode cX0_sameTargets 28 = .ok (.iaload, 1) := by decide +kernel
theorem dX0_sameTargets_29 : decode cX0_sameTargets 29 = .ok (.aload_n 0, 1) := by decide +kernel
theorem dX0_sameTargets_30 : decode cX0_sameTargets 30 = .ok (.getfield 15, 3) := by decide +kernel
theorem dX0_sameTargets_33 : decode cX0_sameTargets 33 = .ok (.aload_n 3, 1) := by decide +kernel
theorem dX0_sameTargets_34 : decode cX0_sameTargets 34 = .ok (.iload_n 2, 1) := by decide +kernel
theorem dX0_sameTargets_35 : decode cX0_sameTargets 35 = .ok (.iload 5, 2) := by decide +kernel
theorem dX0_sameTargets_37 : decode cX0_sameTargets 37 = .ok (.invokevirtual 107, 3) := by decide +kernel
theorem dX0_sameTargets_40 : decode cX0_sameTargets 40 = .ok (.iaload, 1) := by decide +kernel
theorem dX0_sameTargets_41 : decode cX0_sameTargets 41 = .ok (.if_icmp .eq 5, 3) := by decide +kernel
theorem dX0_sameTargets_44 : decode cX0_sameTargets 44 = .ok (.iconst 0, 1) := by decide +kernel
theorem dX0_sameTargets_45 : decode cX0_sameTargets 45 = .ok (.ireturn, 1) := by decide +kernel
theorem dX0_sameTargets_46 : decode cX0_sameTargets 46 = .ok (.iinc 5 1, 3) := by decide +kernel
theorem dX0_sameTargets_49 : decode cX0_sameTargets 49 = .ok (.goto (-39), 3) := by decide +kernel
theorem dX0_sameTargets_52 : decode cX0_sameTargets 52 = .ok (.iconst 1, 1) := by decide +kernel
theorem dX0_sameTargets_53 : decode cX0_sameTargets 53 = .ok (.ireturn, 1) := by decide +kernel
theorem dX0_numberLeaders_0 : decode cX0_numberLeaders 0 = .ok (.iconst 0, 1) := by decide +kernel
theorem dX0_numberLeaders_1 : decode cX0_numberLeaders 1 = .ok (.istore_n 2, 1) := by decide +kernel
theorem dX0_numberLeaders_2 : decode cX0_numberLeaders 2 = .ok (.iconst 1, 1) := by decide +kernel
theorem dX0_numberLeaders_3 : decode cX0_numberLeaders 3 = .ok (.istore_n 3, 1) := by decide +kernel
theorem dX0_numberLeaders_4 : decode cX0_numberLeaders 4 = .ok (.iload_n 3, 1) := by decide +kernel
theorem dX0_numberLeaders_5 : decode cX0_numberLeaders 5 = .ok (.iload_n 1, 1) := by decide +kernel
theorem dX0_numberLeaders_6 : decode cX0_numberLeaders 6 = .ok (.if_icmp .gt 28, 3) := by decide +kernel
theorem dX0_numberLeaders_9 : decode cX0_numberLeaders 9 = .ok (.aload_n 0, 1) := by decide +kernel
theorem dX0_numberLeaders_10 : decode cX0_numberLeaders 10 = .ok (.iload_n 3, 1) := by decide +kernel
theorem dX0_numberLeaders_11 : decode cX0_numberLeaders 11 = .ok (.invokevirtual 53, 3) := by decide +kernel
theorem dX0_numberLeaders_14 : decode cX0_numberLeaders 14 = .ok (.iload_n 3, 1) := by decide +kernel
theorem dX0_numberLeaders_15 : decode cX0_numberLeaders 15 = .ok (.if_icmp .ne 13, 3) := by decide +kernel
theorem dX0_numberLeaders_18 : decode cX0_numberLeaders 18 = .ok (.iinc 2 1, 3) := by decide +kernel
theorem dX0_numberLeaders_21 : decode cX0_numberLeaders 21 = .ok (.aload_n 0, 1) := by decide +kernel
theorem dX0_numberLeaders_22 : decode cX0_numberLeaders 22 = .ok (.getfield 30, 3) := by decide +kernel
theorem dX0_numberLeaders_25 : decode cX0_numberLeaders 25 = .ok (.iload_n 3, 1) := by decide +kernel
theorem dX0_numberLeaders_26 : decode cX0_numberLeaders 26 = .ok (.iload_n 2, 1) := by decide +kernel
theorem dX0_numberLeaders_27 : decode cX0_numberLeaders 27 = .ok (.iastore, 1) := by decide +kernel
theorem dX0_numberLeaders_28 : decode cX0_numberLeaders 28 = .ok (.iinc 3 1, 3) := by decide +kernel
theorem dX0_numberLeaders_31 : decode cX0_numberLeaders 31 = .ok (.goto (-27), 3) := by decide +kernel
theorem dX0_numberLeaders_34 : decode cX0_numberLeaders 34 = .ok (.return_, 1) := by decide +kernel
