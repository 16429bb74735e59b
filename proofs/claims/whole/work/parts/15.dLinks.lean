set_option maxRecDepth 20000 in
theorem mX2_init : Cond.code yX2_init cX2_init 1 none ∈ gTbl ∧ Cond.initialized yX2_init.cls ∈ gTbl ∧ (yX2_init.cls ≠ "java/lang/invoke/MethodHandle" ∧ yX2_init.cls ≠ "java/lang/invoke/VarHandle" ∧ (parseMethodDescriptor yX2_init.desc).map (fun d => d.parameters.length) = some 0) ∧ 1 ≤ 15 := ⟨g_in 167 rfl rfl, g_in 51 (by decide +kernel) (by decide +kernel), ⟨by decide +kernel, by decide +kernel, by decide +kernel⟩, by decide⟩
theorem iX2_init : Cond.instanceMethod yX2_init ∈ gTbl := g_in 166 (by decide +kernel) (by decide +kernel)
theorem kX2_3 : Cond.methodLink RX2 3 objectInit ∈ gTbl := g_in 168 (by decide +kernel) (by decide +kernel)
theorem kX2_9 : Cond.fieldLink RX2 9 "TypeFold$Links" "start" "[I" ∈ gTbl := g_in 169 (by decide +kernel) (by decide +kernel)
theorem kX2_15 : Cond.fieldLink RX2 15 "TypeFold$Links" "to" "[I" ∈ gTbl := g_in 170 (by decide +kernel) (by decide +kernel)
theorem kX2_18 : Cond.fieldLink RX2 18 "TypeFold$Links" "backStart" "[I" ∈ gTbl := g_in 171 (by decide +kernel) (by decide +kernel)
theorem kX2_21 : Cond.fieldLink RX2 21 "TypeFold$Links" "back" "[I" ∈ gTbl := g_in 172 (by decide +kernel) (by decide +kernel)
theorem kX2_24 : Cond.fieldLink RX2 24 "TypeFold$Links" "queue" "[I" ∈ gTbl := g_in 173 (by decide +kernel) (by decide +kernel)
theorem kX2_27 : Cond.fieldLink RX2 27 "TypeFold$Links" "onward" "[Z" ∈ gTbl := g_in 174 (by decide +kernel) (by decide +kernel)
theorem kX2_31 : Cond.fieldLink RX2 31 "TypeFold$Links" "backward" "[Z" ∈ gTbl := g_in 175 (by decide +kernel) (by decide +kernel)
set_option maxRecDepth 20000 in
theorem mX2_gather : Cond.code yX2_gather cX2_gather 5 none ∈ gTbl ∧ Cond.initialized yX2_gather.cls ∈ gTbl ∧ (yX2_gather.cls ≠ "java/lang/invoke/MethodHandle" ∧ yX2_gather.cls ≠ "java/lang/invoke/VarHandle" ∧ (parseMethodDescriptor yX2_gather.desc).map (fun d => d.parameters.length) = some 1) ∧ 5 ≤ 15 := ⟨g_in 420 rfl rfl, g_in 51 (by decide +kernel) (by decide +kernel), ⟨by decide +kernel, by decide +kernel, by decide +kernel⟩, by decide⟩
theorem iX2_gather : Cond.instanceMethod yX2_gather ∈ gTbl := g_in 418 (by decide +kernel) (by decide +kernel)
theorem sX2_gather : Cond.selects yX2_gather.cls yX2_gather yX2_gather ∈ gTbl := g_in 419 (by decide +kernel) (by decide +kernel)
theorem kX2_34 : Cond.methodLink RX2 34 yX7_count ∈ gTbl := g_in 421 (by decide +kernel) (by decide +kernel)
theorem kX2_40 : Cond.methodLink RX2 40 yX2_gatherOf ∈ gTbl := g_in 422 (by decide +kernel) (by decide +kernel)
set_option maxRecDepth 20000 in
theorem mX2_gatherOf : Cond.code yX2_gatherOf cX2_gatherOf 8 ((some .int)) ∈ gTbl ∧ Cond.initialized yX2_gatherOf.cls ∈ gTbl ∧ (yX2_gatherOf.cls ≠ "java/lang/invoke/MethodHandle" ∧ yX2_gatherOf.cls ≠ "java/lang/invoke/VarHandle" ∧ (parseMethodDescriptor yX2_gatherOf.desc).map (fun d => d.parameters.length) = some 3) ∧ 8 ≤ 15 := ⟨g_in 425 rfl rfl, g_in 51 (by decide +kernel) (by decide +kernel), ⟨by decide +kernel, by decide +kernel, by decide +kernel⟩, by decide⟩
theorem iX2_gatherOf : Cond.instanceMethod yX2_gatherOf ∈ gTbl := g_in 424 (by decide +kernel) (by decide +kernel)
theorem sX2_gatherOf : Cond.selects yX2_gatherOf.cls yX2_gatherOf yX2_gatherOf ∈ gTbl := g_in 5 (by decide +kernel) (by decide +kernel)
theorem kX2_56 : Cond.methodLink RX2 56 yX7_kind ∈ gTbl := g_in 426 (by decide +kernel) (by decide +kernel)
theorem kX2_59 : Cond.methodLink RX2 59 yX7_words ∈ gTbl := g_in 427 (by decide +kernel) (by decide +kernel)
theorem kX2_62 : Cond.methodLink RX2 62 yX1_role ∈ gTbl := g_in 428 (by decide +kernel) (by decide +kernel)
theorem kX2_68 : Cond.methodLink RX2 68 yX7_word ∈ gTbl := g_in 429 (by decide +kernel) (by decide +kernel)
theorem kX2_44 : Cond.methodLink RX2 44 yX2_turnRound ∈ gTbl := g_in 430 (by decide +kernel) (by decide +kernel)
set_option maxRecDepth 20000 in
theorem mX2_turnRound : Cond.code yX2_turnRound cX2_turnRound 4 none ∈ gTbl ∧ Cond.initialized yX2_turnRound.cls ∈ gTbl ∧ (yX2_turnRound.cls ≠ "java/lang/invoke/MethodHandle" ∧ yX2_turnRound.cls ≠ "java/lang/invoke/VarHandle" ∧ (parseMethodDescriptor yX2_turnRound.desc).map (fun d => d.parameters.length) = some 1) ∧ 4 ≤ 15 := ⟨g_in 433 rfl rfl, g_in 51 (by decide +kernel) (by decide +kernel), ⟨by decide +kernel, by decide +kernel, by decide +kernel⟩, by decide⟩
theorem iX2_turnRound : Cond.instanceMethod yX2_turnRound ∈ gTbl := g_in 432 (by decide +kernel) (by decide +kernel)
theorem sX2_turnRound : Cond.selects yX2_turnRound.cls yX2_turnRound yX2_turnRound ∈ gTbl := g_in 6 (by decide +kernel) (by decide +kernel)
set_option maxRecDepth 20000 in
theorem mX2_tally : Cond.code yX2_tally cX2_tally 2 ((some .int)) ∈ gTbl ∧ Cond.initialized yX2_tally.cls ∈ gTbl ∧ (yX2_tally.cls ≠ "java/lang/invoke/MethodHandle" ∧ yX2_tally.cls ≠ "java/lang/invoke/VarHandle" ∧ (parseMethodDescriptor yX2_tally.desc).map (fun d => d.parameters.length) = some 1) ∧ 2 ≤ 15 := ⟨g_in 469 rfl rfl, g_in 51 (by decide +kernel) (by decide +kernel), ⟨by decide +kernel, by decide +kernel, by decide +kernel⟩, by decide⟩
theorem iX2_tally : Cond.instanceMethod yX2_tally ∈ gTbl := g_in 467 (by decide +kernel) (by decide +kernel)
theorem sX2_tally : Cond.selects yX2_tally.cls yX2_tally yX2_tally ∈ gTbl := g_in 468 (by decide +kernel) (by decide +kernel)
set_option maxRecDepth 20000 in
theorem mX2_target : Cond.code yX2_target cX2_target 3 ((some .int)) ∈ gTbl ∧ Cond.initialized yX2_target.cls ∈ gTbl ∧ (yX2_target.cls ≠ "java/lang/invoke/MethodHandle" ∧ yX2_target.cls ≠ "java/lang/invoke/VarHandle" ∧ (parseMethodDescriptor yX2_target.desc).map (fun d => d.parameters.length) = some 2) ∧ 3 ≤ 15 := ⟨g_in 473 rfl rfl, g_in 51 (by decide +kernel) (by decide +kernel), ⟨by decide +kernel, by decide +kernel, by decide +kernel⟩, by decide⟩
theorem iX2_target : Cond.instanceMethod yX2_target ∈ gTbl := g_in 471 (by decide +kernel) (by decide +kernel)
theorem sX2_target : Cond.selects yX2_target.cls yX2_target yX2_target ∈ gTbl := g_in 472 (by decide +kernel) (by decide +kernel)
theorem kX2_48 : Cond.methodLink RX2 48 yX2_tally ∈ gTbl := g_in 474 (by decide +kernel) (by decide +kernel)
set_option maxRecDepth 20000 in
theorem mX2_ringSize : Cond.code yX2_ringSize cX2_ringSize 5 ((some .int)) ∈ gTbl ∧ Cond.initialized yX2_ringSize.cls ∈ gTbl ∧ (yX2_ringSize.cls ≠ "java/lang/invoke/MethodHandle" ∧ yX2_ringSize.cls ≠ "java/lang/invoke/VarHandle" ∧ (parseMethodDescriptor yX2_ringSize.desc).map (fun d => d.parameters.length) = some 2) ∧ 5 ≤ 15 := ⟨g_in 721 rfl rfl, g_in 51 (by decide +kernel) (by decide +kernel), ⟨by decide +kernel, by decide +kernel, by decide +kernel⟩, by decide⟩
theorem iX2_ringSize : Cond.instanceMethod yX2_ringSize ∈ gTbl := g_in 719 (by decide +kernel) (by decide +kernel)
theorem sX2_ringSize : Cond.selects yX2_ringSize.cls yX2_ringSize yX2_ringSize ∈ gTbl := g_in 720 (by decide +kernel) (by decide +kernel)
theorem kX2_52 : Cond.methodLink RX2 52 yX2_spread ∈ gTbl := g_in 722 (by decide +kernel) (by decide +kernel)
set_option maxRecDepth 20000 in
theorem mX2_spread : Cond.code yX2_spread cX2_spread 8 none ∈ gTbl ∧ Cond.initialized yX2_spread.cls ∈ gTbl ∧ (yX2_spread.cls ≠ "java/lang/invoke/MethodHandle" ∧ yX2_spread.cls ≠ "java/lang/invoke/VarHandle" ∧ (parseMethodDescriptor yX2_spread.desc).map (fun d => d.parameters.length) = some 4) ∧ 8 ≤ 15 := ⟨g_in 725 rfl rfl, g_in 51 (by decide +kernel) (by decide +kernel), ⟨by decide +kernel, by decide +kernel, by decide +kernel⟩, by decide⟩
theorem iX2_spread : Cond.instanceMethod yX2_spread ∈ gTbl := g_in 724 (by decide +kernel) (by decide +kernel)
theorem sX2_spread : Cond.selects yX2_spread.cls yX2_spread yX2_spread ∈ gTbl := g_in 16 (by decide +kernel) (by decide +kernel)
theorem dX2_init_0 : decode cX2_init 0 = .ok (.aload_n 0, 1) := by decide +kernel
theorem dX2_init_1 : decode cX2_init 1 = .ok (.invokespecial 3, 3) := by decide +kernel
theorem dX2_init_4 : decode cX2_init 4 = .ok (.aload_n 0, 1) := by decide +kernel
theorem dX2_init_5 : decode cX2_init 5 = .ok (.sipush 202, 3) := by decide +kernel
theorem dX2_init_8 : decode cX2_init 8 = .ok (.newarray .int, 2) := by decide +kernel
theorem dX2_init_10 : decode cX2_init 10 = .ok (.putfield 9, 3) := by decide +kernel
theorem dX2_init_13 : decode cX2_init 13 = .ok (.aload_n 0, 1) := by decide +kernel
theorem dX2_init_14 : decode cX2_init 14 = .ok (.sipush 1000, 3) := by decide +kernel
theorem dX2_init_17 : decode cX2_init 17 = .ok (.newarray .int, 2) := by decide +kernel
theorem dX2_init_19 : decode cX2_init 19 = .ok (.putfield 15, 3) := by decide +kernel
theorem dX2_init_22 : decode cX2_init 22 = .ok (.aload_n 0, 1) := by decide +kernel
theorem dX2_init_23 : decode cX2_init 23 = .ok (.sipush 202, 3) := by decide +kernel
theorem dX2_init_26 : decode cX2_init 26 = .ok (.newarray .int, 2) := by decide +kernel
theorem dX2_init_28 : decode cX2_init 28 = .ok (.putfield 18, 3) := by decide +kernel
theorem dX2_init_31 : decode cX2_init 31 = .ok (.aload_n 0, 1) := by decide +kernel
theorem dX2_init_32 : decode cX2_init 32 = .ok (.sipush 1000, 3) := by decide +kernel
theorem dX2_init_35 : decode cX2_init 35 = .ok (.newarray .int, 2) := by decide +kernel
theorem dX2_init_37 : decode cX2_init 37 = .ok (.putfield 21, 3) := by decide +kernel
theorem dX2_init_40 : decode cX2_init 40 = .ok (.aload_n 0, 1) := by decide +kernel
theorem dX2_init_41 : decode cX2_init 41 = .ok (.sipush 201, 3) := by decide +kernel
theorem dX2_init_44 : decode cX2_init 44 = .ok (.newarray .int, 2) := by decide +kernel
theorem dX2_init_46 : decode cX2_init 46 = .ok (.putfield 24, 3) := by decide +kernel
theorem dX2_init_49 : decode cX2_init 49 = .ok (.aload_n 0, 1) := by decide +kernel
theorem dX2_init_50 : decode cX2_init 50 = .ok (.sipush 201, 3) := by decide +kernel
theorem dX2_init_53 : decode cX2_init 53 = .ok (.newarray .boolean, 2) := by decide +kernel
theorem dX2_init_55 : decode cX2_init 55 = .ok (.putfield 27, 3) := by decide +kernel
theorem dX2_init_58 : decode cX2_init 58 = .ok (.aload_n 0, 1) := by decide +kernel
theorem dX2_init_59 : decode cX2_init 59 = .ok (.sipush 201, 3) := by decide +kernel
theorem dX2_init_62 : decode cX2_init 62 = .ok (.newarray .boolean, 2) := by decide +kernel
theorem dX2_init_64 : decode cX2_init 64 = .ok (.putfield 31, 3) := by decide +kernel
theorem dX2_init_67 : decode cX2_init 67 = .ok (.return_, 1) := by decide +kernel
theorem dX2_gather_0 : decode cX2_gather 0 = .ok (.aload_n 1, 1) := by decide +kernel
theorem dX2_gather_1 : decode cX2_gather 1 = .ok (.invokevirtual 34, 3) := by decide +kernel
theorem dX2_gather_4 : decode cX2_gather 4 = .ok (.istore_n 2, 1) := by decide +kernel
theorem dX2_gather_5 : decode cX2_gather 5 = .ok (.iconst 0, 1) := by decide +kernel
theorem dX2_gather_6 : decode cX2_gather 6 = .ok (.istore_n 3, 1) := by decide +kernel
theorem dX2_gather_7 : decode cX2_gather 7 = .ok (.aload_n 0, 1) := by decide +kernel
theorem dX2_gather_8 : decode cX2_gather 8 = .ok (.getfield 9, 3) := by decide +kernel
theorem dX2_gather_11 : decode cX2_gather 11 = .ok (.iconst 0, 1) := by decide +kernel
theorem dX2_gather_12 : decode cX2_gather 12 = .ok (.iconst 0, 1) := by decide +kernel
theorem dX2_gather_13 : decode cX2_gather 13 = .ok (.iastore, 1) := by decide +kernel
theorem dX2_gather_14 : decode cX2_gather 14 = .ok (.iconst 0, 1) := by decide +kernel
theorem dX2_gather_15 : decode cX2_gather 15 = .ok (.istore 4, 2) := by decide +kernel
theorem dX2_gather_17 : decode cX2_gather 17 = .ok (.iload 4, 2) := by decide +kernel
theorem dX2_gather_19 : decode cX2_gather 19 = .ok (.iload_n 2, 1) := by decide +kernel
theorem dX2_gather_20 : decode cX2_gather 20 = .ok (.if_icmp .gt 36, 3) := by decide +kernel
theorem dX2_gather_23 : decode cX2_gather 23 = .ok (.iload 4, 2) := by decide +kernel
theorem dX2_gather_25 : decode cX2_gather 25 = .ok (.sipush 200, 3) := by decide +kernel
theorem dX2_gather_28 : decode cX2_gather 28 = .ok (.if_icmp .gt 28, 3) := by decide +kernel
theorem dX2_gather_31 : decode cX2_gather 31 = .ok (.aload_n 0, 1) := by decide +kernel
theorem dX2_gather_32 : decode cX2_gather 32 = .ok (.aload_n 1, 1) := by decide +kernel
theorem dX2_gather_33 : decode cX2_gather 33 = .ok (.iload 4, 2) := by decide +kernel
theorem dX2_gather_35 : decode cX2_gather 35 = .ok (.iload_n 3, 1) := by decide +kernel
theorem dX2_gather_36 : decode cX2_gather 36 = .ok (.invokevirtual 40, 3) := by decide +kernel
theorem dX2_gather_39 : decode cX2_gather 39 = .ok (.istore_n 3, 1) := by decide +kernel
theorem dX2_gather_40 : decode cX2_gather 40 = .ok (.aload_n 0, 1) := by decide +kernel
theorem dX2_gather_41 : decode cX2_gather 41 = .ok (.getfield 9, 3) := by decide +kernel
theorem dX2_gather_44 : decode cX2_gather 44 = .ok (.iload 4, 2) := by decide +kernel
theorem dX2_gather_46 : decode cX2_gather 46 = .ok (.iconst 1, 1) := by decide +kernel
theorem dX2_gather_47 : decode cX2_gather 47 = .ok (.iadd, 1) := by decide +kernel
theorem dX2_gather_48 : decode cX2_gather 48 = .ok (.iload_n 3, 1) := by decide +kernel
theorem dX2_gather_49 : decode cX2_gather 49 = .ok (.iastore, 1) := by decide +kernel
theorem dX2_gather_50 : decode cX2_gather 50 = .ok (.iinc 4 1, 3) := by decide +kernel
theorem dX2_gather_53 : decode cX2_gather 53 = .ok (.goto (-36), 3) := by decide +kernel
theorem dX2_gather_56 : decode cX2_gather 56 = .ok (.aload_n 0, 1) := by decide +kernel
theorem dX2_gather_57 : decode cX2_gather 57 = .ok (.iload_n 2, 1) := by decide +kernel
theorem dX2_gather_58 : decode cX2_gather 58 = .ok (.invokevirtual 44, 3) := by decide +kernel
theorem dX2_gather_61 : decode cX2_gather 61 = .ok (.return_, 1) := by decide +kernel
theorem dX2_tally_0 : decode cX2_tally 0 = .ok (.iload_n 1, 1) := by decide +kernel
theorem dX2_tally_1 : decode cX2_tally 1 = .ok (.ifCond .lt 28, 3) := by decide +kernel
theorem dX2_tally_4 : decode cX2_tally 4 = .ok (.iload_n 1, 1) := by decide +kernel
theorem dX2_tally_5 : decode cX2_tally 5 = .ok (.sipush 200, 3) := by decide +kernel
theorem dX2_tally_8 : decode cX2_tally 8 = .ok (.if_icmp .gt 21, 3) := by decide +kernel
theorem dX2_tally_11 : decode cX2_tally 11 = .ok (.aload_n 0, 1) := by decide +kernel
theorem dX2_tally_12 : decode cX2_tally 12 = .ok (.getfield 9, 3) := by decide +kernel
theorem dX2_tally_15 : decode cX2_tally 15 = .ok (.iload_n 1, 1) := by decide +kernel
theorem dX2_tally_16 : decode cX2_tally 16 = .ok (.iconst 1, 1) := by decide +kernel
theorem dX2_tally_17 : decode cX2_tally 17 = .ok (.iadd, 1) := by decide +kernel
theorem dX2_tally_18 : decode cX2_tally 18 = .ok (.iaload, 1) := by decide +kernel
theorem dX2_tally_19 : decode cX2_tally 19 = .ok (.aload_n 0, 1) := by decide +kernel
theorem dX2_tally_20 : decode cX2_tally 20 = .ok (.getfield 9, 3) := by decide +kernel
theorem dX2_tally_23 : decode cX2_tally 23 = .ok (.iload_n 1, 1) := by decide +kernel
theorem dX2_tally_24 : decode cX2_tally 24 = .ok (.iaload, 1) := by decide +kernel
theorem dX2_tally_25 : decode cX2_tally 25 = .ok (.isub, 1) := by decide +kernel
theorem dX2_tally_26 : decode cX2_tally 26 = .ok (.goto 4, 3) := by decide +kernel
theorem dX2_tally_29 : decode cX2_tally 29 = .ok (.iconst 0, 1) := by decide +kernel
theorem dX2_tally_30 : decode cX2_tally 30 = .ok (.ireturn, 1) := by decide +kernel
theorem dX2_target_0 : decode cX2_target 0 = .ok (.iload_n 2, 1) := by decide +kernel
theorem dX2_target_1 : decode cX2_target 1 = .ok (.ifCond .lt 28, 3) := by decide +kernel
theorem dX2_target_4 : decode cX2_target 4 = .ok (.iload_n 2, 1) := by decide +kernel
theorem dX2_target_5 : decode cX2_target 5 = .ok (.aload_n 0, 1) := by decide +kernel
theorem dX2_target_6 : decode cX2_target 6 = .ok (.iload_n 1, 1) := by decide +kernel
theorem dX2_target_7 : decode cX2_target 7 = .ok (.invokevirtual 48, 3) := by decide +kernel
theorem dX2_target_10 : decode cX2_target 10 = .ok (.if_icmp .ge 19, 3) := by decide +kernel
theorem dX2_target_13 : decode cX2_target 13 = .ok (.aload_n 0, 1) := by decide +kernel
theorem dX2_target_14 : decode cX2_target 14 = .ok (.getfield 15, 3) := by decide +kernel
theorem dX2_target_17 : decode cX2_target 17 = .ok (.aload_n 0, 1) := by decide +kernel
theorem dX2_target_18 : decode cX2_target 18 = .ok (.getfield 9, 3) := by decide +kernel
theorem dX2_target_21 : decode cX2_target 21 = .ok (.iload_n 1, 1) := by decide +kernel
theorem dX2_target_22 : decode cX2_target 22 = .ok (.iaload, 1) := by decide +kernel
theorem dX2_target_23 : decode cX2_target 23 = .ok (.iload_n 2, 1) := by decide +kernel
theorem dX2_target_24 : decode cX2_target 24 = .ok (.iadd, 1) := by decide +kernel
theorem dX2_target_25 : decode cX2_target 25 = .ok (.iaload, 1) := by decide +kernel
theorem dX2_target_26 : decode cX2_target 26 = .ok (.goto 4, 3) := by decide +kernel
theorem dX2_target_29 : decode cX2_target 29 = .ok (.iconst 0, 1) := by decide +kernel
theorem dX2_target_30 : decode cX2_target 30 = .ok (.ireturn, 1) := by decide +kernel
theorem dX2_ringSize_0 : decode cX2_ringSize 0 = .ok (.aload_n 0, 1) := by decide +kernel
theorem dX2_ringSize_1 : decode cX2_ringSize 1 = .ok (.aload_n 0, 1) := by decide +kernel
theorem dX2_ringSize_2 : decode cX2_ringSize 2 = .ok (.getfield 9, 3) := by decide +kernel
theorem dX2_ringSize_5 : decode cX2_ringSize 5 = .ok (.aload_n 0, 1) := by decide +kernel
theorem dX2_ringSize_6 : decode cX2_ringSize 6 = .ok (.getfield 15, 3) := by decide +kernel
theorem dX2_ringSize_9 : decode cX2_ringSize 9 = .ok (.iload_n 1, 1) := by decide +kernel
theorem dX2_ringSize_10 : decode cX2_ringSize 10 = .ok (.aload_n 0, 1) := by decide +kernel
theorem dX2_ringSize_11 : decode cX2_ringSize 11 = .ok (.getfield 27, 3) := by decide +kernel
theorem dX2_ringSize_14 : decode cX2_ringSize 14 = .ok (.invokevirtual 52, 3) := by decide +kernel
theorem dX2_ringSize_17 : decode cX2_ringSize 17 = .ok (.aload_n 0, 1) := by decide +kernel
theorem dX2_ringSize_18 : decode cX2_ringSize 18 = .ok (.aload_n 0, 1) := by decide +kernel
theorem dX2_ringSize_19 : decode cX2_ringSize 19 = .ok (.getfield 18, 3) := by decide +kernel
theorem dX2_ringSize_22 : decode cX2_ringSize 22 = .ok (.aload_n 0, 1) := by decide +kernel
theorem dX2_ringSize_23 : decode cX2_ringSize 23 = .ok (.getfield 21, 3) := by decide +kernel
theorem dX2_ringSize_26 : decode cX2_ringSize 26 = .ok (.iload_n 1, 1) := by decide +kernel
theorem dX2_ringSize_27 : decode cX2_ringSize 27 = .ok (.aload_n 0, 1) := by decide +kernel
theorem dX2_ringSize_28 : decode cX2_ringSize 28 = .ok (.getfield 31, 3) := by decide +kernel
theorem dX2_ringSize_31 : decode cX2_ringSize 31 = .ok (.invokevirtual 52, 3) := by decide +kernel
theorem dX2_ringSize_34 : decode cX2_ringSize 34 = .ok (.iconst 0, 1) := by decide +kernel
theorem dX2_ringSize_35 : decode cX2_ringSize 35 = .ok (.istore_n 3, 1) := by decide +kernel
theorem dX2_ringSize_36 : decode cX2_ringSize 36 = .ok (.iconst 1, 1) := by decide +kernel
theorem dX2_ringSize_37 : decode cX2_ringSize 37 = .ok (.istore 4, 2) := by decide +kernel
theorem dX2_ringSize_39 : decode cX2_ringSize 39 = .ok (.iload 4, 2) := by decide +kernel
theorem dX2_ringSize_41 : decode cX2_ringSize 41 = .ok (.iload_n 2, 1) := by decide +kernel
theorem dX2_ringSize_42 : decode cX2_ringSize 42 = .ok (.if_icmp .gt 40, 3) := by decide +kernel
theorem dX2_ringSize_45 : decode cX2_ringSize 45 = .ok (.iload 4, 2) := by decide +kernel
theorem dX2_ringSize_47 : decode cX2_ringSize 47 = .ok (.sipush 200, 3) := by decide +kernel
theorem dX2_ringSize_50 : decode cX2_ringSize 50 = .ok (.if_icmp .gt 32, 3) := by decide +kernel
theorem dX2_ringSize_53 : decode cX2_ringSize 53 = .ok (.aload_n 0, 1) := by decide +kernel
theorem dX2_ringSize_54 : decode cX2_ringSize 54 = .ok (.getfield 27, 3) := by decide +kernel
theorem dX2_ringSize_57 : decode cX2_ringSize 57 = .ok (.iload 4, 2) := by decide +kernel
theorem dX2_ringSize_59 : decode cX2_ringSize 59 = .ok (.baload, 1) := by decide +kernel
theorem dX2_ringSize_60 : decode cX2_ringSize 60 = .ok (.ifCond .eq 16, 3) := by decide +kernel
theorem dX2_ringSize_63 : decode cX2_ringSize 63 = .ok (.aload_n 0, 1) := by decide +kernel
theorem dX2_ringSize_64 : decode cX2_ringSize 64 = .ok (.getfield 31, 3) := by decide +kernel
theorem dX2_ringSize_67 : decode cX2_ringSize 67 = .ok (.iload 4, 2) := by decide +kernel
theorem dX2_ringSize_69 : decode cX2_ringSize 69 = .ok (.baload, 1) := by decide +kernel
theorem dX2_ringSize_70 : decode cX2_ringSize 70 = .ok (.ifCond .eq 6, 3) := by decide +kernel
theorem dX2_ringSize_73 : decode cX2_ringSize 73 = .ok (.iinc 3 1, 3) := by decide +kernel
theorem dX2_ringSize_76 : decode cX2_ringSize 76 = .ok (.iinc 4 1, 3) := by decide +kernel
theorem dX2_ringSize_79 : decode cX2_ringSize 79 = .ok (.goto (-40), 3) := by decide +kernel
theorem dX2_ringSize_82 : decode cX2_ringSize 82 = .ok (.iload_n 3, 1) := by decide +kernel
theorem dX2_ringSize_83 : decode cX2_ringSize 83 = .ok (.ireturn, 1) := by decide +kernel
theorem dX2_gatherOf_0 : decode cX2_gatherOf 0 = .ok (.aload_n 1, 1) := by decide +kernel
theorem dX2_gatherOf_1 : decode cX2_gatherOf 1 = .ok (.iload_n 2, 1) := by decide +kernel
theorem dX2_gatherOf_2 : decode cX2_gatherOf 2 = .ok (.invokevirtual 56, 3) := by decide +kernel
theorem dX2_gatherOf_5 : decode cX2_gatherOf 5 = .ok (.istore 4, 2) := by decide +kernel
theorem dX2_gatherOf_7 : decode cX2_gatherOf 7 = .ok (.aload_n 1, 1) := by decide +kernel
theorem dX2_gatherOf_8 : decode cX2_gatherOf 8 = .ok (.iload_n 2, 1) := by decide +kernel
theorem dX2_gatherOf_9 : decode cX2_gatherOf 9 = .ok (.invokevirtual 59, 3) := by decide +kernel
theorem dX2_gatherOf_12 : decode cX2_gatherOf 12 = .ok (.istore 5, 2) := by decide +kernel
theorem dX2_gatherOf_14 : decode cX2_gatherOf 14 = .ok (.iload_n 3, 1) := by decide +kernel
theorem dX2_gatherOf_15 : decode cX2_gatherOf 15 = .ok (.istore 6, 2) := by decide +kernel
theorem dX2_gatherOf_17 : decode cX2_gatherOf 17 = .ok (.iconst 0, 1) := by decide +kernel
theorem dX2_gatherOf_18 : decode cX2_gatherOf 18 = .ok (.istore 7, 2) := by decide +kernel
theorem dX2_gatherOf_20 : decode cX2_gatherOf 20 = .ok (.iload 7, 2) := by decide +kernel
theorem dX2_gatherOf_22 : decode cX2_gatherOf 22 = .ok (.iload 5, 2) := by decide +kernel
theorem dX2_gatherOf_24 : decode cX2_gatherOf 24 = .ok (.if_icmp .ge 48, 3) := by decide +kernel
theorem dX2_gatherOf_27 : decode cX2_gatherOf 27 = .ok (.iload 4, 2) := by decide +kernel
theorem dX2_gatherOf_29 : decode cX2_gatherOf 29 = .ok (.iload 7, 2) := by decide +kernel
theorem dX2_gatherOf_31 : decode cX2_gatherOf 31 = .ok (.invokestatic 62, 3) := by decide +kernel
theorem dX2_gatherOf_34 : decode cX2_gatherOf 34 = .ok (.iconst 2, 1) := by decide +kernel
theorem dX2_gatherOf_35 : decode cX2_gatherOf 35 = .ok (.if_icmp .ne 31, 3) := by decide +kernel
theorem dX2_gatherOf_38 : decode cX2_gatherOf 38 = .ok (.iload 6, 2) := by decide +kernel
theorem dX2_gatherOf_40 : decode cX2_gatherOf 40 = .ok (.aload_n 0, 1) := by decide +kernel
theorem dX2_gatherOf_41 : decode cX2_gatherOf 41 = .ok (.getfield 15, 3) := by decide +kernel
theorem dX2_gatherOf_44 : decode cX2_gatherOf 44 = .ok (.arraylength, 1) := by decide +kernel
theorem dX2_gatherOf_45 : decode cX2_gatherOf 45 = .ok (.if_icmp .ge 21, 3) := by decide +kernel
theorem dX2_gatherOf_48 : decode cX2_gatherOf 48 = .ok (.aload_n 0, 1) := by decide +kernel
theorem dX2_gatherOf_49 : decode cX2_gatherOf 49 = .ok (.getfield 15, 3) := by decide +kernel
theorem dX2_gatherOf_52 : decode cX2_gatherOf 52 = .ok (.iload 6, 2) := by decide +kernel
theorem dX2_gatherOf_54 : decode cX2_gatherOf 54 = .ok (.aload_n 1, 1) := by decide +kernel
theorem dX2_gatherOf_55 : decode cX2_gatherOf 55 = .ok (.iload_n 2, 1) := by decide +kernel
theorem dX2_gatherOf_56 : decode cX2_gatherOf 56 = .ok (.iload 7, 2) := by decide +kernel
theorem dX2_gatherOf_58 : decode cX2_gatherOf 58 = .ok (.invokevirtual 68, 3) := by decide +kernel
theorem dX2_gatherOf_61 : decode cX2_gatherOf 61 = .ok (.l2i, 1) := by decide +kernel
theorem dX2_gatherOf_62 : decode cX2_gatherOf 62 = .ok (.iastore, 1) := by decide +kernel
theorem dX2_gatherOf_63 : decode cX2_gatherOf 63 = .ok (.iinc 6 1, 3) := by decide +kernel
theorem dX2_gatherOf_66 : decode cX2_gatherOf 66 = .ok (.iinc 7 1, 3) := by decide +kernel
theorem dX2_gatherOf_69 : decode cX2_gatherOf 69 = .ok (.goto (-49), 3) := by decide +kernel
theorem dX2_gatherOf_72 : decode cX2_gatherOf 72 = .ok (.iload 6, 2) := by decide +kernel
theorem dX2_gatherOf_74 : decode cX2_gatherOf 74 = .ok (.ireturn, 1) := by decide +kernel
theorem dX2_turnRound_0 : decode cX2_turnRound 0 = .ok (.iconst 0, 1) := by decide +kernel
theorem dX2_turnRound_1 : decode cX2_turnRound 1 = .ok (.istore_n 2, 1) := by decide +kernel
theorem dX2_turnRound_2 : decode cX2_turnRound 2 = .ok (.iload_n 2, 1) := by decide +kernel
theorem dX2_turnRound_3 : decode cX2_turnRound 3 = .ok (.aload_n 0, 1) := by decide +kernel
theorem dX2_turnRound_4 : decode cX2_turnRound 4 = .ok (.getfield 18, 3) := by decide +kernel
theorem dX2_turnRound_7 : decode cX2_turnRound 7 = .ok (.arraylength, 1) := by decide +kernel
theorem dX2_turnRound_8 : decode cX2_turnRound 8 = .ok (.if_icmp .ge 16, 3) := by decide +kernel
theorem dX2_turnRound_11 : decode cX2_turnRound 11 = .ok (.aload_n 0, 1) := by decide +kernel
theorem dX2_turnRound_12 : decode cX2_turnRound 12 = .ok (.getfield 18, 3) := by decide +kernel
theorem dX2_turnRound_15 : decode cX2_turnRound 15 = .ok (.iload_n 2, 1) := by decide +kernel
theorem dX2_turnRound_16 : decode cX2_turnRound 16 = .ok (.iconst 0, 1) := by decide +kernel
theorem dX2_turnRound_17 : decode cX2_turnRound 17 = .ok (.iastore, 1) := by decide +kernel
theorem dX2_turnRound_18 : decode cX2_turnRound 18 = .ok (.iinc 2 1, 3) := by decide +kernel
theorem dX2_turnRound_21 : decode cX2_turnRound 21 = .ok (.goto (-19), 3) := by decide +kernel
theorem dX2_turnRound_24 : decode cX2_turnRound 24 = .ok (.iconst 0, 1) := by decide +kernel
theorem dX2_turnRound_25 : decode cX2_turnRound 25 = .ok (.istore_n 2, 1) := by decide +kernel
theorem dX2_turnRound_26 : decode cX2_turnRound 26 = .ok (.iload_n 2, 1) := by decide +kernel
theorem dX2_turnRound_27 : decode cX2_turnRound 27 = .ok (.aload_n 0, 1) := by decide +kernel
theorem dX2_turnRound_28 : decode cX2_turnRound 28 = .ok (.getfield 9, 3) := by decide +kernel
theorem dX2_turnRound_31 : decode cX2_turnRound 31 = .ok (.iload_n 1, 1) := by decide +kernel
theorem dX2_turnRound_32 : decode cX2_turnRound 32 = .ok (.iconst 1, 1) := by decide +kernel
theorem dX2_turnRound_33 : decode cX2_turnRound 33 = .ok (.iadd, 1) := by decide +kernel
theorem dX2_turnRound_34 : decode cX2_turnRound 34 = .ok (.iaload, 1) := by decide +kernel
theorem dX2_turnRound_35 : decode cX2_turnRound 35 = .ok (.if_icmp .ge 26, 3) := by decide +kernel
theorem dX2_turnRound_38 : decode cX2_turnRound 38 = .ok (.aload_n 0, 1) := by decide +kernel
theorem dX2_turnRound_39 : decode cX2_turnRound 39 = .ok (.getfield 18, 3) := by decide +kernel
theorem dX2_turnRound_42 : decode cX2_turnRound 42 = .ok (.aload_n 0, 1) := by decide +kernel
theorem dX2_turnRound_43 : decode cX2_turnRound 43 = .ok (.getfield 15, 3) := by decide +kernel
theorem dX2_turnRound_46 : decode cX2_turnRound 46 = .ok (.iload_n 2, 1) := by decide +kernel
theorem dX2_turnRound_47 : decode cX2_turnRound 47 = .ok (.iaload, 1) := by decide +kernel
theorem dX2_turnRound_48 : decode cX2_turnRound 48 = .ok (.iconst 1, 1) := by decide +kernel
theorem dX2_turnRound_49 : decode cX2_turnRound 49 = .ok (.iadd, 1) := by decide +kernel
theorem dX2_turnRound_50 : decode cX2_turnRound 50 = .ok (.dup2, 1) := by decide +kernel
theorem dX2_turnRound_51 : decode cX2_turnRound 51 = .ok (.iaload, 1) := by decide +kernel
theorem dX2_turnRound_52 : decode cX2_turnRound 52 = .ok (.iconst 1, 1) := by decide +kernel
theorem dX2_turnRound_53 : decode cX2_turnRound 53 = .ok (.iadd, 1) := by decide +kernel
theorem dX2_turnRound_54 : decode cX2_turnRound 54 = .ok (.iastore, 1) := by decide +kernel
theorem dX2_turnRound_55 : decode cX2_turnRound 55 = .ok (.iinc 2 1, 3) := by decide +kernel
theorem dX2_turnRound_58 : decode cX2_turnRound 58 = .ok (.goto (-32), 3) := by decide +kernel
theorem dX2_turnRound_61 : decode cX2_turnRound 61 = .ok (.iconst 0, 1) := by decide +kernel
theorem dX2_turnRound_62 : decode cX2_turnRound 62 = .ok (.istore_n 2, 1) := by decide +kernel
theorem dX2_turnRound_63 : decode cX2_turnRound 63 = .ok (.iload_n 2, 1) := by decide +kernel
theorem dX2_turnRound_64 : decode cX2_turnRound 64 = .ok (.iload_n 1, 1) := by decide +kernel
theorem dX2_turnRound_65 : decode cX2_turnRound 65 = .ok (.if_icmp .gt 38, 3) := by decide +kernel
theorem dX2_turnRound_68 : decode cX2_turnRound 68 = .ok (.aload_n 0, 1) := by decide +kernel
theorem dX2_turnRound_69 : decode cX2_turnRound 69 = .ok (.getfield 24, 3) := by decide +kernel
theorem dX2_turnRound_72 : decode cX2_turnRound 72 = .ok (.iload_n 2, 1) := by decide +kernel
theorem dX2_turnRound_73 : decode cX2_turnRound 73 = .ok (.aload_n 0, 1) := by decide +kernel
theorem dX2_turnRound_74 : decode cX2_turnRound 74 = .ok (.getfield 18, 3) := by decide +kernel
theorem dX2_turnRound_77 : decode cX2_turnRound 77 = .ok (.iload_n 2, 1) := by decide +kernel
theorem dX2_turnRound_78 : decode cX2_turnRound 78 = .ok (.iaload, 1) := by decide +kernel
theorem dX2_turnRound_79 : decode cX2_turnRound 79 = .ok (.iastore, 1) := by decide +kernel
theorem dX2_turnRound_80 : decode cX2_turnRound 80 = .ok (.aload_n 0, 1) := by decide +kernel
theorem dX2_turnRound_81 : decode cX2_turnRound 81 = .ok (.getfield 18, 3) := by decide +kernel
theorem dX2_turnRound_84 : decode cX2_turnRound 84 = .ok (.iload_n 2, 1) := by decide +kernel
theorem dX2_turnRound_85 : decode cX2_turnRound 85 = .ok (.iconst 1, 1) := by decide +kernel
theorem dX2_turnRound_86 : decode cX2_turnRound 86 = .ok (.iadd, 1) := by decide +kernel
theorem dX2_turnRound_87 : decode cX2_turnRound 87 = .ok (.dup2, 1) := by decide +kernel
theorem dX2_turnRound_88 : decode cX2_turnRound 88 = .ok (.iaload, 1) := by decide +kernel
theorem dX2_turnRound_89 : decode cX2_turnRound 89 = .ok (.aload_n 0, 1) := by decide +kernel
theorem dX2_turnRound_90 : decode cX2_turnRound 90 = .ok (.getfield 18, 3) := by decide +kernel
theorem dX2_turnRound_93 : decode cX2_turnRound 93 = .ok (.iload_n 2, 1) := by decide +kernel
theorem dX2_turnRound_94 : decode cX2_turnRound 94 = .ok (.iaload, 1) := by decide +kernel
theorem dX2_turnRound_95 : decode cX2_turnRound 95 = .ok (.iadd, 1) := by decide +kernel
theorem dX2_turnRound_96 : decode cX2_turnRound 96 = .ok (.iastore, 1) := by decide +kernel
theorem dX2_turnRound_97 : decode cX2_turnRound 97 = .ok (.iinc 2 1, 3) := by decide +kernel
theorem dX2_turnRound_100 : decode cX2_turnRound 100 = .ok (.goto (-37), 3) := by decide +kernel
theorem dX2_turnRound_103 : decode cX2_turnRound 103 = .ok (.iconst 1, 1) := by decide +kernel
theorem dX2_turnRound_104 : decode cX2_turnRound 104 = .ok (.istore_n 2, 1) := by decide +kernel
theorem dX2_turnRound_105 : decode cX2_turnRound 105 = .ok (.iload_n 2, 1) := by decide +kernel
theorem dX2_turnRound_106 : decode cX2_turnRound 106 = .ok (.iload_n 1, 1) := by decide +kernel
theorem dX2_turnRound_107 : decode cX2_turnRound 107 = .ok (.if_icmp .gt 66, 3) := by decide +kernel
theorem dX2_turnRound_110 : decode cX2_turnRound 110 = .ok (.aload_n 0, 1) := by decide +kernel
theorem dX2_turnRound_111 : decode cX2_turnRound 111 = .ok (.getfield 9, 3) := by decide +kernel
theorem dX2_turnRound_114 : decode cX2_turnRound 114 = .ok (.iload_n 2, 1) := by decide +kernel
theorem dX2_turnRound_115 : decode cX2_turnRound 115 = .ok (.iaload, 1) := by decide +kernel
theorem dX2_turnRound_116 : decode cX2_turnRound 116 = .ok (.istore_n 3, 1) := by decide +kernel
theorem dX2_turnRound_117 : decode cX2_turnRound 117 = .ok (.iload_n 3, 1) := by decide +kernel
theorem dX2_turnRound_118 : decode cX2_turnRound 118 = .ok (.aload_n 0, 1) := by decide +kernel
theorem dX2_turnRound_119 : decode cX2_turnRound 119 = .ok (.getfield 9, 3) := by decide +kernel
theorem dX2_turnRound_122 : decode cX2_turnRound 122 = .ok (.iload_n 2, 1) := by decide +kernel
theorem dX2_turnRound_123 : decode cX2_turnRound 123 = .ok (.iconst 1, 1) := by decide +kernel
theorem dX2_turnRound_124 : decode cX2_turnRound 124 = .ok (.iadd, 1) := by decide +kernel
theorem dX2_turnRound_125 : decode cX2_turnRound 125 = .ok (.iaload, 1) := by decide +kernel
theorem dX2_turnRound_126 : decode cX2_turnRound 126 = .ok (.if_icmp .ge 41, 3) := by decide +kernel
theorem dX2_turnRound_129 : decode cX2_turnRound 129 = .ok (.aload_n 0, 1) := by decide +kernel
theorem dX2_turnRound_130 : decode cX2_turnRound 130 = .ok (.getfield 21, 3) := by decide +kernel
theorem dX2_turnRound_133 : decode cX2_turnRound 133 = .ok (.aload_n 0, 1) := by decide +kernel
theorem dX2_turnRound_134 : decode cX2_turnRound 134 = .ok (.getfield 24, 3) := by decide +kernel
theorem dX2_turnRound_137 : decode cX2_turnRound 137 = .ok (.aload_n 0, 1) := by decide +kernel
theorem dX2_turnRound_138 : decode cX2_turnRound 138 = .ok (.getfield 15, 3) := by decide +kernel
theorem dX2_turnRound_141 : decode cX2_turnRound 141 = .ok (.iload_n 3, 1) := by decide +kernel
theorem dX2_turnRound_142 : decode cX2_turnRound 142 = .ok (.iaload, 1) := by decide +kernel
theorem dX2_turnRound_143 : decode cX2_turnRound 143 = .ok (.iaload, 1) := by decide +kernel
theorem dX2_turnRound_144 : decode cX2_turnRound 144 = .ok (.iload_n 2, 1) := by decide +kernel
theorem dX2_turnRound_145 : decode cX2_turnRound 145 = .ok (.iastore, 1) := by decide +kernel
theorem dX2_turnRound_146 : decode cX2_turnRound 146 = .ok (.aload_n 0, 1) := by decide +kernel
theorem dX2_turnRound_147 : decode cX2_turnRound 147 = .ok (.getfield 24, 3) := by decide +kernel
theorem dX2_turnRound_150 : decode cX2_turnRound 150 = .ok (.aload_n 0, 1) := by decide +kernel
theorem dX2_turnRound_151 : decode cX2_turnRound 151 = .ok (.getfield 15, 3) := by decide +kernel
theorem dX2_turnRound_154 : decode cX2_turnRound 154 = .ok (.iload_n 3, 1) := by decide +kernel
theorem dX2_turnRound_155 : decode cX2_turnRound 155 = .ok (.iaload, 1) := by decide +kernel
theorem dX2_turnRound_156 : decode cX2_turnRound 156 = .ok (.dup2, 1) := by decide +kernel
theorem dX2_turnRound_157 : decode cX2_turnRound 157 = .ok (.iaload, 1) := by decide +kernel
theorem dX2_turnRound_158 : decode cX2_turnRound 158 = .ok (.iconst 1, 1) := by decide +kernel
theorem dX2_turnRound_159 : decode cX2_turnRound 159 = .ok (.iadd, 1) := by decide +kernel
theorem dX2_turnRound_160 : decode cX2_turnRound 160 = .ok (.iastore, 1) := by decide +kernel
theorem dX2_turnRound_161 : decode cX2_turnRound 161 = .ok (.iinc 3 1, 3) := by decide +kernel
theorem dX2_turnRound_164 : decode cX2_turnRound 164 = .ok (.goto (-47), 3) := by decide +kernel
theorem dX2_turnRound_167 : decode cX2_turnRound 167 = .ok (.iinc 2 1, 3) := by decide +kernel
theorem dX2_turnRound_170 : decode cX2_turnRound 170 = .ok (.goto (-65), 3) := by decide +kernel
theorem dX2_turnRound_173 : decode cX2_turnRound 173 = .ok (.return_, 1) := by decide +kernel
theorem dX2_spread_0 : decode cX2_spread 0 = .ok (.iconst 0, 1) := by decide +kernel
theorem dX2_spread_1 : decode cX2_spread 1 = .ok (.istore 5, 2) := by decide +kernel
theorem dX2_spread_3 : decode cX2_spread 3 = .ok (.iload 5, 2) := by decide +kernel
theorem dX2_spread_5 : decode cX2_spread 5 = .ok (.aload 4, 2) := by decide +kernel
theorem dX2_spread_7 : decode cX2_spread 7 = .ok (.arraylength, 1) := by decide +kernel
theorem dX2_spread_8 : decode cX2_spread 8 = .ok (.if_icmp .ge 15, 3) := by decide +kernel
theorem dX2_spread_11 : decode cX2_spread 11 = .ok (.aload 4, 2) := by decide +kernel
theorem dX2_spread_13 : decode cX2_spread 13 = .ok (.iload 5, 2) := by decide +kernel
theorem dX2_spread_15 : decode cX2_spread 15 = .ok (.iconst 0, 1) := by decide +kernel
theorem dX2_spread_16 : decode cX2_spread 16 = .ok (.bastore, 1) := by decide +kernel
theorem dX2_spread_17 : decode cX2_spread 17 = .ok (.iinc 5 1, 3) := by decide +kernel
theorem dX2_spread_20 : decode cX2_spread 20 = .ok (.goto (-17), 3) := by decide +kernel
theorem dX2_spread_23 : decode cX2_spread 23 = .ok (.aload_n 0, 1) := by decide +kernel
theorem dX2_spread_24 : decode cX2_spread 24 = .ok (.getfield 24, 3) := by decide +kernel
theorem dX2_spread_27 : decode cX2_spread 27 = .ok (.iconst 0, 1) := by decide +kernel
theorem dX2_spread_28 : decode cX2_spread 28 = .ok (.iload_n 3, 1) := by decide +kernel
theorem dX2_spread_29 : decode cX2_spread 29 = .ok (.iastore, 1) := by decide +kernel
theorem dX2_spread_30 : decode cX2_spread 30 = .ok (.aload 4, 2) := by decide +kernel
theorem dX2_spread_32 : decode cX2_spread 32 = .ok (.iload_n 3, 1) := by decide +kernel
theorem dX2_spread_33 : decode cX2_spread 33 = .ok (.iconst 1, 1) := by decide +kernel
theorem dX2_spread_34 : decode cX2_spread 34 = .ok (.bastore, 1) := by decide +kernel
theorem dX2_spread_35 : decode cX2_spread 35 = .ok (.iconst 1, 1) := by decide +kernel
theorem dX2_spread_36 : decode cX2_spread 36 = .ok (.istore 5, 2) := by decide +kernel
theorem dX2_spread_38 : decode cX2_spread 38 = .ok (.iconst 0, 1) := by decide +kernel
theorem dX2_spread_39 : decode cX2_spread 39 = .ok (.istore 6, 2) := by decide +kernel
theorem dX2_spread_41 : decode cX2_spread 41 = .ok (.iload 6, 2) := by decide +kernel
theorem dX2_spread_43 : decode cX2_spread 43 = .ok (.iload 5, 2) := by decide +kernel
theorem dX2_spread_45 : decode cX2_spread 45 = .ok (.if_icmp .ge 94, 3) := by decide +kernel
theorem dX2_spread_48 : decode cX2_spread 48 = .ok (.iload 6, 2) := by decide +kernel
theorem dX2_spread_50 : decode cX2_spread 50 = .ok (.aload_n 0, 1) := by decide +kernel
theorem dX2_spread_51 : decode cX2_spread 51 = .ok (.getfield 24, 3) := by decide +kernel
theorem dX2_spread_54 : decode cX2_spread 54 = .ok (.arraylength, 1) := by decide +kernel
theorem dX2_spread_55 : decode cX2_spread 55 = .ok (.if_icmp .ge 84, 3) := by decide +kernel
theorem dX2_spread_58 : decode cX2_spread 58 = .ok (.aload_n 1, 1) := by decide +kernel
theorem dX2_spread_59 : decode cX2_spread 59 = .ok (.aload_n 0, 1) := by decide +kernel
theorem dX2_spread_60 : decode cX2_spread 60 = .ok (.getfield 24, 3) := by decide +kernel
theorem dX2_spread_63 : decode cX2_spread 63 = .ok (.iload 6, 2) := by decide +kernel
theorem dX2_spread_65 : decode cX2_spread 65 = .ok (.iaload, 1) := by decide +kernel
theorem dX2_spread_66 : decode cX2_spread 66 = .ok (.iaload, 1) := by decide +kernel
theorem dX2_spread_67 : decode cX2_spread 67 = .ok (.istore 7, 2) := by decide +kernel
theorem dX2_spread_69 : decode cX2_spread 69 = .ok (.iload 7, 2) := by decide +kernel
theorem dX2_spread_71 : decode cX2_spread 71 = .ok (.aload_n 1, 1) := by decide +kernel
theorem dX2_spread_72 : decode cX2_spread 72 = .ok (.aload_n 0, 1) := by decide +kernel
theorem dX2_spread_73 : decode cX2_spread 73 = .ok (.getfield 24, 3) := by decide +kernel
theorem dX2_spread_76 : decode cX2_spread 76 = .ok (.iload 6, 2) := by decide +kernel
theorem dX2_spread_78 : decode cX2_spread 78 = .ok (.iaload, 1) := by decide +kernel
theorem dX2_spread_79 : decode cX2_spread 79 = .ok (.iconst 1, 1) := by decide +kernel
theorem dX2_spread_80 : decode cX2_spread 80 = .ok (.iadd, 1) := by decide +kernel
theorem dX2_spread_81 : decode cX2_spread 81 = .ok (.iaload, 1) := by decide +kernel
theorem dX2_spread_82 : decode cX2_spread 82 = .ok (.if_icmp .ge 51, 3) := by decide +kernel
theorem dX2_spread_85 : decode cX2_spread 85 = .ok (.aload 4, 2) := by decide +kernel
theorem dX2_spread_87 : decode cX2_spread 87 = .ok (.aload_n 2, 1) := by decide +kernel
theorem dX2_spread_88 : decode cX2_spread 88 = .ok (.iload 7, 2) := by decide +kernel
theorem dX2_spread_90 : decode cX2_spread 90 = .ok (.iaload, 1) := by decide +kernel
theorem dX2_spread_91 : decode cX2_spread 91 = .ok (.baload, 1) := by decide +kernel
theorem dX2_spread_92 : decode cX2_spread 92 = .ok (.ifCond .ne 35, 3) := by decide +kernel
theorem dX2_spread_95 : decode cX2_spread 95 = .ok (.iload 5, 2) := by decide +kernel
theorem dX2_spread_97 : decode cX2_spread 97 = .ok (.aload_n 0, 1) := by decide +kernel
theorem dX2_spread_98 : decode cX2_spread 98 = .ok (.getfield 24, 3) := by decide +kernel
theorem dX2_spread_101 : decode cX2_spread 101 = .ok (.arraylength, 1) := by decide +kernel
theorem dX2_spread_102 : decode cX2_spread 102 = .ok (.if_icmp .ge 25, 3) := by decide +kernel
theorem dX2_spread_105 : decode cX2_spread 105 = .ok (.aload 4, 2) := by decide +kernel
theorem dX2_spread_107 : decode cX2_spread 107 = .ok (.aload_n 2, 1) := by decide +kernel
theorem dX2_spread_108 : decode cX2_spread 108 = .ok (.iload 7, 2) := by decide +kernel
theorem dX2_spread_110 : decode cX2_spread 110 = .ok (.iaload, 1) := by decide +kernel
theorem dX2_spread_111 : decode cX2_spread 111 = .ok (.iconst 1, 1) := by decide +kernel
theorem dX2_spread_112 : decode cX2_spread 112 = .ok (.bastore, 1) := by decide +kernel
theorem dX2_spread_113 : decode cX2_spread 113 = .ok (.aload_n 0, 1) := by decide +kernel
theorem dX2_spread_114 : decode cX2_spread 114 = .ok (.getfield 24, 3) := by decide +kernel
theorem dX2_spread_117 : decode cX2_spread 117 = .ok (.iload 5, 2) := by decide +kernel
theorem dX2_spread_119 : decode cX2_spread 119 = .ok (.aload_n 2, 1) := by decide +kernel
theorem dX2_spread_120 : decode cX2_spread 120 = .ok (.iload 7, 2) := by decide +kernel
theorem dX2_spread_122 : decode cX2_spread 122 = .ok (.iaload, 1) := by decide +kernel
theorem dX2_spread_123 : decode cX2_spread 123 = .ok (.iastore, 1) := by decide +kernel
theorem dX2_spread_124 : decode cX2_spread 124 = .ok (.iinc 5 1, 3) := by decide +kernel
theorem dX2_spread_127 : decode cX2_spread 127 = .ok (.iinc 7 1, 3) := by decide +kernel
theorem dX2_spread_130 : decode cX2_spread 130 = .ok (.goto (-61), 3) := by decide +kernel
theorem dX2_spread_133 : decode cX2_spread 133 = .ok (.iinc 6 1, 3) := by decide +kernel
theorem dX2_spread_136 : decode cX2_spread 136 = .ok (.goto (-95), 3) := by decide +kernel
theorem dX2_spread_139 : decode cX2_spread 139 = .ok (.return_, 1) := by decide +kernel
