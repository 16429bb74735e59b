set_option maxRecDepth 20000 in
theorem mX6_init : Cond.code yX6_init cX6_init 1 none ∈ gTbl ∧ Cond.initialized yX6_init.cls ∈ gTbl ∧ (yX6_init.cls ≠ "java/lang/invoke/MethodHandle" ∧ yX6_init.cls ≠ "java/lang/invoke/VarHandle" ∧ (parseMethodDescriptor yX6_init.desc).map (fun d => d.parameters.length) = some 0) ∧ 1 ≤ 15 := ⟨g_in 230 rfl rfl, g_in 53 (by decide +kernel) (by decide +kernel), ⟨by decide +kernel, by decide +kernel, by decide +kernel⟩, by decide⟩
theorem iX6_init : Cond.instanceMethod yX6_init ∈ gTbl := g_in 229 (by decide +kernel) (by decide +kernel)
theorem kX6_3 : Cond.methodLink RX6 3 objectInit ∈ gTbl := g_in 231 (by decide +kernel) (by decide +kernel)
theorem kX6_9 : Cond.fieldLink RX6 9 "TypeFold$Sizes" "path" "[I" ∈ gTbl := g_in 232 (by decide +kernel) (by decide +kernel)
set_option maxRecDepth 20000 in
theorem mX6_measure : Cond.code yX6_measure cX6_measure 8 ((some .long)) ∈ gTbl ∧ Cond.initialized yX6_measure.cls ∈ gTbl ∧ (yX6_measure.cls ≠ "java/lang/invoke/MethodHandle" ∧ yX6_measure.cls ≠ "java/lang/invoke/VarHandle" ∧ (parseMethodDescriptor yX6_measure.desc).map (fun d => d.parameters.length) = some 2) ∧ 8 ≤ 15 := ⟨g_in 677 rfl rfl, g_in 53 (by decide +kernel) (by decide +kernel), ⟨by decide +kernel, by decide +kernel, by decide +kernel⟩, by decide⟩
theorem iX6_measure : Cond.instanceMethod yX6_measure ∈ gTbl := g_in 675 (by decide +kernel) (by decide +kernel)
theorem sX6_measure : Cond.selects yX6_measure.cls yX6_measure yX6_measure ∈ gTbl := g_in 676 (by decide +kernel) (by decide +kernel)
theorem kX6_15 : Cond.methodLink RX6 15 yX7_count ∈ gTbl := g_in 678 (by decide +kernel) (by decide +kernel)
theorem kX6_21 : Cond.methodLink RX6 21 yX7_kind ∈ gTbl := g_in 679 (by decide +kernel) (by decide +kernel)
theorem kX6_25 : Cond.methodLink RX6 25 yX6_leansOnAnother ∈ gTbl := g_in 680 (by decide +kernel) (by decide +kernel)
set_option maxRecDepth 20000 in
theorem mX6_leansOnAnother : Cond.code yX6_leansOnAnother cX6_leansOnAnother 1 ((some .boolean)) ∈ gTbl ∧ Cond.initialized yX6_leansOnAnother.cls ∈ gTbl ∧ (yX6_leansOnAnother.cls ≠ "java/lang/invoke/MethodHandle" ∧ yX6_leansOnAnother.cls ≠ "java/lang/invoke/VarHandle" ∧ (parseMethodDescriptor yX6_leansOnAnother.desc).map (fun d => d.parameters.length) = some 1) ∧ 1 ≤ 15 := ⟨g_in 682 rfl rfl, g_in 53 (by decide +kernel) (by decide +kernel), ⟨by decide +kernel, by decide +kernel, by decide +kernel⟩, by decide⟩
theorem iX6_leansOnAnother : Cond.static yX6_leansOnAnother ∈ gTbl := g_in 681 (by decide +kernel) (by decide +kernel)
theorem kX6_29 : Cond.methodLink RX6 29 yX7_word ∈ gTbl := g_in 683 (by decide +kernel) (by decide +kernel)
theorem kX6_33 : Cond.methodLink RX6 33 yX6_ownBytes ∈ gTbl := g_in 684 (by decide +kernel) (by decide +kernel)
set_option maxRecDepth 20000 in
theorem mX6_ownBytes : Cond.code yX6_ownBytes cX6_ownBytes 2 ((some .long)) ∈ gTbl ∧ Cond.initialized yX6_ownBytes.cls ∈ gTbl ∧ (yX6_ownBytes.cls ≠ "java/lang/invoke/MethodHandle" ∧ yX6_ownBytes.cls ≠ "java/lang/invoke/VarHandle" ∧ (parseMethodDescriptor yX6_ownBytes.desc).map (fun d => d.parameters.length) = some 2) ∧ 2 ≤ 15 := ⟨g_in 686 rfl rfl, g_in 53 (by decide +kernel) (by decide +kernel), ⟨by decide +kernel, by decide +kernel, by decide +kernel⟩, by decide⟩
theorem iX6_ownBytes : Cond.static yX6_ownBytes ∈ gTbl := g_in 685 (by decide +kernel) (by decide +kernel)
theorem kX6_41 : Cond.constantLong RX6 41 (8) ∈ gTbl := g_in 687 (by decide +kernel) (by decide +kernel)
theorem kX6_43 : Cond.constantLong RX6 43 (-1) ∈ gTbl := g_in 688 (by decide +kernel) (by decide +kernel)
theorem kX6_37 : Cond.methodLink RX6 37 yX6_times ∈ gTbl := g_in 689 (by decide +kernel) (by decide +kernel)
set_option maxRecDepth 20000 in
theorem mX6_times : Cond.code yX6_times cX6_times 4 ((some .long)) ∈ gTbl ∧ Cond.initialized yX6_times.cls ∈ gTbl ∧ (yX6_times.cls ≠ "java/lang/invoke/MethodHandle" ∧ yX6_times.cls ≠ "java/lang/invoke/VarHandle" ∧ (parseMethodDescriptor yX6_times.desc).map (fun d => d.parameters.length) = some 2) ∧ 4 ≤ 15 := ⟨g_in 691 rfl rfl, g_in 53 (by decide +kernel) (by decide +kernel), ⟨by decide +kernel, by decide +kernel, by decide +kernel⟩, by decide⟩
theorem iX6_times : Cond.static yX6_times ∈ gTbl := g_in 690 (by decide +kernel) (by decide +kernel)
theorem kX6_45 : Cond.constantLong RX6 45 (1000000000000) ∈ gTbl := g_in 692 (by decide +kernel) (by decide +kernel)
theorem dX6_init_0 : decode cX6_init 0 = .ok (.aload_n 0, 1) := by decide +kernel
theorem dX6_init_1 : decode cX6_init 1 = .ok (.invokespecial 3, 3) := by decide +kernel
theorem dX6_init_4 : decode cX6_init 4 = .ok (.aload_n 0, 1) := by decide +kernel
theorem dX6_init_5 : decode cX6_init 5 = .ok (.sipush 201, 3) := by decide +kernel
theorem dX6_init_8 : decode cX6_init 8 = .ok (.newarray .int, 2) := by decide +kernel
theorem dX6_init_10 : decode cX6_init 10 = .ok (.putfield 9, 3) := by decide +kernel
theorem dX6_init_13 : decode cX6_init 13 = .ok (.return_, 1) := by decide +kernel
theorem dX6_measure_0 : decode cX6_measure 0 = .ok (.iconst 0, 1) := by decide +kernel
theorem dX6_measure_1 : decode cX6_measure 1 = .ok (.istore_n 3, 1) := by decide +kernel
theorem dX6_measure_2 : decode cX6_measure 2 = .ok (.iload_n 2, 1) := by decide +kernel
theorem dX6_measure_3 : decode cX6_measure 3 = .ok (.istore 4, 2) := by decide +kernel
theorem dX6_measure_5 : decode cX6_measure 5 = .ok (.iload_n 3, 1) := by decide +kernel
theorem dX6_measure_6 : decode cX6_measure 6 = .ok (.aload_n 1, 1) := by decide +kernel
theorem dX6_measure_7 : decode cX6_measure 7 = .ok (.invokevirtual 15, 3) := by decide +kernel
theorem dX6_measure_10 : decode cX6_measure 10 = .ok (.if_icmp .ge 53, 3) := by decide +kernel
theorem dX6_measure_13 : decode cX6_measure 13 = .ok (.aload_n 1, 1) := by decide +kernel
theorem dX6_measure_14 : decode cX6_measure 14 = .ok (.iload 4, 2) := by decide +kernel
theorem dX6_measure_16 : decode cX6_measure 16 = .ok (.invokevirtual 21, 3) := by decide +kernel
theorem dX6_measure_19 : decode cX6_measure 19 = .ok (.invokestatic 25, 3) := by decide +kernel
theorem dX6_measure_22 : decode cX6_measure 22 = .ok (.ifCond .eq 41, 3) := by decide +kernel
theorem dX6_measure_25 : decode cX6_measure 25 = .ok (.aload_n 0, 1) := by decide +kernel
theorem dX6_measure_26 : decode cX6_measure 26 = .ok (.getfield 9, 3) := by decide +kernel
theorem dX6_measure_29 : decode cX6_measure 29 = .ok (.iload_n 3, 1) := by decide +kernel
theorem dX6_measure_30 : decode cX6_measure 30 = .ok (.iload 4, 2) := by decide +kernel
theorem dX6_measure_32 : decode cX6_measure 32 = .ok (.iastore, 1) := by decide +kernel
theorem dX6_measure_33 : decode cX6_measure 33 = .ok (.iinc 3 1, 3) := by decide +kernel
theorem dX6_measure_36 : decode cX6_measure 36 = .ok (.aload_n 1, 1) := by decide +kernel
theorem dX6_measure_37 : decode cX6_measure 37 = .ok (.iload 4, 2) := by decide +kernel
theorem dX6_measure_39 : decode cX6_measure 39 = .ok (.aload_n 1, 1) := by decide +kernel
theorem dX6_measure_40 : decode cX6_measure 40 = .ok (.iload 4, 2) := by decide +kernel
theorem dX6_measure_42 : decode cX6_measure 42 = .ok (.invokevirtual 21, 3) := by decide +kernel
theorem dX6_measure_45 : decode cX6_measure 45 = .ok (.iconst 3, 1) := by decide +kernel
theorem dX6_measure_46 : decode cX6_measure 46 = .ok (.if_icmp .ne 7, 3) := by decide +kernel
theorem dX6_measure_49 : decode cX6_measure 49 = .ok (.iconst 3, 1) := by decide +kernel
theorem dX6_measure_50 : decode cX6_measure 50 = .ok (.goto 4, 3) := by decide +kernel
theorem dX6_measure_53 : decode cX6_measure 53 = .ok (.iconst 2, 1) := by decide +kernel
theorem dX6_measure_54 : decode cX6_measure 54 = .ok (.invokevirtual 29, 3) := by decide +kernel
theorem dX6_measure_57 : decode cX6_measure 57 = .ok (.l2i, 1) := by decide +kernel
theorem dX6_measure_58 : decode cX6_measure 58 = .ok (.istore 4, 2) := by decide +kernel
theorem dX6_measure_60 : decode cX6_measure 60 = .ok (.goto (-55), 3) := by decide +kernel
theorem dX6_measure_63 : decode cX6_measure 63 = .ok (.aload_n 1, 1) := by decide +kernel
theorem dX6_measure_64 : decode cX6_measure 64 = .ok (.iload 4, 2) := by decide +kernel
theorem dX6_measure_66 : decode cX6_measure 66 = .ok (.invokestatic 33, 3) := by decide +kernel
theorem dX6_measure_69 : decode cX6_measure 69 = .ok (.lstore 5, 2) := by decide +kernel
theorem dX6_measure_71 : decode cX6_measure 71 = .ok (.iload_n 3, 1) := by decide +kernel
theorem dX6_measure_72 : decode cX6_measure 72 = .ok (.iconst 1, 1) := by decide +kernel
theorem dX6_measure_73 : decode cX6_measure 73 = .ok (.isub, 1) := by decide +kernel
theorem dX6_measure_74 : decode cX6_measure 74 = .ok (.istore 7, 2) := by decide +kernel
theorem dX6_measure_76 : decode cX6_measure 76 = .ok (.iload 7, 2) := by decide +kernel
theorem dX6_measure_78 : decode cX6_measure 78 = .ok (.ifCond .lt 50, 3) := by decide +kernel
theorem dX6_measure_81 : decode cX6_measure 81 = .ok (.lload 5, 2) := by decide +kernel
theorem dX6_measure_83 : decode cX6_measure 83 = .ok (.lconst 0, 1) := by decide +kernel
theorem dX6_measure_84 : decode cX6_measure 84 = .ok (.lcmp, 1) := by decide +kernel
theorem dX6_measure_85 : decode cX6_measure 85 = .ok (.ifCond .lt 43, 3) := by decide +kernel
theorem dX6_measure_88 : decode cX6_measure 88 = .ok (.aload_n 1, 1) := by decide +kernel
theorem dX6_measure_89 : decode cX6_measure 89 = .ok (.aload_n 0, 1) := by decide +kernel
theorem dX6_measure_90 : decode cX6_measure 90 = .ok (.getfield 9, 3) := by decide +kernel
theorem dX6_measure_93 : decode cX6_measure 93 = .ok (.iload 7, 2) := by decide +kernel
theorem dX6_measure_95 : decode cX6_measure 95 = .ok (.iaload, 1) := by decide +kernel
theorem dX6_measure_96 : decode cX6_measure 96 = .ok (.invokevirtual 21, 3) := by decide +kernel
theorem dX6_measure_99 : decode cX6_measure 99 = .ok (.iconst 3, 1) := by decide +kernel
theorem dX6_measure_100 : decode cX6_measure 100 = .ok (.if_icmp .ne 22, 3) := by decide +kernel
theorem dX6_measure_103 : decode cX6_measure 103 = .ok (.lload 5, 2) := by decide +kernel
theorem dX6_measure_105 : decode cX6_measure 105 = .ok (.aload_n 1, 1) := by decide +kernel
theorem dX6_measure_106 : decode cX6_measure 106 = .ok (.aload_n 0, 1) := by decide +kernel
theorem dX6_measure_107 : decode cX6_measure 107 = .ok (.getfield 9, 3) := by decide +kernel
theorem dX6_measure_110 : decode cX6_measure 110 = .ok (.iload 7, 2) := by decide +kernel
theorem dX6_measure_112 : decode cX6_measure 112 = .ok (.iaload, 1) := by decide +kernel
theorem dX6_measure_113 : decode cX6_measure 113 = .ok (.iconst 5, 1) := by decide +kernel
theorem dX6_measure_114 : decode cX6_measure 114 = .ok (.invokevirtual 29, 3) := by decide +kernel
theorem dX6_measure_117 : decode cX6_measure 117 = .ok (.invokestatic 37, 3) := by decide +kernel
theorem dX6_measure_120 : decode cX6_measure 120 = .ok (.lstore 5, 2) := by decide +kernel
theorem dX6_measure_122 : decode cX6_measure 122 = .ok (.iinc 7 (-1), 3) := by decide +kernel
theorem dX6_measure_125 : decode cX6_measure 125 = .ok (.goto (-49), 3) := by decide +kernel
theorem dX6_measure_128 : decode cX6_measure 128 = .ok (.lload 5, 2) := by decide +kernel
theorem dX6_measure_130 : decode cX6_measure 130 = .ok (.lreturn, 1) := by decide +kernel
theorem dX6_leansOnAnother_0 : decode cX6_leansOnAnother 0 = .ok (.iload_n 0, 1) := by decide +kernel
theorem dX6_leansOnAnother_1 : decode cX6_leansOnAnother 1 = .ok (.tableswitch 53 3 11 #[51, 53, 53, 53, 53, 51, 51, 51, 51], 51) := by decide +kernel
theorem dX6_leansOnAnother_52 : decode cX6_leansOnAnother 52 = .ok (.iconst 1, 1) := by decide +kernel
theorem dX6_leansOnAnother_53 : decode cX6_leansOnAnother 53 = .ok (.ireturn, 1) := by decide +kernel
theorem dX6_leansOnAnother_54 : decode cX6_leansOnAnother 54 = .ok (.iconst 0, 1) := by decide +kernel
theorem dX6_leansOnAnother_55 : decode cX6_leansOnAnother 55 = .ok (.ireturn, 1) := by decide +kernel
theorem dX6_ownBytes_0 : decode cX6_ownBytes 0 = .ok (.aload_n 0, 1) := by decide +kernel
theorem dX6_ownBytes_1 : decode cX6_ownBytes 1 = .ok (.iload_n 1, 1) := by decide +kernel
theorem dX6_ownBytes_2 : decode cX6_ownBytes 2 = .ok (.invokevirtual 21, 3) := by decide +kernel
theorem dX6_ownBytes_5 : decode cX6_ownBytes 5 = .ok (.tableswitch 50 1 6 #[39, 46, 50, 39, 39, 39], 39) := by decide +kernel
theorem dX6_ownBytes_44 : decode cX6_ownBytes 44 = .ok (.aload_n 0, 1) := by decide +kernel
theorem dX6_ownBytes_45 : decode cX6_ownBytes 45 = .ok (.iload_n 1, 1) := by decide +kernel
theorem dX6_ownBytes_46 : decode cX6_ownBytes 46 = .ok (.iconst 2, 1) := by decide +kernel
theorem dX6_ownBytes_47 : decode cX6_ownBytes 47 = .ok (.invokevirtual 29, 3) := by decide +kernel
theorem dX6_ownBytes_50 : decode cX6_ownBytes 50 = .ok (.lreturn, 1) := by decide +kernel
theorem dX6_ownBytes_51 : decode cX6_ownBytes 51 = .ok (.ldc2_w 41, 3) := by decide +kernel
theorem dX6_ownBytes_54 : decode cX6_ownBytes 54 = .ok (.lreturn, 1) := by decide +kernel
theorem dX6_ownBytes_55 : decode cX6_ownBytes 55 = .ok (.ldc2_w 43, 3) := by decide +kernel
theorem dX6_ownBytes_58 : decode cX6_ownBytes 58 = .ok (.lreturn, 1) := by decide +kernel
theorem dX6_times_0 : decode cX6_times 0 = .ok (.lload_n 0, 1) := by decide +kernel
theorem dX6_times_1 : decode cX6_times 1 = .ok (.lconst 0, 1) := by decide +kernel
theorem dX6_times_2 : decode cX6_times 2 = .ok (.lcmp, 1) := by decide +kernel
theorem dX6_times_3 : decode cX6_times 3 = .ok (.ifCond .eq 9, 3) := by decide +kernel
theorem dX6_times_6 : decode cX6_times 6 = .ok (.lload_n 2, 1) := by decide +kernel
theorem dX6_times_7 : decode cX6_times 7 = .ok (.lconst 0, 1) := by decide +kernel
theorem dX6_times_8 : decode cX6_times 8 = .ok (.lcmp, 1) := by decide +kernel
theorem dX6_times_9 : decode cX6_times 9 = .ok (.ifCond .ne 5, 3) := by decide +kernel
theorem dX6_times_12 : decode cX6_times 12 = .ok (.lconst 0, 1) := by decide +kernel
theorem dX6_times_13 : decode cX6_times 13 = .ok (.lreturn, 1) := by decide +kernel
theorem dX6_times_14 : decode cX6_times 14 = .ok (.lload_n 2, 1) := by decide +kernel
theorem dX6_times_15 : decode cX6_times 15 = .ok (.ldc2_w 45, 3) := by decide +kernel
theorem dX6_times_18 : decode cX6_times 18 = .ok (.lload_n 0, 1) := by decide +kernel
theorem dX6_times_19 : decode cX6_times 19 = .ok (.ldiv, 1) := by decide +kernel
theorem dX6_times_20 : decode cX6_times 20 = .ok (.lcmp, 1) := by decide +kernel
theorem dX6_times_21 : decode cX6_times 21 = .ok (.ifCond .le 9, 3) := by decide +kernel
theorem dX6_times_24 : decode cX6_times 24 = .ok (.ldc2_w 43, 3) := by decide +kernel
theorem dX6_times_27 : decode cX6_times 27 = .ok (.goto 6, 3) := by decide +kernel
theorem dX6_times_30 : decode cX6_times 30 = .ok (.lload_n 0, 1) := by decide +kernel
theorem dX6_times_31 : decode cX6_times 31 = .ok (.lload_n 2, 1) := by decide +kernel
theorem dX6_times_32 : decode cX6_times 32 = .ok (.lmul, 1) := by decide +kernel
theorem dX6_times_33 : decode cX6_times 33 = .ok (.lreturn, 1) := by decide +kernel
