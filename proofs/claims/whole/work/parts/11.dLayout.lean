set_option maxRecDepth 20000 in
theorem mX1_kind : Cond.code yX1_kind cX1_kind 2 ((some .int)) ∈ gTbl ∧ Cond.initialized yX1_kind.cls ∈ gTbl ∧ (yX1_kind.cls ≠ "java/lang/invoke/MethodHandle" ∧ yX1_kind.cls ≠ "java/lang/invoke/VarHandle" ∧ (parseMethodDescriptor yX1_kind.desc).map (fun d => d.parameters.length) = some 1) ∧ 2 ≤ 15 := ⟨g_in 298 rfl rfl, g_in 60 (by decide +kernel) (by decide +kernel), ⟨by decide +kernel, by decide +kernel, by decide +kernel⟩, by decide⟩
theorem iX1_kind : Cond.static yX1_kind ∈ gTbl := g_in 297 (by decide +kernel) (by decide +kernel)
set_option maxRecDepth 20000 in
theorem mX1_words : Cond.code yX1_words cX1_words 3 ((some .int)) ∈ gTbl ∧ Cond.initialized yX1_words.cls ∈ gTbl ∧ (yX1_words.cls ≠ "java/lang/invoke/MethodHandle" ∧ yX1_words.cls ≠ "java/lang/invoke/VarHandle" ∧ (parseMethodDescriptor yX1_words.desc).map (fun d => d.parameters.length) = some 1) ∧ 3 ≤ 15 := ⟨g_in 301 rfl rfl, g_in 60 (by decide +kernel) (by decide +kernel), ⟨by decide +kernel, by decide +kernel, by decide +kernel⟩, by decide⟩
theorem iX1_words : Cond.static yX1_words ∈ gTbl := g_in 300 (by decide +kernel) (by decide +kernel)
theorem kX1_10 : Cond.methodLink RX1 10 yX1_kind ∈ gTbl := g_in 302 (by decide +kernel) (by decide +kernel)
theorem kX1_16 : Cond.methodLink RX1 16 yX1_fixedWords ∈ gTbl := g_in 303 (by decide +kernel) (by decide +kernel)
set_option maxRecDepth 20000 in
theorem mX1_fixedWords : Cond.code yX1_fixedWords cX1_fixedWords 1 ((some .int)) ∈ gTbl ∧ Cond.initialized yX1_fixedWords.cls ∈ gTbl ∧ (yX1_fixedWords.cls ≠ "java/lang/invoke/MethodHandle" ∧ yX1_fixedWords.cls ≠ "java/lang/invoke/VarHandle" ∧ (parseMethodDescriptor yX1_fixedWords.desc).map (fun d => d.parameters.length) = some 1) ∧ 1 ≤ 15 := ⟨g_in 305 rfl rfl, g_in 60 (by decide +kernel) (by decide +kernel), ⟨by decide +kernel, by decide +kernel, by decide +kernel⟩, by decide⟩
theorem iX1_fixedWords : Cond.static yX1_fixedWords ∈ gTbl := g_in 304 (by decide +kernel) (by decide +kernel)
theorem kX1_20 : Cond.methodLink RX1 20 yX1_itemWords ∈ gTbl := g_in 306 (by decide +kernel) (by decide +kernel)
set_option maxRecDepth 20000 in
theorem mX1_itemWords : Cond.code yX1_itemWords cX1_itemWords 1 ((some .int)) ∈ gTbl ∧ Cond.initialized yX1_itemWords.cls ∈ gTbl ∧ (yX1_itemWords.cls ≠ "java/lang/invoke/MethodHandle" ∧ yX1_itemWords.cls ≠ "java/lang/invoke/VarHandle" ∧ (parseMethodDescriptor yX1_itemWords.desc).map (fun d => d.parameters.length) = some 1) ∧ 1 ≤ 15 := ⟨g_in 308 rfl rfl, g_in 60 (by decide +kernel) (by decide +kernel), ⟨by decide +kernel, by decide +kernel, by decide +kernel⟩, by decide⟩
theorem iX1_itemWords : Cond.static yX1_itemWords ∈ gTbl := g_in 307 (by decide +kernel) (by decide +kernel)
theorem kX1_23 : Cond.methodLink RX1 23 yX1_tally ∈ gTbl := g_in 309 (by decide +kernel) (by decide +kernel)
set_option maxRecDepth 20000 in
theorem mX1_tally : Cond.code yX1_tally cX1_tally 2 ((some .int)) ∈ gTbl ∧ Cond.initialized yX1_tally.cls ∈ gTbl ∧ (yX1_tally.cls ≠ "java/lang/invoke/MethodHandle" ∧ yX1_tally.cls ≠ "java/lang/invoke/VarHandle" ∧ (parseMethodDescriptor yX1_tally.desc).map (fun d => d.parameters.length) = some 1) ∧ 2 ≤ 15 := ⟨g_in 311 rfl rfl, g_in 60 (by decide +kernel) (by decide +kernel), ⟨by decide +kernel, by decide +kernel, by decide +kernel⟩, by decide⟩
theorem iX1_tally : Cond.static yX1_tally ∈ gTbl := g_in 310 (by decide +kernel) (by decide +kernel)
theorem kX1_9 : Cond.constant RX1 9 (65535) ∈ gTbl := g_in 312 (by decide +kernel) (by decide +kernel)
set_option maxRecDepth 20000 in
theorem mX1_flag : Cond.code yX1_flag cX1_flag 2 ((some .int)) ∈ gTbl ∧ Cond.initialized yX1_flag.cls ∈ gTbl ∧ (yX1_flag.cls ≠ "java/lang/invoke/MethodHandle" ∧ yX1_flag.cls ≠ "java/lang/invoke/VarHandle" ∧ (parseMethodDescriptor yX1_flag.desc).map (fun d => d.parameters.length) = some 1) ∧ 2 ≤ 15 := ⟨g_in 321 rfl rfl, g_in 60 (by decide +kernel) (by decide +kernel), ⟨by decide +kernel, by decide +kernel, by decide +kernel⟩, by decide⟩
theorem iX1_flag : Cond.static yX1_flag ∈ gTbl := g_in 320 (by decide +kernel) (by decide +kernel)
set_option maxRecDepth 20000 in
theorem mX1_role : Cond.code yX1_role cX1_role 2 ((some .int)) ∈ gTbl ∧ Cond.initialized yX1_role.cls ∈ gTbl ∧ (yX1_role.cls ≠ "java/lang/invoke/MethodHandle" ∧ yX1_role.cls ≠ "java/lang/invoke/VarHandle" ∧ (parseMethodDescriptor yX1_role.desc).map (fun d => d.parameters.length) = some 2) ∧ 2 ≤ 15 := ⟨g_in 342 rfl rfl, g_in 60 (by decide +kernel) (by decide +kernel), ⟨by decide +kernel, by decide +kernel, by decide +kernel⟩, by decide⟩
theorem iX1_role : Cond.static yX1_role ∈ gTbl := g_in 341 (by decide +kernel) (by decide +kernel)
theorem kX1_26 : Cond.methodLink RX1 26 yX1_roleBehind ∈ gTbl := g_in 343 (by decide +kernel) (by decide +kernel)
set_option maxRecDepth 20000 in
theorem mX1_roleBehind : Cond.code yX1_roleBehind cX1_roleBehind 2 ((some .int)) ∈ gTbl ∧ Cond.initialized yX1_roleBehind.cls ∈ gTbl ∧ (yX1_roleBehind.cls ≠ "java/lang/invoke/MethodHandle" ∧ yX1_roleBehind.cls ≠ "java/lang/invoke/VarHandle" ∧ (parseMethodDescriptor yX1_roleBehind.desc).map (fun d => d.parameters.length) = some 2) ∧ 2 ≤ 15 := ⟨g_in 345 rfl rfl, g_in 60 (by decide +kernel) (by decide +kernel), ⟨by decide +kernel, by decide +kernel, by decide +kernel⟩, by decide⟩
theorem iX1_roleBehind : Cond.static yX1_roleBehind ∈ gTbl := g_in 344 (by decide +kernel) (by decide +kernel)
theorem dX1_kind_0 : decode cX1_kind 0 = .ok (.lload_n 0, 1) := by decide +kernel
theorem dX1_kind_1 : decode cX1_kind 1 = .ok (.bipush 24, 2) := by decide +kernel
theorem dX1_kind_3 : decode cX1_kind 3 = .ok (.lshr, 1) := by decide +kernel
theorem dX1_kind_4 : decode cX1_kind 4 = .ok (.l2i, 1) := by decide +kernel
theorem dX1_kind_5 : decode cX1_kind 5 = .ok (.bipush 31, 2) := by decide +kernel
theorem dX1_kind_7 : decode cX1_kind 7 = .ok (.iand, 1) := by decide +kernel
theorem dX1_kind_8 : decode cX1_kind 8 = .ok (.ireturn, 1) := by decide +kernel
theorem dX1_tally_0 : decode cX1_tally 0 = .ok (.lload_n 0, 1) := by decide +kernel
theorem dX1_tally_1 : decode cX1_tally 1 = .ok (.l2i, 1) := by decide +kernel
theorem dX1_tally_2 : decode cX1_tally 2 = .ok (.ldc 9, 2) := by decide +kernel
theorem dX1_tally_4 : decode cX1_tally 4 = .ok (.iand, 1) := by decide +kernel
theorem dX1_tally_5 : decode cX1_tally 5 = .ok (.ireturn, 1) := by decide +kernel
theorem dX1_flag_0 : decode cX1_flag 0 = .ok (.lload_n 0, 1) := by decide +kernel
theorem dX1_flag_1 : decode cX1_flag 1 = .ok (.bipush 31, 2) := by decide +kernel
theorem dX1_flag_3 : decode cX1_flag 3 = .ok (.lshr, 1) := by decide +kernel
theorem dX1_flag_4 : decode cX1_flag 4 = .ok (.l2i, 1) := by decide +kernel
theorem dX1_flag_5 : decode cX1_flag 5 = .ok (.iconst 1, 1) := by decide +kernel
theorem dX1_flag_6 : decode cX1_flag 6 = .ok (.iand, 1) := by decide +kernel
theorem dX1_flag_7 : decode cX1_flag 7 = .ok (.ireturn, 1) := by decide +kernel
theorem dX1_words_0 : decode cX1_words 0 = .ok (.lload_n 0, 1) := by decide +kernel
theorem dX1_words_1 : decode cX1_words 1 = .ok (.invokestatic 10, 3) := by decide +kernel
theorem dX1_words_4 : decode cX1_words 4 = .ok (.istore_n 2, 1) := by decide +kernel
theorem dX1_words_5 : decode cX1_words 5 = .ok (.iconst 3, 1) := by decide +kernel
theorem dX1_words_6 : decode cX1_words 6 = .ok (.iload_n 2, 1) := by decide +kernel
theorem dX1_words_7 : decode cX1_words 7 = .ok (.invokestatic 16, 3) := by decide +kernel
theorem dX1_words_10 : decode cX1_words 10 = .ok (.iadd, 1) := by decide +kernel
theorem dX1_words_11 : decode cX1_words 11 = .ok (.iload_n 2, 1) := by decide +kernel
theorem dX1_words_12 : decode cX1_words 12 = .ok (.invokestatic 20, 3) := by decide +kernel
theorem dX1_words_15 : decode cX1_words 15 = .ok (.lload_n 0, 1) := by decide +kernel
theorem dX1_words_16 : decode cX1_words 16 = .ok (.invokestatic 23, 3) := by decide +kernel
theorem dX1_words_19 : decode cX1_words 19 = .ok (.imul, 1) := by decide +kernel
theorem dX1_words_20 : decode cX1_words 20 = .ok (.iadd, 1) := by decide +kernel
theorem dX1_words_21 : decode cX1_words 21 = .ok (.ireturn, 1) := by decide +kernel
theorem dX1_fixedWords_0 : decode cX1_fixedWords 0 = .ok (.iload_n 0, 1) := by decide +kernel
theorem dX1_fixedWords_1 : decode cX1_fixedWords 1 = .ok (.lookupswitch 31 #[(1, 27), (3, 29)], 27) := by decide +kernel
theorem dX1_fixedWords_28 : decode cX1_fixedWords 28 = .ok (.iconst 1, 1) := by decide +kernel
theorem dX1_fixedWords_29 : decode cX1_fixedWords 29 = .ok (.ireturn, 1) := by decide +kernel
theorem dX1_fixedWords_30 : decode cX1_fixedWords 30 = .ok (.iconst 3, 1) := by decide +kernel
theorem dX1_fixedWords_31 : decode cX1_fixedWords 31 = .ok (.ireturn, 1) := by decide +kernel
theorem dX1_fixedWords_32 : decode cX1_fixedWords 32 = .ok (.iconst 0, 1) := by decide +kernel
theorem dX1_fixedWords_33 : decode cX1_fixedWords 33 = .ok (.ireturn, 1) := by decide +kernel
theorem dX1_itemWords_0 : decode cX1_itemWords 0 = .ok (.iload_n 0, 1) := by decide +kernel
theorem dX1_itemWords_1 : decode cX1_itemWords 1 = .ok (.tableswitch 59 4 13 #[55, 55, 57, 59, 59, 59, 59, 59, 59, 57], 55) := by decide +kernel
theorem dX1_itemWords_56 : decode cX1_itemWords 56 = .ok (.iconst 3, 1) := by decide +kernel
theorem dX1_itemWords_57 : decode cX1_itemWords 57 = .ok (.ireturn, 1) := by decide +kernel
theorem dX1_itemWords_58 : decode cX1_itemWords 58 = .ok (.iconst 2, 1) := by decide +kernel
theorem dX1_itemWords_59 : decode cX1_itemWords 59 = .ok (.ireturn, 1) := by decide +kernel
theorem dX1_itemWords_60 : decode cX1_itemWords 60 = .ok (.iconst 0, 1) := by decide +kernel
theorem dX1_itemWords_61 : decode cX1_itemWords 61 = .ok (.ireturn, 1) := by decide +kernel
theorem dX1_role_0 : decode cX1_role 0 = .ok (.iload_n 1, 1) := by decide +kernel
theorem dX1_role_1 : decode cX1_role 1 = .ok (.tableswitch 48 0 2 #[27, 29, 31], 27) := by decide +kernel
theorem dX1_role_28 : decode cX1_role 28 = .ok (.iconst 1, 1) := by decide +kernel
theorem dX1_role_29 : decode cX1_role 29 = .ok (.ireturn, 1) := by decide +kernel
theorem dX1_role_30 : decode cX1_role 30 = .ok (.iconst 0, 1) := by decide +kernel
theorem dX1_role_31 : decode cX1_role 31 = .ok (.ireturn, 1) := by decide +kernel
theorem dX1_role_32 : decode cX1_role 32 = .ok (.iload_n 0, 1) := by decide +kernel
theorem dX1_role_33 : decode cX1_role 33 = .ok (.iconst 2, 1) := by decide +kernel
theorem dX1_role_34 : decode cX1_role 34 = .ok (.if_icmp .eq 9, 3) := by decide +kernel
theorem dX1_role_37 : decode cX1_role 37 = .ok (.iload_n 0, 1) := by decide +kernel
theorem dX1_role_38 : decode cX1_role 38 = .ok (.bipush 8, 2) := by decide +kernel
theorem dX1_role_40 : decode cX1_role 40 = .ok (.if_icmp .lt 7, 3) := by decide +kernel
theorem dX1_role_43 : decode cX1_role 43 = .ok (.iconst 2, 1) := by decide +kernel
theorem dX1_role_44 : decode cX1_role 44 = .ok (.goto 4, 3) := by decide +kernel
theorem dX1_role_47 : decode cX1_role 47 = .ok (.iconst 0, 1) := by decide +kernel
theorem dX1_role_48 : decode cX1_role 48 = .ok (.ireturn, 1) := by decide +kernel
theorem dX1_role_49 : decode cX1_role 49 = .ok (.iload_n 0, 1) := by decide +kernel
theorem dX1_role_50 : decode cX1_role 50 = .ok (.iload_n 1, 1) := by decide +kernel
theorem dX1_role_51 : decode cX1_role 51 = .ok (.iconst 3, 1) := by decide +kernel
theorem dX1_role_52 : decode cX1_role 52 = .ok (.isub, 1) := by decide +kernel
theorem dX1_role_53 : decode cX1_role 53 = .ok (.invokestatic 26, 3) := by decide +kernel
theorem dX1_role_56 : decode cX1_role 56 = .ok (.ireturn, 1) := by decide +kernel
theorem dX1_roleBehind_0 : decode cX1_roleBehind 0 = .ok (.iload_n 0, 1) := by decide +kernel
theorem dX1_roleBehind_1 : decode cX1_roleBehind 1 = .ok (.tableswitch 117 3 13 #[59, 70, 70, 93, 117, 117, 117, 117, 117, 117, 105], 59) := by decide +kernel
theorem dX1_roleBehind_60 : decode cX1_roleBehind 60 = .ok (.iload_n 1, 1) := by decide +kernel
theorem dX1_roleBehind_61 : decode cX1_roleBehind 61 = .ok (.iconst 2, 1) := by decide +kernel
theorem dX1_roleBehind_62 : decode cX1_roleBehind 62 = .ok (.if_icmp .ge 7, 3) := by decide +kernel
theorem dX1_roleBehind_65 : decode cX1_roleBehind 65 = .ok (.iconst 2, 1) := by decide +kernel
theorem dX1_roleBehind_66 : decode cX1_roleBehind 66 = .ok (.goto 4, 3) := by decide +kernel
theorem dX1_roleBehind_69 : decode cX1_roleBehind 69 = .ok (.iconst 0, 1) := by decide +kernel
theorem dX1_roleBehind_70 : decode cX1_roleBehind 70 = .ok (.ireturn, 1) := by decide +kernel
theorem dX1_roleBehind_71 : decode cX1_roleBehind 71 = .ok (.iload_n 1, 1) := by decide +kernel
theorem dX1_roleBehind_72 : decode cX1_roleBehind 72 = .ok (.iconst 3, 1) := by decide +kernel
theorem dX1_roleBehind_73 : decode cX1_roleBehind 73 = .ok (.irem, 1) := by decide +kernel
theorem dX1_roleBehind_74 : decode cX1_roleBehind 74 = .ok (.ifCond .ne 7, 3) := by decide +kernel
theorem dX1_roleBehind_77 : decode cX1_roleBehind 77 = .ok (.iconst 1, 1) := by decide +kernel
theorem dX1_roleBehind_78 : decode cX1_roleBehind 78 = .ok (.goto 15, 3) := by decide +kernel
theorem dX1_roleBehind_81 : decode cX1_roleBehind 81 = .ok (.iload_n 1, 1) := by decide +kernel
theorem dX1_roleBehind_82 : decode cX1_roleBehind 82 = .ok (.iconst 3, 1) := by decide +kernel
theorem dX1_roleBehind_83 : decode cX1_roleBehind 83 = .ok (.irem, 1) := by decide +kernel
theorem dX1_roleBehind_84 : decode cX1_roleBehind 84 = .ok (.iconst 1, 1) := by decide +kernel
theorem dX1_roleBehind_85 : decode cX1_roleBehind 85 = .ok (.if_icmp .ne 7, 3) := by decide +kernel
theorem dX1_roleBehind_88 : decode cX1_roleBehind 88 = .ok (.iconst 2, 1) := by decide +kernel
theorem dX1_roleBehind_89 : decode cX1_roleBehind 89 = .ok (.goto 4, 3) := by decide +kernel
theorem dX1_roleBehind_92 : decode cX1_roleBehind 92 = .ok (.iconst 0, 1) := by decide +kernel
theorem dX1_roleBehind_93 : decode cX1_roleBehind 93 = .ok (.ireturn, 1) := by decide +kernel
theorem dX1_roleBehind_94 : decode cX1_roleBehind 94 = .ok (.iload_n 1, 1) := by decide +kernel
theorem dX1_roleBehind_95 : decode cX1_roleBehind 95 = .ok (.iconst 2, 1) := by decide +kernel
theorem dX1_roleBehind_96 : decode cX1_roleBehind 96 = .ok (.irem, 1) := by decide +kernel
theorem dX1_roleBehind_97 : decode cX1_roleBehind 97 = .ok (.ifCond .ne 7, 3) := by decide +kernel
theorem dX1_roleBehind_100 : decode cX1_roleBehind 100 = .ok (.iconst 1, 1) := by decide +kernel
theorem dX1_roleBehind_101 : decode cX1_roleBehind 101 = .ok (.goto 4, 3) := by decide +kernel
theorem dX1_roleBehind_104 : decode cX1_roleBehind 104 = .ok (.iconst 0, 1) := by decide +kernel
theorem dX1_roleBehind_105 : decode cX1_roleBehind 105 = .ok (.ireturn, 1) := by decide +kernel
theorem dX1_roleBehind_106 : decode cX1_roleBehind 106 = .ok (.iload_n 1, 1) := by decide +kernel
theorem dX1_roleBehind_107 : decode cX1_roleBehind 107 = .ok (.iconst 2, 1) := by decide +kernel
theorem dX1_roleBehind_108 : decode cX1_roleBehind 108 = .ok (.irem, 1) := by decide +kernel
theorem dX1_roleBehind_109 : decode cX1_roleBehind 109 = .ok (.ifCond .ne 7, 3) := by decide +kernel
theorem dX1_roleBehind_112 : decode cX1_roleBehind 112 = .ok (.iconst 1, 1) := by decide +kernel
theorem dX1_roleBehind_113 : decode cX1_roleBehind 113 = .ok (.goto 4, 3) := by decide +kernel
theorem dX1_roleBehind_116 : decode cX1_roleBehind 116 = .ok (.iconst 2, 1) := by decide +kernel
theorem dX1_roleBehind_117 : decode cX1_roleBehind 117 = .ok (.ireturn, 1) := by decide +kernel
theorem dX1_roleBehind_118 : decode cX1_roleBehind 118 = .ok (.iconst 0, 1) := by decide +kernel
theorem dX1_roleBehind_119 : decode cX1_roleBehind 119 = .ok (.ireturn, 1) := by decide +kernel
