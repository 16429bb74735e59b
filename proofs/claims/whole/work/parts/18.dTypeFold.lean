set_option maxRecDepth 20000 in
theorem mX8_init : Cond.code yX8_init cX8_init 1 none ∈ gTbl ∧ Cond.initialized yX8_init.cls ∈ gTbl ∧ (yX8_init.cls ≠ "java/lang/invoke/MethodHandle" ∧ yX8_init.cls ≠ "java/lang/invoke/VarHandle" ∧ (parseMethodDescriptor yX8_init.desc).map (fun d => d.parameters.length) = some 0) ∧ 1 ≤ 15 := ⟨g_in 67 rfl rfl, g_in 46 (by decide +kernel) (by decide +kernel), ⟨by decide +kernel, by decide +kernel, by decide +kernel⟩, by decide⟩
theorem iX8_init : Cond.instanceMethod yX8_init ∈ gTbl := g_in 66 (by decide +kernel) (by decide +kernel)
theorem kX8_3 : Cond.methodLink RX8 3 objectInit ∈ gTbl := g_in 68 (by decide +kernel) (by decide +kernel)
theorem kX8_9 : Cond.classLink RX8 9 RX5 ∈ gTbl := g_in 71 (by decide +kernel) (by decide +kernel)
theorem kX8_11 : Cond.methodLink RX8 11 yX5_init ∈ gTbl := g_in 73 (by decide +kernel) (by decide +kernel)
theorem kX8_21 : Cond.classLink RX8 21 RX4 ∈ gTbl := g_in 88 (by decide +kernel) (by decide +kernel)
theorem kX8_28 : Cond.classLink RX8 28 RX7 ∈ gTbl := g_in 104 (by decide +kernel) (by decide +kernel)
theorem kX8_30 : Cond.methodLink RX8 30 yX7_init ∈ gTbl := g_in 106 (by decide +kernel) (by decide +kernel)
theorem kX8_35 : Cond.classLink RX8 35 RX3 ∈ gTbl := g_in 132 (by decide +kernel) (by decide +kernel)
theorem kX8_37 : Cond.methodLink RX8 37 yX3_init ∈ gTbl := g_in 134 (by decide +kernel) (by decide +kernel)
theorem kX8_42 : Cond.classLink RX8 42 RX2 ∈ gTbl := g_in 163 (by decide +kernel) (by decide +kernel)
theorem kX8_44 : Cond.methodLink RX8 44 yX2_init ∈ gTbl := g_in 165 (by decide +kernel) (by decide +kernel)
theorem kX8_49 : Cond.classLink RX8 49 RX0 ∈ gTbl := g_in 192 (by decide +kernel) (by decide +kernel)
theorem kX8_51 : Cond.methodLink RX8 51 yX0_init ∈ gTbl := g_in 194 (by decide +kernel) (by decide +kernel)
theorem kX8_56 : Cond.classLink RX8 56 RX6 ∈ gTbl := g_in 226 (by decide +kernel) (by decide +kernel)
theorem kX8_58 : Cond.methodLink RX8 58 yX6_init ∈ gTbl := g_in 228 (by decide +kernel) (by decide +kernel)
theorem kX8_18 : Cond.fieldLink RX8 18 "TypeFold" "out" "LTypeFold$Row;" ∈ gTbl := g_in 236 (by decide +kernel) (by decide +kernel)
theorem kX8_24 : Cond.fieldLink RX8 24 "TypeFold" "refusal" "LTypeFold$Refusal;" ∈ gTbl := g_in 237 (by decide +kernel) (by decide +kernel)
theorem kX8_31 : Cond.fieldLink RX8 31 "TypeFold" "types" "LTypeFold$Types;" ∈ gTbl := g_in 238 (by decide +kernel) (by decide +kernel)
theorem kX8_38 : Cond.fieldLink RX8 38 "TypeFold" "names" "LTypeFold$Names;" ∈ gTbl := g_in 239 (by decide +kernel) (by decide +kernel)
theorem kX8_45 : Cond.fieldLink RX8 45 "TypeFold" "links" "LTypeFold$Links;" ∈ gTbl := g_in 240 (by decide +kernel) (by decide +kernel)
theorem kX8_52 : Cond.fieldLink RX8 52 "TypeFold" "folding" "LTypeFold$Folding;" ∈ gTbl := g_in 241 (by decide +kernel) (by decide +kernel)
theorem kX8_59 : Cond.fieldLink RX8 59 "TypeFold" "sizes" "LTypeFold$Sizes;" ∈ gTbl := g_in 242 (by decide +kernel) (by decide +kernel)
theorem kX8_14 : Cond.fieldLink RX8 14 "TypeFold" "tape" "LTypeFold$Row;" ∈ gTbl := g_in 243 (by decide +kernel) (by decide +kernel)
set_option maxRecDepth 20000 in
theorem mX8_load : Cond.code yX8_load cX8_load 2 ((some .int)) ∈ gTbl ∧ Cond.initialized yX8_load.cls ∈ gTbl ∧ (yX8_load.cls ≠ "java/lang/invoke/MethodHandle" ∧ yX8_load.cls ≠ "java/lang/invoke/VarHandle" ∧ (parseMethodDescriptor yX8_load.desc).map (fun d => d.parameters.length) = some 0) ∧ 2 ≤ 15 := ⟨g_in 264 rfl rfl, g_in 46 (by decide +kernel) (by decide +kernel), ⟨by decide +kernel, by decide +kernel, by decide +kernel⟩, by decide⟩
theorem iX8_load : Cond.instanceMethod yX8_load ∈ gTbl := g_in 262 (by decide +kernel) (by decide +kernel)
theorem sX8_load : Cond.selects yX8_load.cls yX8_load yX8_load ∈ gTbl := g_in 263 (by decide +kernel) (by decide +kernel)
theorem kX8_77 : Cond.methodLink RX8 77 yX4_judge ∈ gTbl := g_in 265 (by decide +kernel) (by decide +kernel)
theorem kX8_81 : Cond.methodLink RX8 81 yX7_take ∈ gTbl := g_in 355 (by decide +kernel) (by decide +kernel)
theorem kX8_85 : Cond.methodLink RX8 85 yX3_gather ∈ gTbl := g_in 361 (by decide +kernel) (by decide +kernel)
theorem kX8_89 : Cond.methodLink RX8 89 yX2_gather ∈ gTbl := g_in 417 (by decide +kernel) (by decide +kernel)
theorem kX8_90 : Cond.methodLink RX8 90 yX0_fold ∈ gTbl := g_in 434 (by decide +kernel) (by decide +kernel)
theorem kX8_94 : Cond.methodLink RX8 94 yX5_clear ∈ gTbl := g_in 487 (by decide +kernel) (by decide +kernel)
set_option maxRecDepth 20000 in
theorem mX8_feed : Cond.code yX8_feed cX8_feed 4 ((some .int)) ∈ gTbl ∧ Cond.initialized yX8_feed.cls ∈ gTbl ∧ (yX8_feed.cls ≠ "java/lang/invoke/MethodHandle" ∧ yX8_feed.cls ≠ "java/lang/invoke/VarHandle" ∧ (parseMethodDescriptor yX8_feed.desc).map (fun d => d.parameters.length) = some 2) ∧ 4 ≤ 15 := ⟨g_in 499 rfl rfl, g_in 46 (by decide +kernel) (by decide +kernel), ⟨by decide +kernel, by decide +kernel, by decide +kernel⟩, by decide⟩
theorem iX8_feed : Cond.instanceMethod yX8_feed ∈ gTbl := g_in 497 (by decide +kernel) (by decide +kernel)
theorem sX8_feed : Cond.selects yX8_feed.cls yX8_feed yX8_feed ∈ gTbl := g_in 498 (by decide +kernel) (by decide +kernel)
theorem kX8_63 : Cond.classLink RX8 63 "java/lang/IllegalArgumentException" ∈ gTbl := g_in 500 (by decide +kernel) (by decide +kernel)
theorem kX8_65 : Cond.methodLink RX8 65 ⟨"java/lang/IllegalArgumentException", "<init>", "()V"⟩ ∈ gTbl := g_in 541 (by decide +kernel) (by decide +kernel)
theorem kX8_66 : Cond.methodLink RX8 66 yX5_count ∈ gTbl := g_in 563 (by decide +kernel) (by decide +kernel)
theorem kX8_70 : Cond.classLink RX8 70 "java/lang/IllegalStateException" ∈ gTbl := g_in 564 (by decide +kernel) (by decide +kernel)
theorem kX8_72 : Cond.methodLink RX8 72 ⟨"java/lang/IllegalStateException", "<init>", "()V"⟩ ∈ gTbl := g_in 573 (by decide +kernel) (by decide +kernel)
theorem kX8_73 : Cond.methodLink RX8 73 yX5_addLowest ∈ gTbl := g_in 579 (by decide +kernel) (by decide +kernel)
set_option maxRecDepth 20000 in
theorem mX8_type : Cond.code yX8_type cX8_type 3 ((some .long)) ∈ gTbl ∧ Cond.initialized yX8_type.cls ∈ gTbl ∧ (yX8_type.cls ≠ "java/lang/invoke/MethodHandle" ∧ yX8_type.cls ≠ "java/lang/invoke/VarHandle" ∧ (parseMethodDescriptor yX8_type.desc).map (fun d => d.parameters.length) = some 2) ∧ 3 ≤ 15 := ⟨g_in 595 rfl rfl, g_in 46 (by decide +kernel) (by decide +kernel), ⟨by decide +kernel, by decide +kernel, by decide +kernel⟩, by decide⟩
theorem iX8_type : Cond.instanceMethod yX8_type ∈ gTbl := g_in 593 (by decide +kernel) (by decide +kernel)
theorem sX8_type : Cond.selects yX8_type.cls yX8_type yX8_type ∈ gTbl := g_in 594 (by decide +kernel) (by decide +kernel)
theorem kX8_97 : Cond.methodLink RX8 97 yX7_has ∈ gTbl := g_in 596 (by decide +kernel) (by decide +kernel)
theorem kX8_101 : Cond.classLink RX8 101 "java/util/NoSuchElementException" ∈ gTbl := g_in 597 (by decide +kernel) (by decide +kernel)
theorem kX8_103 : Cond.methodLink RX8 103 ⟨"java/util/NoSuchElementException", "<init>", "()V"⟩ ∈ gTbl := g_in 606 (by decide +kernel) (by decide +kernel)
theorem kX8_104 : Cond.methodLink RX8 104 yX7_kind ∈ gTbl := g_in 612 (by decide +kernel) (by decide +kernel)
theorem kX8_108 : Cond.methodLink RX8 108 yX7_tally ∈ gTbl := g_in 613 (by decide +kernel) (by decide +kernel)
theorem kX8_111 : Cond.methodLink RX8 111 yX7_flag ∈ gTbl := g_in 618 (by decide +kernel) (by decide +kernel)
theorem kX8_114 : Cond.methodLink RX8 114 yX7_word ∈ gTbl := g_in 623 (by decide +kernel) (by decide +kernel)
theorem kX8_118 : Cond.methodLink RX8 118 yX2_tally ∈ gTbl := g_in 624 (by decide +kernel) (by decide +kernel)
theorem kX8_119 : Cond.methodLink RX8 119 yX3_own ∈ gTbl := g_in 625 (by decide +kernel) (by decide +kernel)
theorem kX8_122 : Cond.methodLink RX8 122 yX3_letters ∈ gTbl := g_in 631 (by decide +kernel) (by decide +kernel)
theorem kX8_125 : Cond.methodLink RX8 125 yX0_leader ∈ gTbl := g_in 639 (by decide +kernel) (by decide +kernel)
theorem kX8_128 : Cond.methodLink RX8 128 yX0_freshNumber ∈ gTbl := g_in 640 (by decide +kernel) (by decide +kernel)
set_option maxRecDepth 20000 in
theorem mX8_reference : Cond.code yX8_reference cX8_reference 3 ((some .int)) ∈ gTbl ∧ Cond.initialized yX8_reference.cls ∈ gTbl ∧ (yX8_reference.cls ≠ "java/lang/invoke/MethodHandle" ∧ yX8_reference.cls ≠ "java/lang/invoke/VarHandle" ∧ (parseMethodDescriptor yX8_reference.desc).map (fun d => d.parameters.length) = some 2) ∧ 3 ≤ 15 := ⟨g_in 650 rfl rfl, g_in 46 (by decide +kernel) (by decide +kernel), ⟨by decide +kernel, by decide +kernel, by decide +kernel⟩, by decide⟩
theorem iX8_reference : Cond.instanceMethod yX8_reference ∈ gTbl := g_in 648 (by decide +kernel) (by decide +kernel)
theorem sX8_reference : Cond.selects yX8_reference.cls yX8_reference yX8_reference ∈ gTbl := g_in 649 (by decide +kernel) (by decide +kernel)
theorem kX8_131 : Cond.methodLink RX8 131 yX2_target ∈ gTbl := g_in 651 (by decide +kernel) (by decide +kernel)
set_option maxRecDepth 20000 in
theorem mX8_apart : Cond.code yX8_apart cX8_apart 3 ((some .int)) ∈ gTbl ∧ Cond.initialized yX8_apart.cls ∈ gTbl ∧ (yX8_apart.cls ≠ "java/lang/invoke/MethodHandle" ∧ yX8_apart.cls ≠ "java/lang/invoke/VarHandle" ∧ (parseMethodDescriptor yX8_apart.desc).map (fun d => d.parameters.length) = some 2) ∧ 3 ≤ 15 := ⟨g_in 658 rfl rfl, g_in 46 (by decide +kernel) (by decide +kernel), ⟨by decide +kernel, by decide +kernel, by decide +kernel⟩, by decide⟩
theorem iX8_apart : Cond.instanceMethod yX8_apart ∈ gTbl := g_in 656 (by decide +kernel) (by decide +kernel)
theorem sX8_apart : Cond.selects yX8_apart.cls yX8_apart yX8_apart ∈ gTbl := g_in 657 (by decide +kernel) (by decide +kernel)
theorem kX8_135 : Cond.methodLink RX8 135 yX7_hasOrVoid ∈ gTbl := g_in 659 (by decide +kernel) (by decide +kernel)
theorem kX8_138 : Cond.methodLink RX8 138 yX0_depthApart ∈ gTbl := g_in 663 (by decide +kernel) (by decide +kernel)
set_option maxRecDepth 20000 in
theorem mX8_bytes : Cond.code yX8_bytes cX8_bytes 2 ((some .long)) ∈ gTbl ∧ Cond.initialized yX8_bytes.cls ∈ gTbl ∧ (yX8_bytes.cls ≠ "java/lang/invoke/MethodHandle" ∧ yX8_bytes.cls ≠ "java/lang/invoke/VarHandle" ∧ (parseMethodDescriptor yX8_bytes.desc).map (fun d => d.parameters.length) = some 1) ∧ 2 ≤ 15 := ⟨g_in 673 rfl rfl, g_in 46 (by decide +kernel) (by decide +kernel), ⟨by decide +kernel, by decide +kernel, by decide +kernel⟩, by decide⟩
theorem iX8_bytes : Cond.instanceMethod yX8_bytes ∈ gTbl := g_in 671 (by decide +kernel) (by decide +kernel)
theorem sX8_bytes : Cond.selects yX8_bytes.cls yX8_bytes yX8_bytes ∈ gTbl := g_in 672 (by decide +kernel) (by decide +kernel)
theorem kX8_141 : Cond.methodLink RX8 141 yX6_measure ∈ gTbl := g_in 674 (by decide +kernel) (by decide +kernel)
set_option maxRecDepth 20000 in
theorem mX8_find : Cond.code yX8_find cX8_find 4 ((some .int)) ∈ gTbl ∧ Cond.initialized yX8_find.cls ∈ gTbl ∧ (yX8_find.cls ≠ "java/lang/invoke/MethodHandle" ∧ yX8_find.cls ≠ "java/lang/invoke/VarHandle" ∧ (parseMethodDescriptor yX8_find.desc).map (fun d => d.parameters.length) = some 2) ∧ 4 ≤ 15 := ⟨g_in 699 rfl rfl, g_in 46 (by decide +kernel) (by decide +kernel), ⟨by decide +kernel, by decide +kernel, by decide +kernel⟩, by decide⟩
theorem iX8_find : Cond.instanceMethod yX8_find ∈ gTbl := g_in 697 (by decide +kernel) (by decide +kernel)
theorem sX8_find : Cond.selects yX8_find.cls yX8_find yX8_find ∈ gTbl := g_in 698 (by decide +kernel) (by decide +kernel)
theorem kX8_145 : Cond.methodLink RX8 145 yX8_leastNamedAsTape ∈ gTbl := g_in 700 (by decide +kernel) (by decide +kernel)
set_option maxRecDepth 20000 in
theorem mX8_leastNamedAsTape : Cond.code yX8_leastNamedAsTape cX8_leastNamedAsTape 5 ((some .int)) ∈ gTbl ∧ Cond.initialized yX8_leastNamedAsTape.cls ∈ gTbl ∧ (yX8_leastNamedAsTape.cls ≠ "java/lang/invoke/MethodHandle" ∧ yX8_leastNamedAsTape.cls ≠ "java/lang/invoke/VarHandle" ∧ (parseMethodDescriptor yX8_leastNamedAsTape.desc).map (fun d => d.parameters.length) = some 2) ∧ 5 ≤ 15 := ⟨g_in 703 rfl rfl, g_in 46 (by decide +kernel) (by decide +kernel), ⟨by decide +kernel, by decide +kernel, by decide +kernel⟩, by decide⟩
theorem iX8_leastNamedAsTape : Cond.instanceMethod yX8_leastNamedAsTape ∈ gTbl := g_in 702 (by decide +kernel) (by decide +kernel)
theorem sX8_leastNamedAsTape : Cond.selects yX8_leastNamedAsTape.cls yX8_leastNamedAsTape yX8_leastNamedAsTape ∈ gTbl := g_in 15 (by decide +kernel) (by decide +kernel)
theorem kX8_148 : Cond.methodLink RX8 148 yX7_count ∈ gTbl := g_in 704 (by decide +kernel) (by decide +kernel)
theorem kX8_167 : Cond.methodLink RX8 167 yX7_text ∈ gTbl := g_in 705 (by decide +kernel) (by decide +kernel)
theorem kX8_171 : Cond.methodLink RX8 171 yX3_place ∈ gTbl := g_in 706 (by decide +kernel) (by decide +kernel)
theorem kX8_193 : Cond.methodLink RX8 193 yX5_same ∈ gTbl := g_in 710 (by decide +kernel) (by decide +kernel)
set_option maxRecDepth 20000 in
theorem mX8_ring : Cond.code yX8_ring cX8_ring 2 ((some .int)) ∈ gTbl ∧ Cond.initialized yX8_ring.cls ∈ gTbl ∧ (yX8_ring.cls ≠ "java/lang/invoke/MethodHandle" ∧ yX8_ring.cls ≠ "java/lang/invoke/VarHandle" ∧ (parseMethodDescriptor yX8_ring.desc).map (fun d => d.parameters.length) = some 1) ∧ 2 ≤ 15 := ⟨g_in 717 rfl rfl, g_in 46 (by decide +kernel) (by decide +kernel), ⟨by decide +kernel, by decide +kernel, by decide +kernel⟩, by decide⟩
theorem iX8_ring : Cond.instanceMethod yX8_ring ∈ gTbl := g_in 715 (by decide +kernel) (by decide +kernel)
theorem sX8_ring : Cond.selects yX8_ring.cls yX8_ring yX8_ring ∈ gTbl := g_in 716 (by decide +kernel) (by decide +kernel)
theorem kX8_149 : Cond.methodLink RX8 149 yX2_ringSize ∈ gTbl := g_in 718 (by decide +kernel) (by decide +kernel)
set_option maxRecDepth 20000 in
theorem mX8_write : Cond.code yX8_write cX8_write 3 ((some .int)) ∈ gTbl ∧ Cond.initialized yX8_write.cls ∈ gTbl ∧ (yX8_write.cls ≠ "java/lang/invoke/MethodHandle" ∧ yX8_write.cls ≠ "java/lang/invoke/VarHandle" ∧ (parseMethodDescriptor yX8_write.desc).map (fun d => d.parameters.length) = some 0) ∧ 3 ≤ 15 := ⟨g_in 732 rfl rfl, g_in 46 (by decide +kernel) (by decide +kernel), ⟨by decide +kernel, by decide +kernel, by decide +kernel⟩, by decide⟩
theorem iX8_write : Cond.instanceMethod yX8_write ∈ gTbl := g_in 730 (by decide +kernel) (by decide +kernel)
theorem sX8_write : Cond.selects yX8_write.cls yX8_write yX8_write ∈ gTbl := g_in 731 (by decide +kernel) (by decide +kernel)
theorem kX8_152 : Cond.methodLink RX8 152 yX8_foldedTypeBytes ∈ gTbl := g_in 733 (by decide +kernel) (by decide +kernel)
set_option maxRecDepth 20000 in
theorem mX8_foldedTypeBytes : Cond.code yX8_foldedTypeBytes cX8_foldedTypeBytes 3 ((some .int)) ∈ gTbl ∧ Cond.initialized yX8_foldedTypeBytes.cls ∈ gTbl ∧ (yX8_foldedTypeBytes.cls ≠ "java/lang/invoke/MethodHandle" ∧ yX8_foldedTypeBytes.cls ≠ "java/lang/invoke/VarHandle" ∧ (parseMethodDescriptor yX8_foldedTypeBytes.desc).map (fun d => d.parameters.length) = some 0) ∧ 3 ≤ 15 := ⟨g_in 736 rfl rfl, g_in 46 (by decide +kernel) (by decide +kernel), ⟨by decide +kernel, by decide +kernel, by decide +kernel⟩, by decide⟩
theorem iX8_foldedTypeBytes : Cond.instanceMethod yX8_foldedTypeBytes ∈ gTbl := g_in 735 (by decide +kernel) (by decide +kernel)
theorem sX8_foldedTypeBytes : Cond.selects yX8_foldedTypeBytes.cls yX8_foldedTypeBytes yX8_foldedTypeBytes ∈ gTbl := g_in 17 (by decide +kernel) (by decide +kernel)
theorem kX8_197 : Cond.methodLink RX8 197 yX7_words ∈ gTbl := g_in 737 (by decide +kernel) (by decide +kernel)
theorem kX8_155 : Cond.methodLink RX8 155 yX3_freshBytes ∈ gTbl := g_in 738 (by decide +kernel) (by decide +kernel)
theorem kX8_158 : Cond.methodLink RX8 158 yX8_putHead ∈ gTbl := g_in 742 (by decide +kernel) (by decide +kernel)
set_option maxRecDepth 20000 in
theorem mX8_putHead : Cond.code yX8_putHead cX8_putHead 2 none ∈ gTbl ∧ Cond.initialized yX8_putHead.cls ∈ gTbl ∧ (yX8_putHead.cls ≠ "java/lang/invoke/MethodHandle" ∧ yX8_putHead.cls ≠ "java/lang/invoke/VarHandle" ∧ (parseMethodDescriptor yX8_putHead.desc).map (fun d => d.parameters.length) = some 1) ∧ 2 ≤ 15 := ⟨g_in 745 rfl rfl, g_in 46 (by decide +kernel) (by decide +kernel), ⟨by decide +kernel, by decide +kernel, by decide +kernel⟩, by decide⟩
theorem iX8_putHead : Cond.instanceMethod yX8_putHead ∈ gTbl := g_in 744 (by decide +kernel) (by decide +kernel)
theorem sX8_putHead : Cond.selects yX8_putHead.cls yX8_putHead yX8_putHead ∈ gTbl := g_in 18 (by decide +kernel) (by decide +kernel)
theorem kX8_200 : Cond.constantLong RX8 200 (60319) ∈ gTbl := g_in 746 (by decide +kernel) (by decide +kernel)
theorem kX8_202 : Cond.constantLong RX8 202 (24) ∈ gTbl := g_in 747 (by decide +kernel) (by decide +kernel)
theorem kX8_161 : Cond.methodLink RX8 161 yX8_putType ∈ gTbl := g_in 748 (by decide +kernel) (by decide +kernel)
set_option maxRecDepth 20000 in
theorem mX8_putType : Cond.code yX8_putType cX8_putType 8 none ∈ gTbl ∧ Cond.initialized yX8_putType.cls ∈ gTbl ∧ (yX8_putType.cls ≠ "java/lang/invoke/MethodHandle" ∧ yX8_putType.cls ≠ "java/lang/invoke/VarHandle" ∧ (parseMethodDescriptor yX8_putType.desc).map (fun d => d.parameters.length) = some 1) ∧ 8 ≤ 15 := ⟨g_in 751 rfl rfl, g_in 46 (by decide +kernel) (by decide +kernel), ⟨by decide +kernel, by decide +kernel, by decide +kernel⟩, by decide⟩
theorem iX8_putType : Cond.instanceMethod yX8_putType ∈ gTbl := g_in 750 (by decide +kernel) (by decide +kernel)
theorem sX8_putType : Cond.selects yX8_putType.cls yX8_putType yX8_putType ∈ gTbl := g_in 19 (by decide +kernel) (by decide +kernel)
theorem kX8_204 : Cond.methodLink RX8 204 yX3_slot ∈ gTbl := g_in 752 (by decide +kernel) (by decide +kernel)
theorem kX8_207 : Cond.methodLink RX8 207 yX1_role ∈ gTbl := g_in 753 (by decide +kernel) (by decide +kernel)
theorem kX8_212 : Cond.methodLink RX8 212 yX3_told ∈ gTbl := g_in 754 (by decide +kernel) (by decide +kernel)
theorem kX8_215 : Cond.methodLink RX8 215 yX3_freshPlace ∈ gTbl := g_in 755 (by decide +kernel) (by decide +kernel)
theorem kX8_164 : Cond.methodLink RX8 164 yX8_putStrings ∈ gTbl := g_in 759 (by decide +kernel) (by decide +kernel)
set_option maxRecDepth 20000 in
theorem mX8_putStrings : Cond.code yX8_putStrings cX8_putStrings 2 none ∈ gTbl ∧ Cond.initialized yX8_putStrings.cls ∈ gTbl ∧ (yX8_putStrings.cls ≠ "java/lang/invoke/MethodHandle" ∧ yX8_putStrings.cls ≠ "java/lang/invoke/VarHandle" ∧ (parseMethodDescriptor yX8_putStrings.desc).map (fun d => d.parameters.length) = some 0) ∧ 2 ≤ 15 := ⟨g_in 762 rfl rfl, g_in 46 (by decide +kernel) (by decide +kernel), ⟨by decide +kernel, by decide +kernel, by decide +kernel⟩, by decide⟩
theorem iX8_putStrings : Cond.instanceMethod yX8_putStrings ∈ gTbl := g_in 761 (by decide +kernel) (by decide +kernel)
theorem sX8_putStrings : Cond.selects yX8_putStrings.cls yX8_putStrings yX8_putStrings ∈ gTbl := g_in 20 (by decide +kernel) (by decide +kernel)
theorem kX8_218 : Cond.methodLink RX8 218 yX3_count ∈ gTbl := g_in 763 (by decide +kernel) (by decide +kernel)
theorem kX8_174 : Cond.methodLink RX8 174 yX5_addFrom ∈ gTbl := g_in 767 (by decide +kernel) (by decide +kernel)
set_option maxRecDepth 20000 in
theorem mX8_name : Cond.code yX8_name cX8_name 3 ((some .int)) ∈ gTbl ∧ Cond.initialized yX8_name.cls ∈ gTbl ∧ (yX8_name.cls ≠ "java/lang/invoke/MethodHandle" ∧ yX8_name.cls ≠ "java/lang/invoke/VarHandle" ∧ (parseMethodDescriptor yX8_name.desc).map (fun d => d.parameters.length) = some 1) ∧ 3 ≤ 15 := ⟨g_in 777 rfl rfl, g_in 46 (by decide +kernel) (by decide +kernel), ⟨by decide +kernel, by decide +kernel, by decide +kernel⟩, by decide⟩
theorem iX8_name : Cond.instanceMethod yX8_name ∈ gTbl := g_in 775 (by decide +kernel) (by decide +kernel)
theorem sX8_name : Cond.selects yX8_name.cls yX8_name yX8_name ∈ gTbl := g_in 776 (by decide +kernel) (by decide +kernel)
set_option maxRecDepth 20000 in
theorem mX8_out : Cond.code yX8_out cX8_out 2 ((some .long)) ∈ gTbl ∧ Cond.initialized yX8_out.cls ∈ gTbl ∧ (yX8_out.cls ≠ "java/lang/invoke/MethodHandle" ∧ yX8_out.cls ≠ "java/lang/invoke/VarHandle" ∧ (parseMethodDescriptor yX8_out.desc).map (fun d => d.parameters.length) = some 1) ∧ 2 ≤ 15 := ⟨g_in 784 rfl rfl, g_in 46 (by decide +kernel) (by decide +kernel), ⟨by decide +kernel, by decide +kernel, by decide +kernel⟩, by decide⟩
theorem iX8_out : Cond.instanceMethod yX8_out ∈ gTbl := g_in 782 (by decide +kernel) (by decide +kernel)
theorem sX8_out : Cond.selects yX8_out.cls yX8_out yX8_out ∈ gTbl := g_in 783 (by decide +kernel) (by decide +kernel)
theorem kX8_178 : Cond.methodLink RX8 178 yX5_number ∈ gTbl := g_in 785 (by decide +kernel) (by decide +kernel)
set_option maxRecDepth 20000 in
theorem mX8_look : Cond.code yX8_look cX8_look 2 ((some .int)) ∈ gTbl ∧ Cond.initialized yX8_look.cls ∈ gTbl ∧ (yX8_look.cls ≠ "java/lang/invoke/MethodHandle" ∧ yX8_look.cls ≠ "java/lang/invoke/VarHandle" ∧ (parseMethodDescriptor yX8_look.desc).map (fun d => d.parameters.length) = some 1) ∧ 2 ≤ 15 := ⟨g_in 792 rfl rfl, g_in 46 (by decide +kernel) (by decide +kernel), ⟨by decide +kernel, by decide +kernel, by decide +kernel⟩, by decide⟩
theorem iX8_look : Cond.instanceMethod yX8_look ∈ gTbl := g_in 790 (by decide +kernel) (by decide +kernel)
theorem sX8_look : Cond.selects yX8_look.cls yX8_look yX8_look ∈ gTbl := g_in 791 (by decide +kernel) (by decide +kernel)
theorem kX8_181 : Cond.methodLink RX8 181 yX0_classes ∈ gTbl := g_in 793 (by decide +kernel) (by decide +kernel)
theorem kX8_184 : Cond.methodLink RX8 184 yX4_error ∈ gTbl := g_in 797 (by decide +kernel) (by decide +kernel)
theorem kX8_187 : Cond.methodLink RX8 187 yX4_stood ∈ gTbl := g_in 801 (by decide +kernel) (by decide +kernel)
theorem kX8_190 : Cond.methodLink RX8 190 yX0_greatestAlike ∈ gTbl := g_in 805 (by decide +kernel) (by decide +kernel)
theorem dX8_init_0 : decode cX8_init 0 = .ok (.aload_n 0, 1) := by decide +kernel
theorem dX8_init_1 : decode cX8_init 1 = .ok (.invokespecial 3, 3) := by decide +kernel
theorem dX8_init_4 : decode cX8_init 4 = .ok (.aload_n 0, 1) := by decide +kernel
theorem dX8_init_5 : decode cX8_init 5 = .ok (.new 9, 3) := by decide +kernel
theorem dX8_init_8 : decode cX8_init 8 = .ok (.dup, 1) := by decide +kernel
theorem dX8_init_9 : decode cX8_init 9 = .ok (.sipush 8192, 3) := by decide +kernel
theorem dX8_init_12 : decode cX8_init 12 = .ok (.invokespecial 11, 3) := by decide +kernel
theorem dX8_init_15 : decode cX8_init 15 = .ok (.putfield 14, 3) := by decide +kernel
theorem dX8_init_18 : decode cX8_init 18 = .ok (.aload_n 0, 1) := by decide +kernel
theorem dX8_init_19 : decode cX8_init 19 = .ok (.new 9, 3) := by decide +kernel
theorem dX8_init_22 : decode cX8_init 22 = .ok (.dup, 1) := by decide +kernel
theorem dX8_init_23 : decode cX8_init 23 = .ok (.sipush 16384, 3) := by decide +kernel
theorem dX8_init_26 : decode cX8_init 26 = .ok (.invokespecial 11, 3) := by decide +kernel
theorem dX8_init_29 : decode cX8_init 29 = .ok (.putfield 18, 3) := by decide +kernel
theorem dX8_init_32 : decode cX8_init 32 = .ok (.aload_n 0, 1) := by decide +kernel
theorem dX8_init_33 : decode cX8_init 33 = .ok (.new 21, 3) := by decide +kernel
theorem dX8_init_36 : decode cX8_init 36 = .ok (.dup, 1) := by decide +kernel
theorem dX8_init_37 : decode cX8_init 37 = .ok (.invokespecial 23, 3) := by decide +kernel
theorem dX8_init_40 : decode cX8_init 40 = .ok (.putfield 24, 3) := by decide +kernel
theorem dX8_init_43 : decode cX8_init 43 = .ok (.aload_n 0, 1) := by decide +kernel
theorem dX8_init_44 : decode cX8_init 44 = .ok (.new 28, 3) := by decide +kernel
theorem dX8_init_47 : decode cX8_init 47 = .ok (.dup, 1) := by decide +kernel
theorem dX8_init_48 : decode cX8_init 48 = .ok (.invokespecial 30, 3) := by decide +kernel
theorem dX8_init_51 : decode cX8_init 51 = .ok (.putfield 31, 3) := by decide +kernel
theorem dX8_init_54 : decode cX8_init 54 = .ok (.aload_n 0, 1) := by decide +kernel
theorem dX8_init_55 : decode cX8_init 55 = .ok (.new 35, 3) := by decide +kernel
theorem dX8_init_58 : decode cX8_init 58 = .ok (.dup, 1) := by decide +kernel
theorem dX8_init_59 : decode cX8_init 59 = .ok (.invokespecial 37, 3) := by decide +kernel
theorem dX8_init_62 : decode cX8_init 62 = .ok (.putfield 38, 3) := by decide +kernel
theorem dX8_init_65 : decode cX8_init 65 = .ok (.aload_n 0, 1) := by decide +kernel
theorem dX8_init_66 : decode cX8_init 66 = .ok (.new 42, 3) := by decide +kernel
theorem dX8_init_69 : decode cX8_init 69 = .ok (.dup, 1) := by decide +kernel
theorem dX8_init_70 : decode cX8_init 70 = .ok (.invokespecial 44, 3) := by decide +kernel
theorem dX8_init_73 : decode cX8_init 73 = .ok (.putfield 45, 3) := by decide +kernel
theorem dX8_init_76 : decode cX8_init 76 = .ok (.aload_n 0, 1) := by decide +kernel
theorem dX8_init_77 : decode cX8_init 77 = .ok (.new 49, 3) := by decide +kernel
theorem dX8_init_80 : decode cX8_init 80 = .ok (.dup, 1) := by decide +kernel
theorem dX8_init_81 : decode cX8_init 81 = .ok (.invokespecial 51, 3) := by decide +kernel
theorem dX8_init_84 : decode cX8_init 84 = .ok (.putfield 52, 3) := by decide +kernel
theorem dX8_init_87 : decode cX8_init 87 = .ok (.aload_n 0, 1) := by decide +kernel
theorem dX8_init_88 : decode cX8_init 88 = .ok (.new 56, 3) := by decide +kernel
theorem dX8_init_91 : decode cX8_init 91 = .ok (.dup, 1) := by decide +kernel
theorem dX8_init_92 : decode cX8_init 92 = .ok (.invokespecial 58, 3) := by decide +kernel
theorem dX8_init_95 : decode cX8_init 95 = .ok (.putfield 59, 3) := by decide +kernel
theorem dX8_init_98 : decode cX8_init 98 = .ok (.return_, 1) := by decide +kernel
theorem dX8_feed_0 : decode cX8_feed 0 = .ok (.iload_n 1, 1) := by decide +kernel
theorem dX8_feed_1 : decode cX8_feed 1 = .ok (.iconst 1, 1) := by decide +kernel
theorem dX8_feed_2 : decode cX8_feed 2 = .ok (.if_icmp .lt 9, 3) := by decide +kernel
theorem dX8_feed_5 : decode cX8_feed 5 = .ok (.iload_n 1, 1) := by decide +kernel
theorem dX8_feed_6 : decode cX8_feed 6 = .ok (.bipush 8, 2) := by decide +kernel
theorem dX8_feed_8 : decode cX8_feed 8 = .ok (.if_icmp .le 11, 3) := by decide +kernel
theorem dX8_feed_11 : decode cX8_feed 11 = .ok (.new 63, 3) := by decide +kernel
theorem dX8_feed_14 : decode cX8_feed 14 = .ok (.dup, 1) := by decide +kernel
theorem dX8_feed_15 : decode cX8_feed 15 = .ok (.invokespecial 65, 3) := by decide +kernel
theorem dX8_feed_18 : decode cX8_feed 18 = .ok (.athrow, 1) := by decide +kernel
theorem dX8_feed_19 : decode cX8_feed 19 = .ok (.aload_n 0, 1) := by decide +kernel
theorem dX8_feed_20 : decode cX8_feed 20 = .ok (.getfield 14, 3) := by decide +kernel
theorem dX8_feed_23 : decode cX8_feed 23 = .ok (.invokevirtual 66, 3) := by decide +kernel
theorem dX8_feed_26 : decode cX8_feed 26 = .ok (.iload_n 1, 1) := by decide +kernel
theorem dX8_feed_27 : decode cX8_feed 27 = .ok (.iadd, 1) := by decide +kernel
theorem dX8_feed_28 : decode cX8_feed 28 = .ok (.sipush 8192, 3) := by decide +kernel
theorem dX8_feed_31 : decode cX8_feed 31 = .ok (.if_icmp .le 11, 3) := by decide +kernel
theorem dX8_feed_34 : decode cX8_feed 34 = .ok (.new 70, 3) := by decide +kernel
theorem dX8_feed_37 : decode cX8_feed 37 = .ok (.dup, 1) := by decide +kernel
theorem dX8_feed_38 : decode cX8_feed 38 = .ok (.invokespecial 72, 3) := by decide +kernel
theorem dX8_feed_41 : decode cX8_feed 41 = .ok (.athrow, 1) := by decide +kernel
theorem dX8_feed_42 : decode cX8_feed 42 = .ok (.aload_n 0, 1) := by decide +kernel
theorem dX8_feed_43 : decode cX8_feed 43 = .ok (.getfield 14, 3) := by decide +kernel
theorem dX8_feed_46 : decode cX8_feed 46 = .ok (.iload_n 1, 1) := by decide +kernel
theorem dX8_feed_47 : decode cX8_feed 47 = .ok (.lload_n 2, 1) := by decide +kernel
theorem dX8_feed_48 : decode cX8_feed 48 = .ok (.invokevirtual 73, 3) := by decide +kernel
theorem dX8_feed_51 : decode cX8_feed 51 = .ok (.aload_n 0, 1) := by decide +kernel
theorem dX8_feed_52 : decode cX8_feed 52 = .ok (.getfield 14, 3) := by decide +kernel
theorem dX8_feed_55 : decode cX8_feed 55 = .ok (.invokevirtual 66, 3) := by decide +kernel
theorem dX8_feed_58 : decode cX8_feed 58 = .ok (.ireturn, 1) := by decide +kernel
theorem dX8_load_0 : decode cX8_load 0 = .ok (.aload_n 0, 1) := by decide +kernel
theorem dX8_load_1 : decode cX8_load 1 = .ok (.getfield 24, 3) := by decide +kernel
theorem dX8_load_4 : decode cX8_load 4 = .ok (.aload_n 0, 1) := by decide +kernel
theorem dX8_load_5 : decode cX8_load 5 = .ok (.getfield 14, 3) := by decide +kernel
theorem dX8_load_8 : decode cX8_load 8 = .ok (.invokevirtual 77, 3) := by decide +kernel
theorem dX8_load_11 : decode cX8_load 11 = .ok (.istore_n 1, 1) := by decide +kernel
theorem dX8_load_12 : decode cX8_load 12 = .ok (.iload_n 1, 1) := by decide +kernel
theorem dX8_load_13 : decode cX8_load 13 = .ok (.ifCond .ne 59, 3) := by decide +kernel
theorem dX8_load_16 : decode cX8_load 16 = .ok (.aload_n 0, 1) := by decide +kernel
theorem dX8_load_17 : decode cX8_load 17 = .ok (.aload_n 0, 1) := by decide +kernel
theorem dX8_load_18 : decode cX8_load 18 = .ok (.getfield 31, 3) := by decide +kernel
theorem dX8_load_21 : decode cX8_load 21 = .ok (.aload_n 0, 1) := by decide +kernel
theorem dX8_load_22 : decode cX8_load 22 = .ok (.getfield 14, 3) := by decide +kernel
theorem dX8_load_25 : decode cX8_load 25 = .ok (.invokevirtual 81, 3) := by decide +kernel
theorem dX8_load_28 : decode cX8_load 28 = .ok (.putfield 14, 3) := by decide +kernel
theorem dX8_load_31 : decode cX8_load 31 = .ok (.aload_n 0, 1) := by decide +kernel
theorem dX8_load_32 : decode cX8_load 32 = .ok (.getfield 38, 3) := by decide +kernel
theorem dX8_load_35 : decode cX8_load 35 = .ok (.aload_n 0, 1) := by decide +kernel
theorem dX8_load_36 : decode cX8_load 36 = .ok (.getfield 31, 3) := by decide +kernel
theorem dX8_load_39 : decode cX8_load 39 = .ok (.invokevirtual 85, 3) := by decide +kernel
theorem dX8_load_42 : decode cX8_load 42 = .ok (.aload_n 0, 1) := by decide +kernel
theorem dX8_load_43 : decode cX8_load 43 = .ok (.getfield 45, 3) := by decide +kernel
theorem dX8_load_46 : decode cX8_load 46 = .ok (.aload_n 0, 1) := by decide +kernel
theorem dX8_load_47 : decode cX8_load 47 = .ok (.getfield 31, 3) := by decide +kernel
theorem dX8_load_50 : decode cX8_load 50 = .ok (.invokevirtual 89, 3) := by decide +kernel
theorem dX8_load_53 : decode cX8_load 53 = .ok (.aload_n 0, 1) := by decide +kernel
theorem dX8_load_54 : decode cX8_load 54 = .ok (.getfield 52, 3) := by decide +kernel
theorem dX8_load_57 : decode cX8_load 57 = .ok (.aload_n 0, 1) := by decide +kernel
theorem dX8_load_58 : decode cX8_load 58 = .ok (.getfield 31, 3) := by decide +kernel
theorem dX8_load_61 : decode cX8_load 61 = .ok (.aload_n 0, 1) := by decide +kernel
theorem dX8_load_62 : decode cX8_load 62 = .ok (.getfield 38, 3) := by decide +kernel
theorem dX8_load_65 : decode cX8_load 65 = .ok (.aload_n 0, 1) := by decide +kernel
theorem dX8_load_66 : decode cX8_load 66 = .ok (.getfield 45, 3) := by decide +kernel
theorem dX8_load_69 : decode cX8_load 69 = .ok (.invokevirtual 90, 3) := by decide +kernel
theorem dX8_load_72 : decode cX8_load 72 = .ok (.aload_n 0, 1) := by decide +kernel
theorem dX8_load_73 : decode cX8_load 73 = .ok (.getfield 14, 3) := by decide +kernel
theorem dX8_load_76 : decode cX8_load 76 = .ok (.invokevirtual 94, 3) := by decide +kernel
theorem dX8_load_79 : decode cX8_load 79 = .ok (.iload_n 1, 1) := by decide +kernel
theorem dX8_load_80 : decode cX8_load 80 = .ok (.ireturn, 1) := by decide +kernel
theorem dX8_type_0 : decode cX8_type 0 = .ok (.aload_n 0, 1) := by decide +kernel
theorem dX8_type_1 : decode cX8_type 1 = .ok (.getfield 31, 3) := by decide +kernel
theorem dX8_type_4 : decode cX8_type 4 = .ok (.iload_n 1, 1) := by decide +kernel
theorem dX8_type_5 : decode cX8_type 5 = .ok (.invokevirtual 97, 3) := by decide +kernel
theorem dX8_type_8 : decode cX8_type 8 = .ok (.ifCond .ne 11, 3) := by decide +kernel
theorem dX8_type_11 : decode cX8_type 11 = .ok (.new 101, 3) := by decide +kernel
theorem dX8_type_14 : decode cX8_type 14 = .ok (.dup, 1) := by decide +kernel
theorem dX8_type_15 : decode cX8_type 15 = .ok (.invokespecial 103, 3) := by decide +kernel
theorem dX8_type_18 : decode cX8_type 18 = .ok (.athrow, 1) := by decide +kernel
theorem dX8_type_19 : decode cX8_type 19 = .ok (.iload_n 2, 1) := by decide +kernel
theorem dX8_type_20 : decode cX8_type 20 = .ok (.tableswitch 135 0 7 #[48, 58, 68, 78, 88, 98, 115, 125], 48) := by decide +kernel
theorem dX8_type_68 : decode cX8_type 68 = .ok (.aload_n 0, 1) := by decide +kernel
theorem dX8_type_69 : decode cX8_type 69 = .ok (.getfield 31, 3) := by decide +kernel
theorem dX8_type_72 : decode cX8_type 72 = .ok (.iload_n 1, 1) := by decide +kernel
theorem dX8_type_73 : decode cX8_type 73 = .ok (.invokevirtual 104, 3) := by decide +kernel
theorem dX8_type_76 : decode cX8_type 76 = .ok (.i2l, 1) := by decide +kernel
theorem dX8_type_77 : decode cX8_type 77 = .ok (.lreturn, 1) := by decide +kernel
theorem dX8_type_78 : decode cX8_type 78 = .ok (.aload_n 0, 1) := by decide +kernel
theorem dX8_type_79 : decode cX8_type 79 = .ok (.getfield 31, 3) := by decide +kernel
theorem dX8_type_82 : decode cX8_type 82 = .ok (.iload_n 1, 1) := by decide +kernel
theorem dX8_type_83 : decode cX8_type 83 = .ok (.invokevirtual 108, 3) := by decide +kernel
theorem dX8_type_86 : decode cX8_type 86 = .ok (.i2l, 1) := by decide +kernel
theorem dX8_type_87 : decode cX8_type 87 = .ok (.lreturn, 1) := by decide +kernel
theorem dX8_type_88 : decode cX8_type 88 = .ok (.aload_n 0, 1) := by decide +kernel
theorem dX8_type_89 : decode cX8_type 89 = .ok (.getfield 31, 3) := by decide +kernel
theorem dX8_type_92 : decode cX8_type 92 = .ok (.iload_n 1, 1) := by decide +kernel
theorem dX8_type_93 : decode cX8_type 93 = .ok (.invokevirtual 111, 3) := by decide +kernel
theorem dX8_type_96 : decode cX8_type 96 = .ok (.i2l, 1) := by decide +kernel
theorem dX8_type_97 : decode cX8_type 97 = .ok (.lreturn, 1) := by decide +kernel
theorem dX8_type_98 : decode cX8_type 98 = .ok (.aload_n 0, 1) := by decide +kernel
theorem dX8_type_99 : decode cX8_type 99 = .ok (.getfield 31, 3) := by decide +kernel
theorem dX8_type_102 : decode cX8_type 102 = .ok (.iload_n 1, 1) := by decide +kernel
theorem dX8_type_103 : decode cX8_type 103 = .ok (.iconst 2, 1) := by decide +kernel
theorem dX8_type_104 : decode cX8_type 104 = .ok (.invokevirtual 114, 3) := by decide +kernel
theorem dX8_type_107 : decode cX8_type 107 = .ok (.lreturn, 1) := by decide +kernel
theorem dX8_type_108 : decode cX8_type 108 = .ok (.aload_n 0, 1) := by decide +kernel
theorem dX8_type_109 : decode cX8_type 109 = .ok (.getfield 45, 3) := by decide +kernel
theorem dX8_type_112 : decode cX8_type 112 = .ok (.iload_n 1, 1) := by decide +kernel
theorem dX8_type_113 : decode cX8_type 113 = .ok (.invokevirtual 118, 3) := by decide +kernel
theorem dX8_type_116 : decode cX8_type 116 = .ok (.i2l, 1) := by decide +kernel
theorem dX8_type_117 : decode cX8_type 117 = .ok (.lreturn, 1) := by decide +kernel
theorem dX8_type_118 : decode cX8_type 118 = .ok (.aload_n 0, 1) := by decide +kernel
theorem dX8_type_119 : decode cX8_type 119 = .ok (.getfield 38, 3) := by decide +kernel
theorem dX8_type_122 : decode cX8_type 122 = .ok (.aload_n 0, 1) := by decide +kernel
theorem dX8_type_123 : decode cX8_type 123 = .ok (.getfield 38, 3) := by decide +kernel
theorem dX8_type_126 : decode cX8_type 126 = .ok (.iload_n 1, 1) := by decide +kernel
theorem dX8_type_127 : decode cX8_type 127 = .ok (.invokevirtual 119, 3) := by decide +kernel
theorem dX8_type_130 : decode cX8_type 130 = .ok (.invokevirtual 122, 3) := by decide +kernel
theorem dX8_type_133 : decode cX8_type 133 = .ok (.i2l, 1) := by decide +kernel
theorem dX8_type_134 : decode cX8_type 134 = .ok (.lreturn, 1) := by decide +kernel
theorem dX8_type_135 : decode cX8_type 135 = .ok (.aload_n 0, 1) := by decide +kernel
theorem dX8_type_136 : decode cX8_type 136 = .ok (.getfield 52, 3) := by decide +kernel
theorem dX8_type_139 : decode cX8_type 139 = .ok (.iload_n 1, 1) := by decide +kernel
theorem dX8_type_140 : decode cX8_type 140 = .ok (.invokevirtual 125, 3) := by decide +kernel
theorem dX8_type_143 : decode cX8_type 143 = .ok (.i2l, 1) := by decide +kernel
theorem dX8_type_144 : decode cX8_type 144 = .ok (.lreturn, 1) := by decide +kernel
theorem dX8_type_145 : decode cX8_type 145 = .ok (.aload_n 0, 1) := by decide +kernel
theorem dX8_type_146 : decode cX8_type 146 = .ok (.getfield 52, 3) := by decide +kernel
theorem dX8_type_149 : decode cX8_type 149 = .ok (.iload_n 1, 1) := by decide +kernel
theorem dX8_type_150 : decode cX8_type 150 = .ok (.invokevirtual 128, 3) := by decide +kernel
theorem dX8_type_153 : decode cX8_type 153 = .ok (.i2l, 1) := by decide +kernel
theorem dX8_type_154 : decode cX8_type 154 = .ok (.lreturn, 1) := by decide +kernel
theorem dX8_type_155 : decode cX8_type 155 = .ok (.new 101, 3) := by decide +kernel
theorem dX8_type_158 : decode cX8_type 158 = .ok (.dup, 1) := by decide +kernel
theorem dX8_type_159 : decode cX8_type 159 = .ok (.invokespecial 103, 3) := by decide +kernel
theorem dX8_type_162 : decode cX8_type 162 = .ok (.athrow, 1) := by decide +kernel
theorem dX8_reference_0 : decode cX8_reference 0 = .ok (.aload_n 0, 1) := by decide +kernel
theorem dX8_reference_1 : decode cX8_reference 1 = .ok (.getfield 31, 3) := by decide +kernel
theorem dX8_reference_4 : decode cX8_reference 4 = .ok (.iload_n 1, 1) := by decide +kernel
theorem dX8_reference_5 : decode cX8_reference 5 = .ok (.invokevirtual 97, 3) := by decide +kernel
theorem dX8_reference_8 : decode cX8_reference 8 = .ok (.ifCond .eq 19, 3) := by decide +kernel
theorem dX8_reference_11 : decode cX8_reference 11 = .ok (.iload_n 2, 1) := by decide +kernel
theorem dX8_reference_12 : decode cX8_reference 12 = .ok (.ifCond .lt 15, 3) := by decide +kernel
theorem dX8_reference_15 : decode cX8_reference 15 = .ok (.iload_n 2, 1) := by decide +kernel
theorem dX8_reference_16 : decode cX8_reference 16 = .ok (.aload_n 0, 1) := by decide +kernel
theorem dX8_reference_17 : decode cX8_reference 17 = .ok (.getfield 45, 3) := by decide +kernel
theorem dX8_reference_20 : decode cX8_reference 20 = .ok (.iload_n 1, 1) := by decide +kernel
theorem dX8_reference_21 : decode cX8_reference 21 = .ok (.invokevirtual 118, 3) := by decide +kernel
theorem dX8_reference_24 : decode cX8_reference 24 = .ok (.if_icmp .lt 11, 3) := by decide +kernel
theorem dX8_reference_27 : decode cX8_reference 27 = .ok (.new 101, 3) := by decide +kernel
theorem dX8_reference_30 : decode cX8_reference 30 = .ok (.dup, 1) := by decide +kernel
theorem dX8_reference_31 : decode cX8_reference 31 = .ok (.invokespecial 103, 3) := by decide +kernel
theorem dX8_reference_34 : decode cX8_reference 34 = .ok (.athrow, 1) := by decide +kernel
theorem dX8_reference_35 : decode cX8_reference 35 = .ok (.aload_n 0, 1) := by decide +kernel
theorem dX8_reference_36 : decode cX8_reference 36 = .ok (.getfield 45, 3) := by decide +kernel
theorem dX8_reference_39 : decode cX8_reference 39 = .ok (.iload_n 1, 1) := by decide +kernel
theorem dX8_reference_40 : decode cX8_reference 40 = .ok (.iload_n 2, 1) := by decide +kernel
theorem dX8_reference_41 : decode cX8_reference 41 = .ok (.invokevirtual 131, 3) := by decide +kernel
theorem dX8_reference_44 : decode cX8_reference 44 = .ok (.ireturn, 1) := by decide +kernel
theorem dX8_apart_0 : decode cX8_apart 0 = .ok (.aload_n 0, 1) := by decide +kernel
theorem dX8_apart_1 : decode cX8_apart 1 = .ok (.getfield 31, 3) := by decide +kernel
theorem dX8_apart_4 : decode cX8_apart 4 = .ok (.iload_n 1, 1) := by decide +kernel
theorem dX8_apart_5 : decode cX8_apart 5 = .ok (.invokevirtual 135, 3) := by decide +kernel
theorem dX8_apart_8 : decode cX8_apart 8 = .ok (.ifCond .eq 14, 3) := by decide +kernel
theorem dX8_apart_11 : decode cX8_apart 11 = .ok (.aload_n 0, 1) := by decide +kernel
theorem dX8_apart_12 : decode cX8_apart 12 = .ok (.getfield 31, 3) := by decide +kernel
theorem dX8_apart_15 : decode cX8_apart 15 = .ok (.iload_n 2, 1) := by decide +kernel
theorem dX8_apart_16 : decode cX8_apart 16 = .ok (.invokevirtual 135, 3) := by decide +kernel
theorem dX8_apart_19 : decode cX8_apart 19 = .ok (.ifCond .ne 11, 3) := by decide +kernel
theorem dX8_apart_22 : decode cX8_apart 22 = .ok (.new 101, 3) := by decide +kernel
theorem dX8_apart_25 : decode cX8_apart 25 = .ok (.dup, 1) := by decide +kernel
theorem dX8_apart_26 : decode cX8_apart 26 = .ok (.invokespecial 103, 3) := by decide +kernel
theorem dX8_apart_29 : decode cX8_apart 29 = .ok (.athrow, 1) := by decide +kernel
theorem dX8_apart_30 : decode cX8_apart 30 = .ok (.aload_n 0, 1) := by decide +kernel
theorem dX8_apart_31 : decode cX8_apart 31 = .ok (.getfield 52, 3) := by decide +kernel
theorem dX8_apart_34 : decode cX8_apart 34 = .ok (.iload_n 1, 1) := by decide +kernel
theorem dX8_apart_35 : decode cX8_apart 35 = .ok (.iload_n 2, 1) := by decide +kernel
theorem dX8_apart_36 : decode cX8_apart 36 = .ok (.invokevirtual 138, 3) := by decide +kernel
theorem dX8_apart_39 : decode cX8_apart 39 = .ok (.ireturn, 1) := by decide +kernel
theorem dX8_bytes_0 : decode cX8_bytes 0 = .ok (.aload_n 0, 1) := by decide +kernel
theorem dX8_bytes_1 : decode cX8_bytes 1 = .ok (.getfield 31, 3) := by decide +kernel
theorem dX8_bytes_4 : decode cX8_bytes 4 = .ok (.iload_n 1, 1) := by decide +kernel
theorem dX8_bytes_5 : decode cX8_bytes 5 = .ok (.invokevirtual 135, 3) := by decide +kernel
theorem dX8_bytes_8 : decode cX8_bytes 8 = .ok (.ifCond .ne 11, 3) := by decide +kernel
theorem dX8_bytes_11 : decode cX8_bytes 11 = .ok (.new 101, 3) := by decide +kernel
theorem dX8_bytes_14 : decode cX8_bytes 14 = .ok (.dup, 1) := by decide +kernel
theorem dX8_bytes_15 : decode cX8_bytes 15 = .ok (.invokespecial 103, 3) := by decide +kernel
theorem dX8_bytes_18 : decode cX8_bytes 18 = .ok (.athrow, 1) := by decide +kernel
theorem dX8_bytes_19 : decode cX8_bytes 19 = .ok (.aload_n 0, 1) := by decide +kernel
theorem dX8_bytes_20 : decode cX8_bytes 20 = .ok (.getfield 59, 3) := by decide +kernel
theorem dX8_bytes_23 : decode cX8_bytes 23 = .ok (.aload_n 0, 1) := by decide +kernel
theorem dX8_bytes_24 : decode cX8_bytes 24 = .ok (.getfield 31, 3) := by decide +kernel
theorem dX8_bytes_27 : decode cX8_bytes 27 = .ok (.iload_n 1, 1) := by decide +kernel
theorem dX8_bytes_28 : decode cX8_bytes 28 = .ok (.invokevirtual 141, 3) := by decide +kernel
theorem dX8_bytes_31 : decode cX8_bytes 31 = .ok (.lreturn, 1) := by decide +kernel
theorem dX8_find_0 : decode cX8_find 0 = .ok (.iload_n 1, 1) := by decide +kernel
theorem dX8_find_1 : decode cX8_find 1 = .ok (.ifCond .lt 14, 3) := by decide +kernel
theorem dX8_find_4 : decode cX8_find 4 = .ok (.iload_n 1, 1) := by decide +kernel
theorem dX8_find_5 : decode cX8_find 5 = .ok (.bipush 13, 2) := by decide +kernel
theorem dX8_find_7 : decode cX8_find 7 = .ok (.if_icmp .gt 8, 3) := by decide +kernel
theorem dX8_find_10 : decode cX8_find 10 = .ok (.iload_n 2, 1) := by decide +kernel
theorem dX8_find_11 : decode cX8_find 11 = .ok (.iconst 1, 1) := by decide +kernel
theorem dX8_find_12 : decode cX8_find 12 = .ok (.if_icmp .ge 11, 3) := by decide +kernel
theorem dX8_find_15 : decode cX8_find 15 = .ok (.new 63, 3) := by decide +kernel
theorem dX8_find_18 : decode cX8_find 18 = .ok (.dup, 1) := by decide +kernel
theorem dX8_find_19 : decode cX8_find 19 = .ok (.invokespecial 65, 3) := by decide +kernel
theorem dX8_find_22 : decode cX8_find 22 = .ok (.athrow, 1) := by decide +kernel
theorem dX8_find_23 : decode cX8_find 23 = .ok (.aload_n 0, 1) := by decide +kernel
theorem dX8_find_24 : decode cX8_find 24 = .ok (.iload_n 1, 1) := by decide +kernel
theorem dX8_find_25 : decode cX8_find 25 = .ok (.iload_n 2, 1) := by decide +kernel
theorem dX8_find_26 : decode cX8_find 26 = .ok (.invokevirtual 145, 3) := by decide +kernel
theorem dX8_find_29 : decode cX8_find 29 = .ok (.istore_n 3, 1) := by decide +kernel
theorem dX8_find_30 : decode cX8_find 30 = .ok (.aload_n 0, 1) := by decide +kernel
theorem dX8_find_31 : decode cX8_find 31 = .ok (.getfield 14, 3) := by decide +kernel
theorem dX8_find_34 : decode cX8_find 34 = .ok (.invokevirtual 94, 3) := by decide +kernel
theorem dX8_find_37 : decode cX8_find 37 = .ok (.iload_n 3, 1) := by decide +kernel
theorem dX8_find_38 : decode cX8_find 38 = .ok (.ireturn, 1) := by decide +kernel
theorem dX8_ring_0 : decode cX8_ring 0 = .ok (.aload_n 0, 1) := by decide +kernel
theorem dX8_ring_1 : decode cX8_ring 1 = .ok (.getfield 31, 3) := by decide +kernel
theorem dX8_ring_4 : decode cX8_ring 4 = .ok (.iload_n 1, 1) := by decide +kernel
theorem dX8_ring_5 : decode cX8_ring 5 = .ok (.invokevirtual 97, 3) := by decide +kernel
theorem dX8_ring_8 : decode cX8_ring 8 = .ok (.ifCond .ne 11, 3) := by decide +kernel
theorem dX8_ring_11 : decode cX8_ring 11 = .ok (.new 101, 3) := by decide +kernel
theorem dX8_ring_14 : decode cX8_ring 14 = .ok (.dup, 1) := by decide +kernel
theorem dX8_ring_15 : decode cX8_ring 15 = .ok (.invokespecial 103, 3) := by decide +kernel
theorem dX8_ring_18 : decode cX8_ring 18 = .ok (.athrow, 1) := by decide +kernel
theorem dX8_ring_19 : decode cX8_ring 19 = .ok (.aload_n 0, 1) := by decide +kernel
theorem dX8_ring_20 : decode cX8_ring 20 = .ok (.getfield 45, 3) := by decide +kernel
theorem dX8_ring_23 : decode cX8_ring 23 = .ok (.iload_n 1, 1) := by decide +kernel
theorem dX8_ring_24 : decode cX8_ring 24 = .ok (.aload_n 0, 1) := by decide +kernel
theorem dX8_ring_25 : decode cX8_ring 25 = .ok (.getfield 31, 3) := by decide +kernel
theorem dX8_ring_28 : decode cX8_ring 28 = .ok (.invokevirtual 148, 3) := by decide +kernel
theorem dX8_ring_31 : decode cX8_ring 31 = .ok (.invokevirtual 149, 3) := by decide +kernel
theorem dX8_ring_34 : decode cX8_ring 34 = .ok (.ireturn, 1) := by decide +kernel
theorem dX8_write_0 : decode cX8_write 0 = .ok (.aload_n 0, 1) := by decide +kernel
theorem dX8_write_1 : decode cX8_write 1 = .ok (.getfield 31, 3) := by decide +kernel
theorem dX8_write_4 : decode cX8_write 4 = .ok (.invokevirtual 148, 3) := by decide +kernel
theorem dX8_write_7 : decode cX8_write 7 = .ok (.ifCond .ne 11, 3) := by decide +kernel
theorem dX8_write_10 : decode cX8_write 10 = .ok (.new 70, 3) := by decide +kernel
theorem dX8_write_13 : decode cX8_write 13 = .ok (.dup, 1) := by decide +kernel
theorem dX8_write_14 : decode cX8_write 14 = .ok (.invokespecial 72, 3) := by decide +kernel
theorem dX8_write_17 : decode cX8_write 17 = .ok (.athrow, 1) := by decide +kernel
theorem dX8_write_18 : decode cX8_write 18 = .ok (.aload_n 0, 1) := by decide +kernel
theorem dX8_write_19 : decode cX8_write 19 = .ok (.invokevirtual 152, 3) := by decide +kernel
theorem dX8_write_22 : decode cX8_write 22 = .ok (.istore_n 1, 1) := by decide +kernel
theorem dX8_write_23 : decode cX8_write 23 = .ok (.bipush 24, 2) := by decide +kernel
theorem dX8_write_25 : decode cX8_write 25 = .ok (.iload_n 1, 1) := by decide +kernel
theorem dX8_write_26 : decode cX8_write 26 = .ok (.iadd, 1) := by decide +kernel
theorem dX8_write_27 : decode cX8_write 27 = .ok (.aload_n 0, 1) := by decide +kernel
theorem dX8_write_28 : decode cX8_write 28 = .ok (.getfield 38, 3) := by decide +kernel
theorem dX8_write_31 : decode cX8_write 31 = .ok (.invokevirtual 155, 3) := by decide +kernel
theorem dX8_write_34 : decode cX8_write 34 = .ok (.iadd, 1) := by decide +kernel
theorem dX8_write_35 : decode cX8_write 35 = .ok (.sipush 16384, 3) := by decide +kernel
theorem dX8_write_38 : decode cX8_write 38 = .ok (.if_icmp .le 5, 3) := by decide +kernel
theorem dX8_write_41 : decode cX8_write 41 = .ok (.iconst (-1), 1) := by decide +kernel
theorem dX8_write_42 : decode cX8_write 42 = .ok (.ireturn, 1) := by decide +kernel
theorem dX8_write_43 : decode cX8_write 43 = .ok (.aload_n 0, 1) := by decide +kernel
theorem dX8_write_44 : decode cX8_write 44 = .ok (.getfield 18, 3) := by decide +kernel
theorem dX8_write_47 : decode cX8_write 47 = .ok (.invokevirtual 94, 3) := by decide +kernel
theorem dX8_write_50 : decode cX8_write 50 = .ok (.aload_n 0, 1) := by decide +kernel
theorem dX8_write_51 : decode cX8_write 51 = .ok (.iload_n 1, 1) := by decide +kernel
theorem dX8_write_52 : decode cX8_write 52 = .ok (.invokevirtual 158, 3) := by decide +kernel
theorem dX8_write_55 : decode cX8_write 55 = .ok (.iconst 1, 1) := by decide +kernel
theorem dX8_write_56 : decode cX8_write 56 = .ok (.istore_n 2, 1) := by decide +kernel
theorem dX8_write_57 : decode cX8_write 57 = .ok (.iload_n 2, 1) := by decide +kernel
theorem dX8_write_58 : decode cX8_write 58 = .ok (.aload_n 0, 1) := by decide +kernel
theorem dX8_write_59 : decode cX8_write 59 = .ok (.getfield 31, 3) := by decide +kernel
theorem dX8_write_62 : decode cX8_write 62 = .ok (.invokevirtual 148, 3) := by decide +kernel
theorem dX8_write_65 : decode cX8_write 65 = .ok (.if_icmp .gt 26, 3) := by decide +kernel
theorem dX8_write_68 : decode cX8_write 68 = .ok (.aload_n 0, 1) := by decide +kernel
theorem dX8_write_69 : decode cX8_write 69 = .ok (.getfield 52, 3) := by decide +kernel
theorem dX8_write_72 : decode cX8_write 72 = .ok (.iload_n 2, 1) := by decide +kernel
theorem dX8_write_73 : decode cX8_write 73 = .ok (.invokevirtual 125, 3) := by decide +kernel
theorem dX8_write_76 : decode cX8_write 76 = .ok (.iload_n 2, 1) := by decide +kernel
theorem dX8_write_77 : decode cX8_write 77 = .ok (.if_icmp .ne 8, 3) := by decide +kernel
theorem dX8_write_80 : decode cX8_write 80 = .ok (.aload_n 0, 1) := by decide +kernel
theorem dX8_write_81 : decode cX8_write 81 = .ok (.iload_n 2, 1) := by decide +kernel
theorem dX8_write_82 : decode cX8_write 82 = .ok (.invokevirtual 161, 3) := by decide +kernel
theorem dX8_write_85 : decode cX8_write 85 = .ok (.iinc 2 1, 3) := by decide +kernel
theorem dX8_write_88 : decode cX8_write 88 = .ok (.goto (-31), 3) := by decide +kernel
theorem dX8_write_91 : decode cX8_write 91 = .ok (.aload_n 0, 1) := by decide +kernel
theorem dX8_write_92 : decode cX8_write 92 = .ok (.invokevirtual 164, 3) := by decide +kernel
theorem dX8_write_95 : decode cX8_write 95 = .ok (.aload_n 0, 1) := by decide +kernel
theorem dX8_write_96 : decode cX8_write 96 = .ok (.getfield 18, 3) := by decide +kernel
theorem dX8_write_99 : decode cX8_write 99 = .ok (.invokevirtual 66, 3) := by decide +kernel
theorem dX8_write_102 : decode cX8_write 102 = .ok (.ireturn, 1) := by decide +kernel
theorem dX8_name_0 : decode cX8_name 0 = .ok (.aload_n 0, 1) := by decide +kernel
theorem dX8_name_1 : decode cX8_name 1 = .ok (.getfield 31, 3) := by decide +kernel
theorem dX8_name_4 : decode cX8_name 4 = .ok (.iload_n 1, 1) := by decide +kernel
theorem dX8_name_5 : decode cX8_name 5 = .ok (.invokevirtual 97, 3) := by decide +kernel
theorem dX8_name_8 : decode cX8_name 8 = .ok (.ifCond .ne 11, 3) := by decide +kernel
theorem dX8_name_11 : decode cX8_name 11 = .ok (.new 101, 3) := by decide +kernel
theorem dX8_name_14 : decode cX8_name 14 = .ok (.dup, 1) := by decide +kernel
theorem dX8_name_15 : decode cX8_name 15 = .ok (.invokespecial 103, 3) := by decide +kernel
theorem dX8_name_18 : decode cX8_name 18 = .ok (.athrow, 1) := by decide +kernel
theorem dX8_name_19 : decode cX8_name 19 = .ok (.aload_n 0, 1) := by decide +kernel
theorem dX8_name_20 : decode cX8_name 20 = .ok (.getfield 38, 3) := by decide +kernel
theorem dX8_name_23 : decode cX8_name 23 = .ok (.iload_n 1, 1) := by decide +kernel
theorem dX8_name_24 : decode cX8_name 24 = .ok (.invokevirtual 119, 3) := by decide +kernel
theorem dX8_name_27 : decode cX8_name 27 = .ok (.istore_n 2, 1) := by decide +kernel
theorem dX8_name_28 : decode cX8_name 28 = .ok (.aload_n 0, 1) := by decide +kernel
theorem dX8_name_29 : decode cX8_name 29 = .ok (.getfield 18, 3) := by decide +kernel
theorem dX8_name_32 : decode cX8_name 32 = .ok (.invokevirtual 94, 3) := by decide +kernel
theorem dX8_name_35 : decode cX8_name 35 = .ok (.aload_n 0, 1) := by decide +kernel
theorem dX8_name_36 : decode cX8_name 36 = .ok (.getfield 18, 3) := by decide +kernel
theorem dX8_name_39 : decode cX8_name 39 = .ok (.aload_n 0, 1) := by decide +kernel
theorem dX8_name_40 : decode cX8_name 40 = .ok (.getfield 31, 3) := by decide +kernel
theorem dX8_name_43 : decode cX8_name 43 = .ok (.invokevirtual 167, 3) := by decide +kernel
theorem dX8_name_46 : decode cX8_name 46 = .ok (.aload_n 0, 1) := by decide +kernel
theorem dX8_name_47 : decode cX8_name 47 = .ok (.getfield 38, 3) := by decide +kernel
theorem dX8_name_50 : decode cX8_name 50 = .ok (.iload_n 2, 1) := by decide +kernel
theorem dX8_name_51 : decode cX8_name 51 = .ok (.invokevirtual 171, 3) := by decide +kernel
theorem dX8_name_54 : decode cX8_name 54 = .ok (.aload_n 0, 1) := by decide +kernel
theorem dX8_name_55 : decode cX8_name 55 = .ok (.getfield 38, 3) := by decide +kernel
theorem dX8_name_58 : decode cX8_name 58 = .ok (.iload_n 2, 1) := by decide +kernel
theorem dX8_name_59 : decode cX8_name 59 = .ok (.invokevirtual 122, 3) := by decide +kernel
theorem dX8_name_62 : decode cX8_name 62 = .ok (.invokevirtual 174, 3) := by decide +kernel
theorem dX8_name_65 : decode cX8_name 65 = .ok (.aload_n 0, 1) := by decide +kernel
theorem dX8_name_66 : decode cX8_name 66 = .ok (.getfield 18, 3) := by decide +kernel
theorem dX8_name_69 : decode cX8_name 69 = .ok (.invokevirtual 66, 3) := by decide +kernel
theorem dX8_name_72 : decode cX8_name 72 = .ok (.ireturn, 1) := by decide +kernel
theorem dX8_out_0 : decode cX8_out 0 = .ok (.iload_n 1, 1) := by decide +kernel
theorem dX8_out_1 : decode cX8_out 1 = .ok (.ifCond .lt 14, 3) := by decide +kernel
theorem dX8_out_4 : decode cX8_out 4 = .ok (.iload_n 1, 1) := by decide +kernel
theorem dX8_out_5 : decode cX8_out 5 = .ok (.aload_n 0, 1) := by decide +kernel
theorem dX8_out_6 : decode cX8_out 6 = .ok (.getfield 18, 3) := by decide +kernel
theorem dX8_out_9 : decode cX8_out 9 = .ok (.invokevirtual 66, 3) := by decide +kernel
theorem dX8_out_12 : decode cX8_out 12 = .ok (.if_icmp .lt 11, 3) := by decide +kernel
theorem dX8_out_15 : decode cX8_out 15 = .ok (.new 101, 3) := by decide +kernel
theorem dX8_out_18 : decode cX8_out 18 = .ok (.dup, 1) := by decide +kernel
theorem dX8_out_19 : decode cX8_out 19 = .ok (.invokespecial 103, 3) := by decide +kernel
theorem dX8_out_22 : decode cX8_out 22 = .ok (.athrow, 1) := by decide +kernel
theorem dX8_out_23 : decode cX8_out 23 = .ok (.aload_n 0, 1) := by decide +kernel
theorem dX8_out_24 : decode cX8_out 24 = .ok (.getfield 18, 3) := by decide +kernel
theorem dX8_out_27 : decode cX8_out 27 = .ok (.iload_n 1, 1) := by decide +kernel
theorem dX8_out_28 : decode cX8_out 28 = .ok (.bipush 8, 2) := by decide +kernel
theorem dX8_out_30 : decode cX8_out 30 = .ok (.invokevirtual 178, 3) := by decide +kernel
theorem dX8_out_33 : decode cX8_out 33 = .ok (.lreturn, 1) := by decide +kernel
theorem dX8_look_0 : decode cX8_look 0 = .ok (.iload_n 1, 1) := by decide +kernel
theorem dX8_look_1 : decode cX8_look 1 = .ok (.tableswitch 99 0 6 #[43, 51, 59, 67, 75, 83, 91], 43) := by decide +kernel
theorem dX8_look_44 : decode cX8_look 44 = .ok (.aload_n 0, 1) := by decide +kernel
theorem dX8_look_45 : decode cX8_look 45 = .ok (.getfield 31, 3) := by decide +kernel
theorem dX8_look_48 : decode cX8_look 48 = .ok (.invokevirtual 148, 3) := by decide +kernel
theorem dX8_look_51 : decode cX8_look 51 = .ok (.ireturn, 1) := by decide +kernel
theorem dX8_look_52 : decode cX8_look 52 = .ok (.aload_n 0, 1) := by decide +kernel
theorem dX8_look_53 : decode cX8_look 53 = .ok (.getfield 52, 3) := by decide +kernel
theorem dX8_look_56 : decode cX8_look 56 = .ok (.invokevirtual 181, 3) := by decide +kernel
theorem dX8_look_59 : decode cX8_look 59 = .ok (.ireturn, 1) := by decide +kernel
theorem dX8_look_60 : decode cX8_look 60 = .ok (.aload_n 0, 1) := by decide +kernel
theorem dX8_look_61 : decode cX8_look 61 = .ok (.getfield 14, 3) := by decide +kernel
theorem dX8_look_64 : decode cX8_look 64 = .ok (.invokevirtual 66, 3) := by decide +kernel
theorem dX8_look_67 : decode cX8_look 67 = .ok (.ireturn, 1) := by decide +kernel
theorem dX8_look_68 : decode cX8_look 68 = .ok (.aload_n 0, 1) := by decide +kernel
theorem dX8_look_69 : decode cX8_look 69 = .ok (.getfield 18, 3) := by decide +kernel
theorem dX8_look_72 : decode cX8_look 72 = .ok (.invokevirtual 66, 3) := by decide +kernel
theorem dX8_look_75 : decode cX8_look 75 = .ok (.ireturn, 1) := by decide +kernel
theorem dX8_look_76 : decode cX8_look 76 = .ok (.aload_n 0, 1) := by decide +kernel
theorem dX8_look_77 : decode cX8_look 77 = .ok (.getfield 24, 3) := by decide +kernel
theorem dX8_look_80 : decode cX8_look 80 = .ok (.invokevirtual 184, 3) := by decide +kernel
theorem dX8_look_83 : decode cX8_look 83 = .ok (.ireturn, 1) := by decide +kernel
theorem dX8_look_84 : decode cX8_look 84 = .ok (.aload_n 0, 1) := by decide +kernel
theorem dX8_look_85 : decode cX8_look 85 = .ok (.getfield 24, 3) := by decide +kernel
theorem dX8_look_88 : decode cX8_look 88 = .ok (.invokevirtual 187, 3) := by decide +kernel
theorem dX8_look_91 : decode cX8_look 91 = .ok (.ireturn, 1) := by decide +kernel
theorem dX8_look_92 : decode cX8_look 92 = .ok (.aload_n 0, 1) := by decide +kernel
theorem dX8_look_93 : decode cX8_look 93 = .ok (.getfield 52, 3) := by decide +kernel
theorem dX8_look_96 : decode cX8_look 96 = .ok (.invokevirtual 190, 3) := by decide +kernel
theorem dX8_look_99 : decode cX8_look 99 = .ok (.ireturn, 1) := by decide +kernel
theorem dX8_look_100 : decode cX8_look 100 = .ok (.new 63, 3) := by decide +kernel
theorem dX8_look_103 : decode cX8_look 103 = .ok (.dup, 1) := by decide +kernel
theorem dX8_look_104 : decode cX8_look 104 = .ok (.invokespecial 65, 3) := by decide +kernel
theorem dX8_look_107 : decode cX8_look 107 = .ok (.athrow, 1) := by decide +kernel
theorem dX8_leastNamedAsTape_0 : decode cX8_leastNamedAsTape 0 = .ok (.iload_n 2, 1) := by decide +kernel
theorem dX8_leastNamedAsTape_1 : decode cX8_leastNamedAsTape 1 = .ok (.istore_n 3, 1) := by decide +kernel
theorem dX8_leastNamedAsTape_2 : decode cX8_leastNamedAsTape 2 = .ok (.iload_n 3, 1) := by decide +kernel
theorem dX8_leastNamedAsTape_3 : decode cX8_leastNamedAsTape 3 = .ok (.aload_n 0, 1) := by decide +kernel
theorem dX8_leastNamedAsTape_4 : decode cX8_leastNamedAsTape 4 = .ok (.getfield 31, 3) := by decide +kernel
theorem dX8_leastNamedAsTape_7 : decode cX8_leastNamedAsTape 7 = .ok (.invokevirtual 148, 3) := by decide +kernel
theorem dX8_leastNamedAsTape_10 : decode cX8_leastNamedAsTape 10 = .ok (.if_icmp .gt 90, 3) := by decide +kernel
theorem dX8_leastNamedAsTape_13 : decode cX8_leastNamedAsTape 13 = .ok (.aload_n 0, 1) := by decide +kernel
theorem dX8_leastNamedAsTape_14 : decode cX8_leastNamedAsTape 14 = .ok (.getfield 38, 3) := by decide +kernel
theorem dX8_leastNamedAsTape_17 : decode cX8_leastNamedAsTape 17 = .ok (.iload_n 3, 1) := by decide +kernel
theorem dX8_leastNamedAsTape_18 : decode cX8_leastNamedAsTape 18 = .ok (.invokevirtual 119, 3) := by decide +kernel
theorem dX8_leastNamedAsTape_21 : decode cX8_leastNamedAsTape 21 = .ok (.istore 4, 2) := by decide +kernel
theorem dX8_leastNamedAsTape_23 : decode cX8_leastNamedAsTape 23 = .ok (.iload_n 1, 1) := by decide +kernel
theorem dX8_leastNamedAsTape_24 : decode cX8_leastNamedAsTape 24 = .ok (.ifCond .eq 15, 3) := by decide +kernel
theorem dX8_leastNamedAsTape_27 : decode cX8_leastNamedAsTape 27 = .ok (.aload_n 0, 1) := by decide +kernel
theorem dX8_leastNamedAsTape_28 : decode cX8_leastNamedAsTape 28 = .ok (.getfield 31, 3) := by decide +kernel
theorem dX8_leastNamedAsTape_31 : decode cX8_leastNamedAsTape 31 = .ok (.iload_n 3, 1) := by decide +kernel
theorem dX8_leastNamedAsTape_32 : decode cX8_leastNamedAsTape 32 = .ok (.invokevirtual 104, 3) := by decide +kernel
theorem dX8_leastNamedAsTape_35 : decode cX8_leastNamedAsTape 35 = .ok (.iload_n 1, 1) := by decide +kernel
theorem dX8_leastNamedAsTape_36 : decode cX8_leastNamedAsTape 36 = .ok (.if_icmp .ne 58, 3) := by decide +kernel
theorem dX8_leastNamedAsTape_39 : decode cX8_leastNamedAsTape 39 = .ok (.aload_n 0, 1) := by decide +kernel
theorem dX8_leastNamedAsTape_40 : decode cX8_leastNamedAsTape 40 = .ok (.getfield 38, 3) := by decide +kernel
theorem dX8_leastNamedAsTape_43 : decode cX8_leastNamedAsTape 43 = .ok (.iload 4, 2) := by decide +kernel
theorem dX8_leastNamedAsTape_45 : decode cX8_leastNamedAsTape 45 = .ok (.invokevirtual 122, 3) := by decide +kernel
theorem dX8_leastNamedAsTape_48 : decode cX8_leastNamedAsTape 48 = .ok (.aload_n 0, 1) := by decide +kernel
theorem dX8_leastNamedAsTape_49 : decode cX8_leastNamedAsTape 49 = .ok (.getfield 14, 3) := by decide +kernel
theorem dX8_leastNamedAsTape_52 : decode cX8_leastNamedAsTape 52 = .ok (.invokevirtual 66, 3) := by decide +kernel
theorem dX8_leastNamedAsTape_55 : decode cX8_leastNamedAsTape 55 = .ok (.if_icmp .ne 39, 3) := by decide +kernel
theorem dX8_leastNamedAsTape_58 : decode cX8_leastNamedAsTape 58 = .ok (.aload_n 0, 1) := by decide +kernel
theorem dX8_leastNamedAsTape_59 : decode cX8_leastNamedAsTape 59 = .ok (.getfield 31, 3) := by decide +kernel
theorem dX8_leastNamedAsTape_62 : decode cX8_leastNamedAsTape 62 = .ok (.invokevirtual 167, 3) := by decide +kernel
theorem dX8_leastNamedAsTape_65 : decode cX8_leastNamedAsTape 65 = .ok (.aload_n 0, 1) := by decide +kernel
theorem dX8_leastNamedAsTape_66 : decode cX8_leastNamedAsTape 66 = .ok (.getfield 38, 3) := by decide +kernel
theorem dX8_leastNamedAsTape_69 : decode cX8_leastNamedAsTape 69 = .ok (.iload 4, 2) := by decide +kernel
theorem dX8_leastNamedAsTape_71 : decode cX8_leastNamedAsTape 71 = .ok (.invokevirtual 171, 3) := by decide +kernel
theorem dX8_leastNamedAsTape_74 : decode cX8_leastNamedAsTape 74 = .ok (.aload_n 0, 1) := by decide +kernel
theorem dX8_leastNamedAsTape_75 : decode cX8_leastNamedAsTape 75 = .ok (.getfield 14, 3) := by decide +kernel
theorem dX8_leastNamedAsTape_78 : decode cX8_leastNamedAsTape 78 = .ok (.iconst 0, 1) := by decide +kernel
theorem dX8_leastNamedAsTape_79 : decode cX8_leastNamedAsTape 79 = .ok (.aload_n 0, 1) := by decide +kernel
theorem dX8_leastNamedAsTape_80 : decode cX8_leastNamedAsTape 80 = .ok (.getfield 14, 3) := by decide +kernel
theorem dX8_leastNamedAsTape_83 : decode cX8_leastNamedAsTape 83 = .ok (.invokevirtual 66, 3) := by decide +kernel
theorem dX8_leastNamedAsTape_86 : decode cX8_leastNamedAsTape 86 = .ok (.invokevirtual 193, 3) := by decide +kernel
theorem dX8_leastNamedAsTape_89 : decode cX8_leastNamedAsTape 89 = .ok (.ifCond .eq 5, 3) := by decide +kernel
theorem dX8_leastNamedAsTape_92 : decode cX8_leastNamedAsTape 92 = .ok (.iload_n 3, 1) := by decide +kernel
theorem dX8_leastNamedAsTape_93 : decode cX8_leastNamedAsTape 93 = .ok (.ireturn, 1) := by decide +kernel
theorem dX8_leastNamedAsTape_94 : decode cX8_leastNamedAsTape 94 = .ok (.iinc 3 1, 3) := by decide +kernel
theorem dX8_leastNamedAsTape_97 : decode cX8_leastNamedAsTape 97 = .ok (.goto (-95), 3) := by decide +kernel
theorem dX8_leastNamedAsTape_100 : decode cX8_leastNamedAsTape 100 = .ok (.iconst 0, 1) := by decide +kernel
theorem dX8_leastNamedAsTape_101 : decode cX8_leastNamedAsTape 101 = .ok (.ireturn, 1) := by decide +kernel
theorem dX8_foldedTypeBytes_0 : decode cX8_foldedTypeBytes 0 = .ok (.iconst 0, 1) := by decide +kernel
theorem dX8_foldedTypeBytes_1 : decode cX8_foldedTypeBytes 1 = .ok (.istore_n 1, 1) := by decide +kernel
theorem dX8_foldedTypeBytes_2 : decode cX8_foldedTypeBytes 2 = .ok (.iconst 1, 1) := by decide +kernel
theorem dX8_foldedTypeBytes_3 : decode cX8_foldedTypeBytes 3 = .ok (.istore_n 2, 1) := by decide +kernel
theorem dX8_foldedTypeBytes_4 : decode cX8_foldedTypeBytes 4 = .ok (.iload_n 2, 1) := by decide +kernel
theorem dX8_foldedTypeBytes_5 : decode cX8_foldedTypeBytes 5 = .ok (.aload_n 0, 1) := by decide +kernel
theorem dX8_foldedTypeBytes_6 : decode cX8_foldedTypeBytes 6 = .ok (.getfield 31, 3) := by decide +kernel
theorem dX8_foldedTypeBytes_9 : decode cX8_foldedTypeBytes 9 = .ok (.invokevirtual 148, 3) := by decide +kernel
theorem dX8_foldedTypeBytes_12 : decode cX8_foldedTypeBytes 12 = .ok (.if_icmp .gt 34, 3) := by decide +kernel
theorem dX8_foldedTypeBytes_15 : decode cX8_foldedTypeBytes 15 = .ok (.aload_n 0, 1) := by decide +kernel
theorem dX8_foldedTypeBytes_16 : decode cX8_foldedTypeBytes 16 = .ok (.getfield 52, 3) := by decide +kernel
theorem dX8_foldedTypeBytes_19 : decode cX8_foldedTypeBytes 19 = .ok (.iload_n 2, 1) := by decide +kernel
theorem dX8_foldedTypeBytes_20 : decode cX8_foldedTypeBytes 20 = .ok (.invokevirtual 125, 3) := by decide +kernel
theorem dX8_foldedTypeBytes_23 : decode cX8_foldedTypeBytes 23 = .ok (.iload_n 2, 1) := by decide +kernel
theorem dX8_foldedTypeBytes_24 : decode cX8_foldedTypeBytes 24 = .ok (.if_icmp .ne 16, 3) := by decide +kernel
theorem dX8_foldedTypeBytes_27 : decode cX8_foldedTypeBytes 27 = .ok (.iload_n 1, 1) := by decide +kernel
theorem dX8_foldedTypeBytes_28 : decode cX8_foldedTypeBytes 28 = .ok (.iconst 4, 1) := by decide +kernel
theorem dX8_foldedTypeBytes_29 : decode cX8_foldedTypeBytes 29 = .ok (.aload_n 0, 1) := by decide +kernel
theorem dX8_foldedTypeBytes_30 : decode cX8_foldedTypeBytes 30 = .ok (.getfield 31, 3) := by decide +kernel
theorem dX8_foldedTypeBytes_33 : decode cX8_foldedTypeBytes 33 = .ok (.iload_n 2, 1) := by decide +kernel
theorem dX8_foldedTypeBytes_34 : decode cX8_foldedTypeBytes 34 = .ok (.invokevirtual 197, 3) := by decide +kernel
theorem dX8_foldedTypeBytes_37 : decode cX8_foldedTypeBytes 37 = .ok (.imul, 1) := by decide +kernel
theorem dX8_foldedTypeBytes_38 : decode cX8_foldedTypeBytes 38 = .ok (.iadd, 1) := by decide +kernel
theorem dX8_foldedTypeBytes_39 : decode cX8_foldedTypeBytes 39 = .ok (.istore_n 1, 1) := by decide +kernel
theorem dX8_foldedTypeBytes_40 : decode cX8_foldedTypeBytes 40 = .ok (.iinc 2 1, 3) := by decide +kernel
theorem dX8_foldedTypeBytes_43 : decode cX8_foldedTypeBytes 43 = .ok (.goto (-39), 3) := by decide +kernel
theorem dX8_foldedTypeBytes_46 : decode cX8_foldedTypeBytes 46 = .ok (.iload_n 1, 1) := by decide +kernel
theorem dX8_foldedTypeBytes_47 : decode cX8_foldedTypeBytes 47 = .ok (.ireturn, 1) := by decide +kernel
theorem dX8_putHead_0 : decode cX8_putHead 0 = .ok (.aload_n 0, 1) := by decide +kernel
theorem dX8_putHead_1 : decode cX8_putHead 1 = .ok (.getfield 18, 3) := by decide +kernel
theorem dX8_putHead_4 : decode cX8_putHead 4 = .ok (.iconst 2, 1) := by decide +kernel
theorem dX8_putHead_5 : decode cX8_putHead 5 = .ok (.ldc2_w 200, 3) := by decide +kernel
theorem dX8_putHead_8 : decode cX8_putHead 8 = .ok (.invokevirtual 73, 3) := by decide +kernel
theorem dX8_putHead_11 : decode cX8_putHead 11 = .ok (.aload_n 0, 1) := by decide +kernel
theorem dX8_putHead_12 : decode cX8_putHead 12 = .ok (.getfield 18, 3) := by decide +kernel
theorem dX8_putHead_15 : decode cX8_putHead 15 = .ok (.iconst 1, 1) := by decide +kernel
theorem dX8_putHead_16 : decode cX8_putHead 16 = .ok (.lconst 1, 1) := by decide +kernel
theorem dX8_putHead_17 : decode cX8_putHead 17 = .ok (.invokevirtual 73, 3) := by decide +kernel
theorem dX8_putHead_20 : decode cX8_putHead 20 = .ok (.aload_n 0, 1) := by decide +kernel
theorem dX8_putHead_21 : decode cX8_putHead 21 = .ok (.getfield 18, 3) := by decide +kernel
theorem dX8_putHead_24 : decode cX8_putHead 24 = .ok (.iconst 1, 1) := by decide +kernel
theorem dX8_putHead_25 : decode cX8_putHead 25 = .ok (.lconst 0, 1) := by decide +kernel
theorem dX8_putHead_26 : decode cX8_putHead 26 = .ok (.invokevirtual 73, 3) := by decide +kernel
theorem dX8_putHead_29 : decode cX8_putHead 29 = .ok (.aload_n 0, 1) := by decide +kernel
theorem dX8_putHead_30 : decode cX8_putHead 30 = .ok (.getfield 18, 3) := by decide +kernel
theorem dX8_putHead_33 : decode cX8_putHead 33 = .ok (.iconst 4, 1) := by decide +kernel
theorem dX8_putHead_34 : decode cX8_putHead 34 = .ok (.ldc2_w 202, 3) := by decide +kernel
theorem dX8_putHead_37 : decode cX8_putHead 37 = .ok (.invokevirtual 73, 3) := by decide +kernel
theorem dX8_putHead_40 : decode cX8_putHead 40 = .ok (.aload_n 0, 1) := by decide +kernel
theorem dX8_putHead_41 : decode cX8_putHead 41 = .ok (.getfield 18, 3) := by decide +kernel
theorem dX8_putHead_44 : decode cX8_putHead 44 = .ok (.iconst 4, 1) := by decide +kernel
theorem dX8_putHead_45 : decode cX8_putHead 45 = .ok (.lconst 0, 1) := by decide +kernel
theorem dX8_putHead_46 : decode cX8_putHead 46 = .ok (.invokevirtual 73, 3) := by decide +kernel
theorem dX8_putHead_49 : decode cX8_putHead 49 = .ok (.aload_n 0, 1) := by decide +kernel
theorem dX8_putHead_50 : decode cX8_putHead 50 = .ok (.getfield 18, 3) := by decide +kernel
theorem dX8_putHead_53 : decode cX8_putHead 53 = .ok (.iconst 4, 1) := by decide +kernel
theorem dX8_putHead_54 : decode cX8_putHead 54 = .ok (.iload_n 1, 1) := by decide +kernel
theorem dX8_putHead_55 : decode cX8_putHead 55 = .ok (.i2l, 1) := by decide +kernel
theorem dX8_putHead_56 : decode cX8_putHead 56 = .ok (.invokevirtual 73, 3) := by decide +kernel
theorem dX8_putHead_59 : decode cX8_putHead 59 = .ok (.aload_n 0, 1) := by decide +kernel
theorem dX8_putHead_60 : decode cX8_putHead 60 = .ok (.getfield 18, 3) := by decide +kernel
theorem dX8_putHead_63 : decode cX8_putHead 63 = .ok (.iconst 4, 1) := by decide +kernel
theorem dX8_putHead_64 : decode cX8_putHead 64 = .ok (.iload_n 1, 1) := by decide +kernel
theorem dX8_putHead_65 : decode cX8_putHead 65 = .ok (.i2l, 1) := by decide +kernel
theorem dX8_putHead_66 : decode cX8_putHead 66 = .ok (.invokevirtual 73, 3) := by decide +kernel
theorem dX8_putHead_69 : decode cX8_putHead 69 = .ok (.aload_n 0, 1) := by decide +kernel
theorem dX8_putHead_70 : decode cX8_putHead 70 = .ok (.getfield 18, 3) := by decide +kernel
theorem dX8_putHead_73 : decode cX8_putHead 73 = .ok (.iconst 4, 1) := by decide +kernel
theorem dX8_putHead_74 : decode cX8_putHead 74 = .ok (.aload_n 0, 1) := by decide +kernel
theorem dX8_putHead_75 : decode cX8_putHead 75 = .ok (.getfield 38, 3) := by decide +kernel
theorem dX8_putHead_78 : decode cX8_putHead 78 = .ok (.invokevirtual 155, 3) := by decide +kernel
theorem dX8_putHead_81 : decode cX8_putHead 81 = .ok (.i2l, 1) := by decide +kernel
theorem dX8_putHead_82 : decode cX8_putHead 82 = .ok (.invokevirtual 73, 3) := by decide +kernel
theorem dX8_putHead_85 : decode cX8_putHead 85 = .ok (.return_, 1) := by decide +kernel
theorem dX8_putType_0 : decode cX8_putType 0 = .ok (.aload_n 0, 1) := by decide +kernel
theorem dX8_putType_1 : decode cX8_putType 1 = .ok (.getfield 31, 3) := by decide +kernel
theorem dX8_putType_4 : decode cX8_putType 4 = .ok (.iload_n 1, 1) := by decide +kernel
theorem dX8_putType_5 : decode cX8_putType 5 = .ok (.invokevirtual 104, 3) := by decide +kernel
theorem dX8_putType_8 : decode cX8_putType 8 = .ok (.istore_n 2, 1) := by decide +kernel
theorem dX8_putType_9 : decode cX8_putType 9 = .ok (.aload_n 0, 1) := by decide +kernel
theorem dX8_putType_10 : decode cX8_putType 10 = .ok (.getfield 38, 3) := by decide +kernel
theorem dX8_putType_13 : decode cX8_putType 13 = .ok (.iload_n 1, 1) := by decide +kernel
theorem dX8_putType_14 : decode cX8_putType 14 = .ok (.invokevirtual 204, 3) := by decide +kernel
theorem dX8_putType_17 : decode cX8_putType 17 = .ok (.istore_n 3, 1) := by decide +kernel
theorem dX8_putType_18 : decode cX8_putType 18 = .ok (.iconst 0, 1) := by decide +kernel
theorem dX8_putType_19 : decode cX8_putType 19 = .ok (.istore 4, 2) := by decide +kernel
theorem dX8_putType_21 : decode cX8_putType 21 = .ok (.iload 4, 2) := by decide +kernel
theorem dX8_putType_23 : decode cX8_putType 23 = .ok (.aload_n 0, 1) := by decide +kernel
theorem dX8_putType_24 : decode cX8_putType 24 = .ok (.getfield 31, 3) := by decide +kernel
theorem dX8_putType_27 : decode cX8_putType 27 = .ok (.iload_n 1, 1) := by decide +kernel
theorem dX8_putType_28 : decode cX8_putType 28 = .ok (.invokevirtual 197, 3) := by decide +kernel
theorem dX8_putType_31 : decode cX8_putType 31 = .ok (.if_icmp .ge 88, 3) := by decide +kernel
theorem dX8_putType_34 : decode cX8_putType 34 = .ok (.aload_n 0, 1) := by decide +kernel
theorem dX8_putType_35 : decode cX8_putType 35 = .ok (.getfield 31, 3) := by decide +kernel
theorem dX8_putType_38 : decode cX8_putType 38 = .ok (.iload_n 1, 1) := by decide +kernel
theorem dX8_putType_39 : decode cX8_putType 39 = .ok (.iload 4, 2) := by decide +kernel
theorem dX8_putType_41 : decode cX8_putType 41 = .ok (.invokevirtual 114, 3) := by decide +kernel
theorem dX8_putType_44 : decode cX8_putType 44 = .ok (.lstore 5, 2) := by decide +kernel
theorem dX8_putType_46 : decode cX8_putType 46 = .ok (.iload_n 2, 1) := by decide +kernel
theorem dX8_putType_47 : decode cX8_putType 47 = .ok (.iload 4, 2) := by decide +kernel
theorem dX8_putType_49 : decode cX8_putType 49 = .ok (.invokestatic 207, 3) := by decide +kernel
theorem dX8_putType_52 : decode cX8_putType 52 = .ok (.istore 7, 2) := by decide +kernel
theorem dX8_putType_54 : decode cX8_putType 54 = .ok (.iload 7, 2) := by decide +kernel
theorem dX8_putType_56 : decode cX8_putType 56 = .ok (.iconst 1, 1) := by decide +kernel
theorem dX8_putType_57 : decode cX8_putType 57 = .ok (.if_icmp .ne 27, 3) := by decide +kernel
theorem dX8_putType_60 : decode cX8_putType 60 = .ok (.aload_n 0, 1) := by decide +kernel
theorem dX8_putType_61 : decode cX8_putType 61 = .ok (.getfield 38, 3) := by decide +kernel
theorem dX8_putType_64 : decode cX8_putType 64 = .ok (.aload_n 0, 1) := by decide +kernel
theorem dX8_putType_65 : decode cX8_putType 65 = .ok (.getfield 38, 3) := by decide +kernel
theorem dX8_putType_68 : decode cX8_putType 68 = .ok (.iload_n 3, 1) := by decide +kernel
theorem dX8_putType_69 : decode cX8_putType 69 = .ok (.invokevirtual 212, 3) := by decide +kernel
theorem dX8_putType_72 : decode cX8_putType 72 = .ok (.invokevirtual 215, 3) := by decide +kernel
theorem dX8_putType_75 : decode cX8_putType 75 = .ok (.i2l, 1) := by decide +kernel
theorem dX8_putType_76 : decode cX8_putType 76 = .ok (.lstore 5, 2) := by decide +kernel
theorem dX8_putType_78 : decode cX8_putType 78 = .ok (.iinc 3 1, 3) := by decide +kernel
theorem dX8_putType_81 : decode cX8_putType 81 = .ok (.goto 22, 3) := by decide +kernel
theorem dX8_putType_84 : decode cX8_putType 84 = .ok (.iload 7, 2) := by decide +kernel
theorem dX8_putType_86 : decode cX8_putType 86 = .ok (.iconst 2, 1) := by decide +kernel
theorem dX8_putType_87 : decode cX8_putType 87 = .ok (.if_icmp .ne 16, 3) := by decide +kernel
theorem dX8_putType_90 : decode cX8_putType 90 = .ok (.aload_n 0, 1) := by decide +kernel
theorem dX8_putType_91 : decode cX8_putType 91 = .ok (.getfield 52, 3) := by decide +kernel
theorem dX8_putType_94 : decode cX8_putType 94 = .ok (.lload 5, 2) := by decide +kernel
theorem dX8_putType_96 : decode cX8_putType 96 = .ok (.l2i, 1) := by decide +kernel
theorem dX8_putType_97 : decode cX8_putType 97 = .ok (.invokevirtual 128, 3) := by decide +kernel
theorem dX8_putType_100 : decode cX8_putType 100 = .ok (.i2l, 1) := by decide +kernel
theorem dX8_putType_101 : decode cX8_putType 101 = .ok (.lstore 5, 2) := by decide +kernel
theorem dX8_putType_103 : decode cX8_putType 103 = .ok (.aload_n 0, 1) := by decide +kernel
theorem dX8_putType_104 : decode cX8_putType 104 = .ok (.getfield 18, 3) := by decide +kernel
theorem dX8_putType_107 : decode cX8_putType 107 = .ok (.iconst 4, 1) := by decide +kernel
theorem dX8_putType_108 : decode cX8_putType 108 = .ok (.lload 5, 2) := by decide +kernel
theorem dX8_putType_110 : decode cX8_putType 110 = .ok (.invokevirtual 73, 3) := by decide +kernel
theorem dX8_putType_113 : decode cX8_putType 113 = .ok (.iinc 4 1, 3) := by decide +kernel
theorem dX8_putType_116 : decode cX8_putType 116 = .ok (.goto (-95), 3) := by decide +kernel
theorem dX8_putType_119 : decode cX8_putType 119 = .ok (.return_, 1) := by decide +kernel
theorem dX8_putStrings_0 : decode cX8_putStrings 0 = .ok (.aload_n 0, 1) := by decide +kernel
theorem dX8_putStrings_1 : decode cX8_putStrings 1 = .ok (.getfield 18, 3) := by decide +kernel
theorem dX8_putStrings_4 : decode cX8_putStrings 4 = .ok (.iconst 1, 1) := by decide +kernel
theorem dX8_putStrings_5 : decode cX8_putStrings 5 = .ok (.lconst 0, 1) := by decide +kernel
theorem dX8_putStrings_6 : decode cX8_putStrings 6 = .ok (.invokevirtual 73, 3) := by decide +kernel
theorem dX8_putStrings_9 : decode cX8_putStrings 9 = .ok (.iconst 1, 1) := by decide +kernel
theorem dX8_putStrings_10 : decode cX8_putStrings 10 = .ok (.istore_n 1, 1) := by decide +kernel
theorem dX8_putStrings_11 : decode cX8_putStrings 11 = .ok (.iload_n 1, 1) := by decide +kernel
theorem dX8_putStrings_12 : decode cX8_putStrings 12 = .ok (.aload_n 0, 1) := by decide +kernel
theorem dX8_putStrings_13 : decode cX8_putStrings 13 = .ok (.getfield 38, 3) := by decide +kernel
theorem dX8_putStrings_16 : decode cX8_putStrings 16 = .ok (.invokevirtual 218, 3) := by decide +kernel
theorem dX8_putStrings_19 : decode cX8_putStrings 19 = .ok (.if_icmp .gt 48, 3) := by decide +kernel
theorem dX8_putStrings_22 : decode cX8_putStrings 22 = .ok (.aload_n 0, 1) := by decide +kernel
theorem dX8_putStrings_23 : decode cX8_putStrings 23 = .ok (.getfield 18, 3) := by decide +kernel
theorem dX8_putStrings_26 : decode cX8_putStrings 26 = .ok (.aload_n 0, 1) := by decide +kernel
theorem dX8_putStrings_27 : decode cX8_putStrings 27 = .ok (.getfield 31, 3) := by decide +kernel
theorem dX8_putStrings_30 : decode cX8_putStrings 30 = .ok (.invokevirtual 167, 3) := by decide +kernel
theorem dX8_putStrings_33 : decode cX8_putStrings 33 = .ok (.aload_n 0, 1) := by decide +kernel
theorem dX8_putStrings_34 : decode cX8_putStrings 34 = .ok (.getfield 38, 3) := by decide +kernel
theorem dX8_putStrings_37 : decode cX8_putStrings 37 = .ok (.iload_n 1, 1) := by decide +kernel
theorem dX8_putStrings_38 : decode cX8_putStrings 38 = .ok (.invokevirtual 171, 3) := by decide +kernel
theorem dX8_putStrings_41 : decode cX8_putStrings 41 = .ok (.aload_n 0, 1) := by decide +kernel
theorem dX8_putStrings_42 : decode cX8_putStrings 42 = .ok (.getfield 38, 3) := by decide +kernel
theorem dX8_putStrings_45 : decode cX8_putStrings 45 = .ok (.iload_n 1, 1) := by decide +kernel
theorem dX8_putStrings_46 : decode cX8_putStrings 46 = .ok (.invokevirtual 122, 3) := by decide +kernel
theorem dX8_putStrings_49 : decode cX8_putStrings 49 = .ok (.invokevirtual 174, 3) := by decide +kernel
theorem dX8_putStrings_52 : decode cX8_putStrings 52 = .ok (.aload_n 0, 1) := by decide +kernel
theorem dX8_putStrings_53 : decode cX8_putStrings 53 = .ok (.getfield 18, 3) := by decide +kernel
theorem dX8_putStrings_56 : decode cX8_putStrings 56 = .ok (.iconst 1, 1) := by decide +kernel
theorem dX8_putStrings_57 : decode cX8_putStrings 57 = .ok (.lconst 0, 1) := by decide +kernel
theorem dX8_putStrings_58 : decode cX8_putStrings 58 = .ok (.invokevirtual 73, 3) := by decide +kernel
theorem dX8_putStrings_61 : decode cX8_putStrings 61 = .ok (.iinc 1 1, 3) := by decide +kernel
theorem dX8_putStrings_64 : decode cX8_putStrings 64 = .ok (.goto (-53), 3) := by decide +kernel
theorem dX8_putStrings_67 : decode cX8_putStrings 67 = .ok (.return_, 1) := by decide +kernel
