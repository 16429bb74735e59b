set_option maxRecDepth 20000 in
theorem mX9_init : Cond.code yX9_init cX9_init 1 none ∈ gTbl ∧ Cond.initialized yX9_init.cls ∈ gTbl ∧ (yX9_init.cls ≠ "java/lang/invoke/MethodHandle" ∧ yX9_init.cls ≠ "java/lang/invoke/VarHandle" ∧ (parseMethodDescriptor yX9_init.desc).map (fun d => d.parameters.length) = some 0) ∧ 1 ≤ 15 := ⟨g_in 816 rfl rfl, g_in 54 (by decide +kernel) (by decide +kernel), ⟨by decide +kernel, by decide +kernel, by decide +kernel⟩, by decide⟩
theorem iX9_init : Cond.instanceMethod yX9_init ∈ gTbl := g_in 815 (by decide +kernel) (by decide +kernel)
theorem kX9_1 : Cond.methodLink RX9 1 objectInit ∈ gTbl := g_in 817 (by decide +kernel) (by decide +kernel)
theorem kX9_95 : Cond.constant RX9 95 (40804) ∈ gTbl := g_in 818 (by decide +kernel) (by decide +kernel)
theorem kX9_118 : Cond.fieldLink RX9 118 "TypeFoldModel" "thrown" "I" ∈ gTbl := g_in 819 (by decide +kernel) (by decide +kernel)
theorem kX9_7 : Cond.fieldLink RX9 7 "TypeFoldModel" "tape" "[I" ∈ gTbl := g_in 820 (by decide +kernel) (by decide +kernel)
theorem kX9_131 : Cond.fieldLink RX9 131 "TypeFoldModel" "taped" "I" ∈ gTbl := g_in 821 (by decide +kernel) (by decide +kernel)
theorem kX9_13 : Cond.fieldLink RX9 13 "TypeFoldModel" "output" "[I" ∈ gTbl := g_in 822 (by decide +kernel) (by decide +kernel)
theorem kX9_16 : Cond.fieldLink RX9 16 "TypeFoldModel" "draft" "[I" ∈ gTbl := g_in 823 (by decide +kernel) (by decide +kernel)
theorem kX9_284 : Cond.fieldLink RX9 284 "TypeFoldModel" "written" "I" ∈ gTbl := g_in 824 (by decide +kernel) (by decide +kernel)
theorem kX9_197 : Cond.fieldLink RX9 197 "TypeFoldModel" "error" "I" ∈ gTbl := g_in 825 (by decide +kernel) (by decide +kernel)
theorem kX9_122 : Cond.fieldLink RX9 122 "TypeFoldModel" "stands" "I" ∈ gTbl := g_in 826 (by decide +kernel) (by decide +kernel)
theorem kX9_203 : Cond.fieldLink RX9 203 "TypeFoldModel" "many" "I" ∈ gTbl := g_in 827 (by decide +kernel) (by decide +kernel)
theorem kX9_19 : Cond.fieldLink RX9 19 "TypeFoldModel" "letters" "[I" ∈ gTbl := g_in 828 (by decide +kernel) (by decide +kernel)
theorem kX9_22 : Cond.fieldLink RX9 22 "TypeFoldModel" "name" "[I" ∈ gTbl := g_in 829 (by decide +kernel) (by decide +kernel)
theorem kX9_25 : Cond.fieldLink RX9 25 "TypeFoldModel" "kind" "[I" ∈ gTbl := g_in 830 (by decide +kernel) (by decide +kernel)
theorem kX9_28 : Cond.fieldLink RX9 28 "TypeFoldModel" "vary" "[I" ∈ gTbl := g_in 831 (by decide +kernel) (by decide +kernel)
theorem kX9_31 : Cond.fieldLink RX9 31 "TypeFoldModel" "flag" "[I" ∈ gTbl := g_in 832 (by decide +kernel) (by decide +kernel)
theorem kX9_34 : Cond.fieldLink RX9 34 "TypeFoldModel" "rest" "[J" ∈ gTbl := g_in 833 (by decide +kernel) (by decide +kernel)
theorem kX9_38 : Cond.fieldLink RX9 38 "TypeFoldModel" "more" "[J" ∈ gTbl := g_in 834 (by decide +kernel) (by decide +kernel)
theorem kX9_41 : Cond.fieldLink RX9 41 "TypeFoldModel" "one" "[J" ∈ gTbl := g_in 835 (by decide +kernel) (by decide +kernel)
theorem kX9_44 : Cond.fieldLink RX9 44 "TypeFoldModel" "two" "[J" ∈ gTbl := g_in 836 (by decide +kernel) (by decide +kernel)
theorem kX9_47 : Cond.fieldLink RX9 47 "TypeFoldModel" "begin" "[I" ∈ gTbl := g_in 837 (by decide +kernel) (by decide +kernel)
theorem kX9_50 : Cond.fieldLink RX9 50 "TypeFoldModel" "partName" "[I" ∈ gTbl := g_in 838 (by decide +kernel) (by decide +kernel)
theorem kX9_53 : Cond.fieldLink RX9 53 "TypeFoldModel" "partType" "[J" ∈ gTbl := g_in 839 (by decide +kernel) (by decide +kernel)
theorem kX9_56 : Cond.fieldLink RX9 56 "TypeFoldModel" "partNumber" "[J" ∈ gTbl := g_in 840 (by decide +kernel) (by decide +kernel)
theorem kX9_125 : Cond.fieldLink RX9 125 "TypeFoldModel" "nextMany" "I" ∈ gTbl := g_in 841 (by decide +kernel) (by decide +kernel)
theorem kX9_128 : Cond.fieldLink RX9 128 "TypeFoldModel" "nextParts" "I" ∈ gTbl := g_in 842 (by decide +kernel) (by decide +kernel)
theorem kX9_59 : Cond.fieldLink RX9 59 "TypeFoldModel" "nextName" "[I" ∈ gTbl := g_in 843 (by decide +kernel) (by decide +kernel)
theorem kX9_62 : Cond.fieldLink RX9 62 "TypeFoldModel" "nextKind" "[I" ∈ gTbl := g_in 844 (by decide +kernel) (by decide +kernel)
theorem kX9_65 : Cond.fieldLink RX9 65 "TypeFoldModel" "nextVary" "[I" ∈ gTbl := g_in 845 (by decide +kernel) (by decide +kernel)
theorem kX9_68 : Cond.fieldLink RX9 68 "TypeFoldModel" "nextFlag" "[I" ∈ gTbl := g_in 846 (by decide +kernel) (by decide +kernel)
theorem kX9_71 : Cond.fieldLink RX9 71 "TypeFoldModel" "nextRest" "[J" ∈ gTbl := g_in 847 (by decide +kernel) (by decide +kernel)
theorem kX9_74 : Cond.fieldLink RX9 74 "TypeFoldModel" "nextMore" "[J" ∈ gTbl := g_in 848 (by decide +kernel) (by decide +kernel)
theorem kX9_77 : Cond.fieldLink RX9 77 "TypeFoldModel" "nextOne" "[J" ∈ gTbl := g_in 849 (by decide +kernel) (by decide +kernel)
theorem kX9_80 : Cond.fieldLink RX9 80 "TypeFoldModel" "nextTwo" "[J" ∈ gTbl := g_in 850 (by decide +kernel) (by decide +kernel)
theorem kX9_83 : Cond.fieldLink RX9 83 "TypeFoldModel" "nextBegin" "[I" ∈ gTbl := g_in 851 (by decide +kernel) (by decide +kernel)
theorem kX9_86 : Cond.fieldLink RX9 86 "TypeFoldModel" "nextPartName" "[I" ∈ gTbl := g_in 852 (by decide +kernel) (by decide +kernel)
theorem kX9_89 : Cond.fieldLink RX9 89 "TypeFoldModel" "nextPartType" "[J" ∈ gTbl := g_in 853 (by decide +kernel) (by decide +kernel)
theorem kX9_92 : Cond.fieldLink RX9 92 "TypeFoldModel" "nextPartNumber" "[J" ∈ gTbl := g_in 854 (by decide +kernel) (by decide +kernel)
theorem kX9_96 : Cond.fieldLink RX9 96 "TypeFoldModel" "apart" "[I" ∈ gTbl := g_in 855 (by decide +kernel) (by decide +kernel)
theorem kX9_99 : Cond.fieldLink RX9 99 "TypeFoldModel" "leader" "[I" ∈ gTbl := g_in 856 (by decide +kernel) (by decide +kernel)
theorem kX9_102 : Cond.fieldLink RX9 102 "TypeFoldModel" "number" "[I" ∈ gTbl := g_in 857 (by decide +kernel) (by decide +kernel)
theorem kX9_209 : Cond.fieldLink RX9 209 "TypeFoldModel" "classes" "I" ∈ gTbl := g_in 858 (by decide +kernel) (by decide +kernel)
theorem kX9_142 : Cond.fieldLink RX9 142 "TypeFoldModel" "stringsAt" "I" ∈ gTbl := g_in 859 (by decide +kernel) (by decide +kernel)
theorem kX9_145 : Cond.fieldLink RX9 145 "TypeFoldModel" "stringsEnd" "I" ∈ gTbl := g_in 860 (by decide +kernel) (by decide +kernel)
theorem kX9_105 : Cond.fieldLink RX9 105 "TypeFoldModel" "way" "[I" ∈ gTbl := g_in 861 (by decide +kernel) (by decide +kernel)
theorem kX9_108 : Cond.fieldLink RX9 108 "TypeFoldModel" "seen" "[Z" ∈ gTbl := g_in 862 (by decide +kernel) (by decide +kernel)
theorem kX9_260 : Cond.fieldLink RX9 260 "TypeFoldModel" "drafted" "I" ∈ gTbl := g_in 863 (by decide +kernel) (by decide +kernel)
theorem kX9_112 : Cond.fieldLink RX9 112 "TypeFoldModel" "told" "[I" ∈ gTbl := g_in 864 (by decide +kernel) (by decide +kernel)
theorem kX9_115 : Cond.fieldLink RX9 115 "TypeFoldModel" "toldAt" "[I" ∈ gTbl := g_in 865 (by decide +kernel) (by decide +kernel)
theorem kX9_263 : Cond.fieldLink RX9 263 "TypeFoldModel" "tolds" "I" ∈ gTbl := g_in 866 (by decide +kernel) (by decide +kernel)
theorem kX9_266 : Cond.fieldLink RX9 266 "TypeFoldModel" "stringsSize" "I" ∈ gTbl := g_in 867 (by decide +kernel) (by decide +kernel)
set_option maxRecDepth 20000 in
theorem mX9_thrown : Cond.code yX9_thrown cX9_thrown 1 ((some .int)) ∈ gTbl ∧ Cond.initialized yX9_thrown.cls ∈ gTbl ∧ (yX9_thrown.cls ≠ "java/lang/invoke/MethodHandle" ∧ yX9_thrown.cls ≠ "java/lang/invoke/VarHandle" ∧ (parseMethodDescriptor yX9_thrown.desc).map (fun d => d.parameters.length) = some 0) ∧ 1 ≤ 15 := ⟨g_in 970 rfl rfl, g_in 54 (by decide +kernel) (by decide +kernel), ⟨by decide +kernel, by decide +kernel, by decide +kernel⟩, by decide⟩
theorem iX9_thrown : Cond.instanceMethod yX9_thrown ∈ gTbl := g_in 968 (by decide +kernel) (by decide +kernel)
theorem sX9_thrown : Cond.selects yX9_thrown.cls yX9_thrown yX9_thrown ∈ gTbl := g_in 969 (by decide +kernel) (by decide +kernel)
set_option maxRecDepth 20000 in
theorem mX9_load : Cond.code yX9_load cX9_load 1 ((some .int)) ∈ gTbl ∧ Cond.initialized yX9_load.cls ∈ gTbl ∧ (yX9_load.cls ≠ "java/lang/invoke/MethodHandle" ∧ yX9_load.cls ≠ "java/lang/invoke/VarHandle" ∧ (parseMethodDescriptor yX9_load.desc).map (fun d => d.parameters.length) = some 0) ∧ 1 ≤ 15 := ⟨g_in 974 rfl rfl, g_in 54 (by decide +kernel) (by decide +kernel), ⟨by decide +kernel, by decide +kernel, by decide +kernel⟩, by decide⟩
theorem iX9_load : Cond.instanceMethod yX9_load ∈ gTbl := g_in 972 (by decide +kernel) (by decide +kernel)
theorem sX9_load : Cond.selects yX9_load.cls yX9_load yX9_load ∈ gTbl := g_in 973 (by decide +kernel) (by decide +kernel)
theorem kX9_193 : Cond.methodLink RX9 193 yX9_reads ∈ gTbl := g_in 975 (by decide +kernel) (by decide +kernel)
set_option maxRecDepth 20000 in
theorem mX9_reads : Cond.code yX9_reads cX9_reads 8 ((some .int)) ∈ gTbl ∧ Cond.initialized yX9_reads.cls ∈ gTbl ∧ (yX9_reads.cls ≠ "java/lang/invoke/MethodHandle" ∧ yX9_reads.cls ≠ "java/lang/invoke/VarHandle" ∧ (parseMethodDescriptor yX9_reads.desc).map (fun d => d.parameters.length) = some 0) ∧ 8 ≤ 15 := ⟨g_in 978 rfl rfl, g_in 54 (by decide +kernel) (by decide +kernel), ⟨by decide +kernel, by decide +kernel, by decide +kernel⟩, by decide⟩
theorem iX9_reads : Cond.instanceMethod yX9_reads ∈ gTbl := g_in 977 (by decide +kernel) (by decide +kernel)
theorem sX9_reads : Cond.selects yX9_reads.cls yX9_reads yX9_reads ∈ gTbl := g_in 21 (by decide +kernel) (by decide +kernel)
theorem kX9_134 : Cond.methodLink RX9 134 yX9_get ∈ gTbl := g_in 979 (by decide +kernel) (by decide +kernel)
set_option maxRecDepth 20000 in
theorem mX9_get : Cond.code yX9_get cX9_get 6 ((some .long)) ∈ gTbl ∧ Cond.initialized yX9_get.cls ∈ gTbl ∧ (yX9_get.cls ≠ "java/lang/invoke/MethodHandle" ∧ yX9_get.cls ≠ "java/lang/invoke/VarHandle" ∧ (parseMethodDescriptor yX9_get.desc).map (fun d => d.parameters.length) = some 2) ∧ 6 ≤ 15 := ⟨g_in 982 rfl rfl, g_in 54 (by decide +kernel) (by decide +kernel), ⟨by decide +kernel, by decide +kernel, by decide +kernel⟩, by decide⟩
theorem iX9_get : Cond.instanceMethod yX9_get ∈ gTbl := g_in 981 (by decide +kernel) (by decide +kernel)
theorem sX9_get : Cond.selects yX9_get.cls yX9_get yX9_get ∈ gTbl := g_in 22 (by decide +kernel) (by decide +kernel)
theorem kX9_138 : Cond.constantLong RX9 138 (60319) ∈ gTbl := g_in 983 (by decide +kernel) (by decide +kernel)
theorem kX9_140 : Cond.constantLong RX9 140 (24) ∈ gTbl := g_in 984 (by decide +kernel) (by decide +kernel)
theorem kX9_148 : Cond.constantLong RX9 148 (31) ∈ gTbl := g_in 985 (by decide +kernel) (by decide +kernel)
theorem kX9_150 : Cond.methodLink RX9 150 yX9_behind ∈ gTbl := g_in 986 (by decide +kernel) (by decide +kernel)
set_option maxRecDepth 20000 in
theorem mX9_behind : Cond.code yX9_behind cX9_behind 2 ((some .int)) ∈ gTbl ∧ Cond.initialized yX9_behind.cls ∈ gTbl ∧ (yX9_behind.cls ≠ "java/lang/invoke/MethodHandle" ∧ yX9_behind.cls ≠ "java/lang/invoke/VarHandle" ∧ (parseMethodDescriptor yX9_behind.desc).map (fun d => d.parameters.length) = some 2) ∧ 2 ≤ 15 := ⟨g_in 988 rfl rfl, g_in 54 (by decide +kernel) (by decide +kernel), ⟨by decide +kernel, by decide +kernel, by decide +kernel⟩, by decide⟩
theorem iX9_behind : Cond.static yX9_behind ∈ gTbl := g_in 987 (by decide +kernel) (by decide +kernel)
theorem kX9_154 : Cond.methodLink RX9 154 yX9_isTold ∈ gTbl := g_in 989 (by decide +kernel) (by decide +kernel)
set_option maxRecDepth 20000 in
theorem mX9_isTold : Cond.code yX9_isTold cX9_isTold 10 ((some .boolean)) ∈ gTbl ∧ Cond.initialized yX9_isTold.cls ∈ gTbl ∧ (yX9_isTold.cls ≠ "java/lang/invoke/MethodHandle" ∧ yX9_isTold.cls ≠ "java/lang/invoke/VarHandle" ∧ (parseMethodDescriptor yX9_isTold.desc).map (fun d => d.parameters.length) = some 1) ∧ 10 ≤ 15 := ⟨g_in 992 rfl rfl, g_in 54 (by decide +kernel) (by decide +kernel), ⟨by decide +kernel, by decide +kernel, by decide +kernel⟩, by decide⟩
theorem iX9_isTold : Cond.instanceMethod yX9_isTold ∈ gTbl := g_in 991 (by decide +kernel) (by decide +kernel)
theorem sX9_isTold : Cond.selects yX9_isTold.cls yX9_isTold yX9_isTold ∈ gTbl := g_in 23 (by decide +kernel) (by decide +kernel)
theorem kX9_166 : Cond.constantLong RX9 166 (4) ∈ gTbl := g_in 993 (by decide +kernel) (by decide +kernel)
theorem kX9_172 : Cond.constantLong RX9 172 (7) ∈ gTbl := g_in 994 (by decide +kernel) (by decide +kernel)
theorem kX9_174 : Cond.methodLink RX9 174 yX9_in ∈ gTbl := g_in 995 (by decide +kernel) (by decide +kernel)
set_option maxRecDepth 20000 in
theorem mX9_in : Cond.code yX9_in cX9_in 6 ((some .boolean)) ∈ gTbl ∧ Cond.initialized yX9_in.cls ∈ gTbl ∧ (yX9_in.cls ≠ "java/lang/invoke/MethodHandle" ∧ yX9_in.cls ≠ "java/lang/invoke/VarHandle" ∧ (parseMethodDescriptor yX9_in.desc).map (fun d => d.parameters.length) = some 3) ∧ 6 ≤ 15 := ⟨g_in 997 rfl rfl, g_in 54 (by decide +kernel) (by decide +kernel), ⟨by decide +kernel, by decide +kernel, by decide +kernel⟩, by decide⟩
theorem iX9_in : Cond.static yX9_in ∈ gTbl := g_in 996 (by decide +kernel) (by decide +kernel)
theorem kX9_178 : Cond.methodLink RX9 178 yX9_isPower ∈ gTbl := g_in 998 (by decide +kernel) (by decide +kernel)
set_option maxRecDepth 20000 in
theorem mX9_isPower : Cond.code yX9_isPower cX9_isPower 3 ((some .boolean)) ∈ gTbl ∧ Cond.initialized yX9_isPower.cls ∈ gTbl ∧ (yX9_isPower.cls ≠ "java/lang/invoke/MethodHandle" ∧ yX9_isPower.cls ≠ "java/lang/invoke/VarHandle" ∧ (parseMethodDescriptor yX9_isPower.desc).map (fun d => d.parameters.length) = some 2) ∧ 3 ≤ 15 := ⟨g_in 1000 rfl rfl, g_in 54 (by decide +kernel) (by decide +kernel), ⟨by decide +kernel, by decide +kernel, by decide +kernel⟩, by decide⟩
theorem iX9_isPower : Cond.static yX9_isPower ∈ gTbl := g_in 999 (by decide +kernel) (by decide +kernel)
theorem kX9_164 : Cond.constantLong RX9 164 (2) ∈ gTbl := g_in 1001 (by decide +kernel) (by decide +kernel)
theorem kX9_168 : Cond.constantLong RX9 168 (8) ∈ gTbl := g_in 1002 (by decide +kernel) (by decide +kernel)
theorem kX9_170 : Cond.constantLong RX9 170 (16) ∈ gTbl := g_in 1003 (by decide +kernel) (by decide +kernel)
theorem kX9_158 : Cond.methodLink RX9 158 yX9_takes ∈ gTbl := g_in 1004 (by decide +kernel) (by decide +kernel)
set_option maxRecDepth 20000 in
theorem mX9_takes : Cond.code yX9_takes cX9_takes 13 ((some .boolean)) ∈ gTbl ∧ Cond.initialized yX9_takes.cls ∈ gTbl ∧ (yX9_takes.cls ≠ "java/lang/invoke/MethodHandle" ∧ yX9_takes.cls ≠ "java/lang/invoke/VarHandle" ∧ (parseMethodDescriptor yX9_takes.desc).map (fun d => d.parameters.length) = some 1) ∧ 13 ≤ 15 := ⟨g_in 1007 rfl rfl, g_in 54 (by decide +kernel) (by decide +kernel), ⟨by decide +kernel, by decide +kernel, by decide +kernel⟩, by decide⟩
theorem iX9_takes : Cond.instanceMethod yX9_takes ∈ gTbl := g_in 1006 (by decide +kernel) (by decide +kernel)
theorem sX9_takes : Cond.selects yX9_takes.cls yX9_takes yX9_takes ∈ gTbl := g_in 24 (by decide +kernel) (by decide +kernel)
theorem kX9_182 : Cond.methodLink RX9 182 yX9_isWithin ∈ gTbl := g_in 1008 (by decide +kernel) (by decide +kernel)
set_option maxRecDepth 20000 in
theorem mX9_isWithin : Cond.code yX9_isWithin cX9_isWithin 3 ((some .boolean)) ∈ gTbl ∧ Cond.initialized yX9_isWithin.cls ∈ gTbl ∧ (yX9_isWithin.cls ≠ "java/lang/invoke/MethodHandle" ∧ yX9_isWithin.cls ≠ "java/lang/invoke/VarHandle" ∧ (parseMethodDescriptor yX9_isWithin.desc).map (fun d => d.parameters.length) = some 1) ∧ 3 ≤ 15 := ⟨g_in 1011 rfl rfl, g_in 54 (by decide +kernel) (by decide +kernel), ⟨by decide +kernel, by decide +kernel, by decide +kernel⟩, by decide⟩
theorem iX9_isWithin : Cond.instanceMethod yX9_isWithin ∈ gTbl := g_in 1010 (by decide +kernel) (by decide +kernel)
theorem sX9_isWithin : Cond.selects yX9_isWithin.cls yX9_isWithin yX9_isWithin ∈ gTbl := g_in 25 (by decide +kernel) (by decide +kernel)
theorem kX9_186 : Cond.constantLong RX9 186 (9) ∈ gTbl := g_in 1012 (by decide +kernel) (by decide +kernel)
theorem kX9_188 : Cond.constantLong RX9 188 (11) ∈ gTbl := g_in 1013 (by decide +kernel) (by decide +kernel)
theorem kX9_161 : Cond.methodLink RX9 161 yX9_tellsKnown ∈ gTbl := g_in 1014 (by decide +kernel) (by decide +kernel)
set_option maxRecDepth 20000 in
theorem mX9_tellsKnown : Cond.code yX9_tellsKnown cX9_tellsKnown 5 ((some .boolean)) ∈ gTbl ∧ Cond.initialized yX9_tellsKnown.cls ∈ gTbl ∧ (yX9_tellsKnown.cls ≠ "java/lang/invoke/MethodHandle" ∧ yX9_tellsKnown.cls ≠ "java/lang/invoke/VarHandle" ∧ (parseMethodDescriptor yX9_tellsKnown.desc).map (fun d => d.parameters.length) = some 1) ∧ 5 ≤ 15 := ⟨g_in 1017 rfl rfl, g_in 54 (by decide +kernel) (by decide +kernel), ⟨by decide +kernel, by decide +kernel, by decide +kernel⟩, by decide⟩
theorem iX9_tellsKnown : Cond.instanceMethod yX9_tellsKnown ∈ gTbl := g_in 1016 (by decide +kernel) (by decide +kernel)
theorem sX9_tellsKnown : Cond.selects yX9_tellsKnown.cls yX9_tellsKnown yX9_tellsKnown ∈ gTbl := g_in 26 (by decide +kernel) (by decide +kernel)
theorem kX9_190 : Cond.methodLink RX9 190 yX9_tellsRest ∈ gTbl := g_in 1018 (by decide +kernel) (by decide +kernel)
set_option maxRecDepth 20000 in
theorem mX9_tellsRest : Cond.code yX9_tellsRest cX9_tellsRest 1 ((some .boolean)) ∈ gTbl ∧ Cond.initialized yX9_tellsRest.cls ∈ gTbl ∧ (yX9_tellsRest.cls ≠ "java/lang/invoke/MethodHandle" ∧ yX9_tellsRest.cls ≠ "java/lang/invoke/VarHandle" ∧ (parseMethodDescriptor yX9_tellsRest.desc).map (fun d => d.parameters.length) = some 1) ∧ 1 ≤ 15 := ⟨g_in 1020 rfl rfl, g_in 54 (by decide +kernel) (by decide +kernel), ⟨by decide +kernel, by decide +kernel, by decide +kernel⟩, by decide⟩
theorem iX9_tellsRest : Cond.static yX9_tellsRest ∈ gTbl := g_in 1019 (by decide +kernel) (by decide +kernel)
theorem kX9_200 : Cond.methodLink RX9 200 yX9_becomes ∈ gTbl := g_in 1021 (by decide +kernel) (by decide +kernel)
set_option maxRecDepth 20000 in
theorem mX9_becomes : Cond.code yX9_becomes cX9_becomes 3 none ∈ gTbl ∧ Cond.initialized yX9_becomes.cls ∈ gTbl ∧ (yX9_becomes.cls ≠ "java/lang/invoke/MethodHandle" ∧ yX9_becomes.cls ≠ "java/lang/invoke/VarHandle" ∧ (parseMethodDescriptor yX9_becomes.desc).map (fun d => d.parameters.length) = some 0) ∧ 3 ≤ 15 := ⟨g_in 1024 rfl rfl, g_in 54 (by decide +kernel) (by decide +kernel), ⟨by decide +kernel, by decide +kernel, by decide +kernel⟩, by decide⟩
theorem iX9_becomes : Cond.instanceMethod yX9_becomes ∈ gTbl := g_in 1023 (by decide +kernel) (by decide +kernel)
theorem sX9_becomes : Cond.selects yX9_becomes.cls yX9_becomes yX9_becomes ∈ gTbl := g_in 27 (by decide +kernel) (by decide +kernel)
theorem kX9_206 : Cond.methodLink RX9 206 yX9_parts ∈ gTbl := g_in 1025 (by decide +kernel) (by decide +kernel)
set_option maxRecDepth 20000 in
theorem mX9_parts : Cond.code yX9_parts cX9_parts 5 none ∈ gTbl ∧ Cond.initialized yX9_parts.cls ∈ gTbl ∧ (yX9_parts.cls ≠ "java/lang/invoke/MethodHandle" ∧ yX9_parts.cls ≠ "java/lang/invoke/VarHandle" ∧ (parseMethodDescriptor yX9_parts.desc).map (fun d => d.parameters.length) = some 0) ∧ 5 ≤ 15 := ⟨g_in 1028 rfl rfl, g_in 54 (by decide +kernel) (by decide +kernel), ⟨by decide +kernel, by decide +kernel, by decide +kernel⟩, by decide⟩
theorem iX9_parts : Cond.instanceMethod yX9_parts ∈ gTbl := g_in 1027 (by decide +kernel) (by decide +kernel)
theorem sX9_parts : Cond.selects yX9_parts.cls yX9_parts yX9_parts ∈ gTbl := g_in 28 (by decide +kernel) (by decide +kernel)
theorem kX9_219 : Cond.methodLink RX9 219 yX9_areLabels ∈ gTbl := g_in 1029 (by decide +kernel) (by decide +kernel)
set_option maxRecDepth 20000 in
theorem mX9_areLabels : Cond.code yX9_areLabels cX9_areLabels 5 ((some .boolean)) ∈ gTbl ∧ Cond.initialized yX9_areLabels.cls ∈ gTbl ∧ (yX9_areLabels.cls ≠ "java/lang/invoke/MethodHandle" ∧ yX9_areLabels.cls ≠ "java/lang/invoke/VarHandle" ∧ (parseMethodDescriptor yX9_areLabels.desc).map (fun d => d.parameters.length) = some 2) ∧ 5 ≤ 15 := ⟨g_in 1032 rfl rfl, g_in 54 (by decide +kernel) (by decide +kernel), ⟨by decide +kernel, by decide +kernel, by decide +kernel⟩, by decide⟩
theorem iX9_areLabels : Cond.instanceMethod yX9_areLabels ∈ gTbl := g_in 1031 (by decide +kernel) (by decide +kernel)
theorem sX9_areLabels : Cond.selects yX9_areLabels.cls yX9_areLabels yX9_areLabels ∈ gTbl := g_in 29 (by decide +kernel) (by decide +kernel)
theorem kX9_215 : Cond.methodLink RX9 215 yX9_areNames ∈ gTbl := g_in 1033 (by decide +kernel) (by decide +kernel)
set_option maxRecDepth 20000 in
theorem mX9_areNames : Cond.code yX9_areNames cX9_areNames 4 ((some .boolean)) ∈ gTbl ∧ Cond.initialized yX9_areNames.cls ∈ gTbl ∧ (yX9_areNames.cls ≠ "java/lang/invoke/MethodHandle" ∧ yX9_areNames.cls ≠ "java/lang/invoke/VarHandle" ∧ (parseMethodDescriptor yX9_areNames.desc).map (fun d => d.parameters.length) = some 2) ∧ 4 ≤ 15 := ⟨g_in 1036 rfl rfl, g_in 54 (by decide +kernel) (by decide +kernel), ⟨by decide +kernel, by decide +kernel, by decide +kernel⟩, by decide⟩
theorem iX9_areNames : Cond.instanceMethod yX9_areNames ∈ gTbl := g_in 1035 (by decide +kernel) (by decide +kernel)
theorem sX9_areNames : Cond.selects yX9_areNames.cls yX9_areNames yX9_areNames ∈ gTbl := g_in 30 (by decide +kernel) (by decide +kernel)
theorem kX9_222 : Cond.methodLink RX9 222 yX9_tellsApart ∈ gTbl := g_in 1037 (by decide +kernel) (by decide +kernel)
set_option maxRecDepth 20000 in
theorem mX9_tellsApart : Cond.code yX9_tellsApart cX9_tellsApart 7 ((some .boolean)) ∈ gTbl ∧ Cond.initialized yX9_tellsApart.cls ∈ gTbl ∧ (yX9_tellsApart.cls ≠ "java/lang/invoke/MethodHandle" ∧ yX9_tellsApart.cls ≠ "java/lang/invoke/VarHandle" ∧ (parseMethodDescriptor yX9_tellsApart.desc).map (fun d => d.parameters.length) = some 3) ∧ 7 ≤ 15 := ⟨g_in 1040 rfl rfl, g_in 54 (by decide +kernel) (by decide +kernel), ⟨by decide +kernel, by decide +kernel, by decide +kernel⟩, by decide⟩
theorem iX9_tellsApart : Cond.instanceMethod yX9_tellsApart ∈ gTbl := g_in 1039 (by decide +kernel) (by decide +kernel)
theorem sX9_tellsApart : Cond.selects yX9_tellsApart.cls yX9_tellsApart yX9_tellsApart ∈ gTbl := g_in 31 (by decide +kernel) (by decide +kernel)
theorem kX9_212 : Cond.methodLink RX9 212 yX9_depth ∈ gTbl := g_in 1041 (by decide +kernel) (by decide +kernel)
set_option maxRecDepth 20000 in
theorem mX9_depth : Cond.code yX9_depth cX9_depth 3 ((some .int)) ∈ gTbl ∧ Cond.initialized yX9_depth.cls ∈ gTbl ∧ (yX9_depth.cls ≠ "java/lang/invoke/MethodHandle" ∧ yX9_depth.cls ≠ "java/lang/invoke/VarHandle" ∧ (parseMethodDescriptor yX9_depth.desc).map (fun d => d.parameters.length) = some 2) ∧ 3 ≤ 15 := ⟨g_in 1044 rfl rfl, g_in 54 (by decide +kernel) (by decide +kernel), ⟨by decide +kernel, by decide +kernel, by decide +kernel⟩, by decide⟩
theorem iX9_depth : Cond.instanceMethod yX9_depth ∈ gTbl := g_in 1043 (by decide +kernel) (by decide +kernel)
theorem sX9_depth : Cond.selects yX9_depth.cls yX9_depth yX9_depth ∈ gTbl := g_in 32 (by decide +kernel) (by decide +kernel)
theorem kX9_226 : Cond.methodLink RX9 226 yX9_references ∈ gTbl := g_in 1045 (by decide +kernel) (by decide +kernel)
set_option maxRecDepth 20000 in
theorem mX9_references : Cond.code yX9_references cX9_references 3 ((some .int)) ∈ gTbl ∧ Cond.initialized yX9_references.cls ∈ gTbl ∧ (yX9_references.cls ≠ "java/lang/invoke/MethodHandle" ∧ yX9_references.cls ≠ "java/lang/invoke/VarHandle" ∧ (parseMethodDescriptor yX9_references.desc).map (fun d => d.parameters.length) = some 1) ∧ 3 ≤ 15 := ⟨g_in 1048 rfl rfl, g_in 54 (by decide +kernel) (by decide +kernel), ⟨by decide +kernel, by decide +kernel, by decide +kernel⟩, by decide⟩
theorem iX9_references : Cond.instanceMethod yX9_references ∈ gTbl := g_in 1047 (by decide +kernel) (by decide +kernel)
theorem sX9_references : Cond.selects yX9_references.cls yX9_references yX9_references ∈ gTbl := g_in 33 (by decide +kernel) (by decide +kernel)
theorem kX9_230 : Cond.methodLink RX9 230 yX9_refer ∈ gTbl := g_in 1049 (by decide +kernel) (by decide +kernel)
set_option maxRecDepth 20000 in
theorem mX9_refer : Cond.code yX9_refer cX9_refer 3 ((some .int)) ∈ gTbl ∧ Cond.initialized yX9_refer.cls ∈ gTbl ∧ (yX9_refer.cls ≠ "java/lang/invoke/MethodHandle" ∧ yX9_refer.cls ≠ "java/lang/invoke/VarHandle" ∧ (parseMethodDescriptor yX9_refer.desc).map (fun d => d.parameters.length) = some 2) ∧ 3 ≤ 15 := ⟨g_in 1052 rfl rfl, g_in 54 (by decide +kernel) (by decide +kernel), ⟨by decide +kernel, by decide +kernel, by decide +kernel⟩, by decide⟩
theorem iX9_refer : Cond.instanceMethod yX9_refer ∈ gTbl := g_in 1051 (by decide +kernel) (by decide +kernel)
theorem sX9_refer : Cond.selects yX9_refer.cls yX9_refer yX9_refer ∈ gTbl := g_in 34 (by decide +kernel) (by decide +kernel)
set_option maxRecDepth 20000 in
theorem mX9_feed : Cond.code yX9_feed cX9_feed 5 ((some .int)) ∈ gTbl ∧ Cond.initialized yX9_feed.cls ∈ gTbl ∧ (yX9_feed.cls ≠ "java/lang/invoke/MethodHandle" ∧ yX9_feed.cls ≠ "java/lang/invoke/VarHandle" ∧ (parseMethodDescriptor yX9_feed.desc).map (fun d => d.parameters.length) = some 2) ∧ 5 ≤ 15 := ⟨g_in 1056 rfl rfl, g_in 54 (by decide +kernel) (by decide +kernel), ⟨by decide +kernel, by decide +kernel, by decide +kernel⟩, by decide⟩
theorem iX9_feed : Cond.instanceMethod yX9_feed ∈ gTbl := g_in 1054 (by decide +kernel) (by decide +kernel)
theorem sX9_feed : Cond.selects yX9_feed.cls yX9_feed yX9_feed ∈ gTbl := g_in 1055 (by decide +kernel) (by decide +kernel)
theorem kX9_233 : Cond.methodLink RX9 233 yX9_fails ∈ gTbl := g_in 1057 (by decide +kernel) (by decide +kernel)
set_option maxRecDepth 20000 in
theorem mX9_fails : Cond.code yX9_fails cX9_fails 3 ((some .boolean)) ∈ gTbl ∧ Cond.initialized yX9_fails.cls ∈ gTbl ∧ (yX9_fails.cls ≠ "java/lang/invoke/MethodHandle" ∧ yX9_fails.cls ≠ "java/lang/invoke/VarHandle" ∧ (parseMethodDescriptor yX9_fails.desc).map (fun d => d.parameters.length) = some 2) ∧ 3 ≤ 15 := ⟨g_in 1060 rfl rfl, g_in 54 (by decide +kernel) (by decide +kernel), ⟨by decide +kernel, by decide +kernel, by decide +kernel⟩, by decide⟩
theorem iX9_fails : Cond.instanceMethod yX9_fails ∈ gTbl := g_in 1059 (by decide +kernel) (by decide +kernel)
theorem sX9_fails : Cond.selects yX9_fails.cls yX9_fails yX9_fails ∈ gTbl := g_in 35 (by decide +kernel) (by decide +kernel)
theorem kX9_237 : Cond.constantLong RX9 237 (255) ∈ gTbl := g_in 1061 (by decide +kernel) (by decide +kernel)
set_option maxRecDepth 20000 in
theorem mX9_type : Cond.code yX9_type cX9_type 3 ((some .long)) ∈ gTbl ∧ Cond.initialized yX9_type.cls ∈ gTbl ∧ (yX9_type.cls ≠ "java/lang/invoke/MethodHandle" ∧ yX9_type.cls ≠ "java/lang/invoke/VarHandle" ∧ (parseMethodDescriptor yX9_type.desc).map (fun d => d.parameters.length) = some 2) ∧ 3 ≤ 15 := ⟨g_in 1065 rfl rfl, g_in 54 (by decide +kernel) (by decide +kernel), ⟨by decide +kernel, by decide +kernel, by decide +kernel⟩, by decide⟩
theorem iX9_type : Cond.instanceMethod yX9_type ∈ gTbl := g_in 1063 (by decide +kernel) (by decide +kernel)
theorem sX9_type : Cond.selects yX9_type.cls yX9_type yX9_type ∈ gTbl := g_in 1064 (by decide +kernel) (by decide +kernel)
theorem kX9_239 : Cond.methodLink RX9 239 yX9_size ∈ gTbl := g_in 1066 (by decide +kernel) (by decide +kernel)
set_option maxRecDepth 20000 in
theorem mX9_size : Cond.code yX9_size cX9_size 3 ((some .int)) ∈ gTbl ∧ Cond.initialized yX9_size.cls ∈ gTbl ∧ (yX9_size.cls ≠ "java/lang/invoke/MethodHandle" ∧ yX9_size.cls ≠ "java/lang/invoke/VarHandle" ∧ (parseMethodDescriptor yX9_size.desc).map (fun d => d.parameters.length) = some 1) ∧ 3 ≤ 15 := ⟨g_in 1069 rfl rfl, g_in 54 (by decide +kernel) (by decide +kernel), ⟨by decide +kernel, by decide +kernel, by decide +kernel⟩, by decide⟩
theorem iX9_size : Cond.instanceMethod yX9_size ∈ gTbl := g_in 1068 (by decide +kernel) (by decide +kernel)
theorem sX9_size : Cond.selects yX9_size.cls yX9_size yX9_size ∈ gTbl := g_in 36 (by decide +kernel) (by decide +kernel)
set_option maxRecDepth 20000 in
theorem mX9_reference : Cond.code yX9_reference cX9_reference 4 ((some .int)) ∈ gTbl ∧ Cond.initialized yX9_reference.cls ∈ gTbl ∧ (yX9_reference.cls ≠ "java/lang/invoke/MethodHandle" ∧ yX9_reference.cls ≠ "java/lang/invoke/VarHandle" ∧ (parseMethodDescriptor yX9_reference.desc).map (fun d => d.parameters.length) = some 2) ∧ 4 ≤ 15 := ⟨g_in 1073 rfl rfl, g_in 54 (by decide +kernel) (by decide +kernel), ⟨by decide +kernel, by decide +kernel, by decide +kernel⟩, by decide⟩
theorem iX9_reference : Cond.instanceMethod yX9_reference ∈ gTbl := g_in 1071 (by decide +kernel) (by decide +kernel)
theorem sX9_reference : Cond.selects yX9_reference.cls yX9_reference yX9_reference ∈ gTbl := g_in 1072 (by decide +kernel) (by decide +kernel)
set_option maxRecDepth 20000 in
theorem mX9_apart : Cond.code yX9_apart cX9_apart 3 ((some .int)) ∈ gTbl ∧ Cond.initialized yX9_apart.cls ∈ gTbl ∧ (yX9_apart.cls ≠ "java/lang/invoke/MethodHandle" ∧ yX9_apart.cls ≠ "java/lang/invoke/VarHandle" ∧ (parseMethodDescriptor yX9_apart.desc).map (fun d => d.parameters.length) = some 2) ∧ 3 ≤ 15 := ⟨g_in 1077 rfl rfl, g_in 54 (by decide +kernel) (by decide +kernel), ⟨by decide +kernel, by decide +kernel, by decide +kernel⟩, by decide⟩
theorem iX9_apart : Cond.instanceMethod yX9_apart ∈ gTbl := g_in 1075 (by decide +kernel) (by decide +kernel)
theorem sX9_apart : Cond.selects yX9_apart.cls yX9_apart yX9_apart ∈ gTbl := g_in 1076 (by decide +kernel) (by decide +kernel)
set_option maxRecDepth 20000 in
theorem mX9_bytes : Cond.code yX9_bytes cX9_bytes 2 ((some .long)) ∈ gTbl ∧ Cond.initialized yX9_bytes.cls ∈ gTbl ∧ (yX9_bytes.cls ≠ "java/lang/invoke/MethodHandle" ∧ yX9_bytes.cls ≠ "java/lang/invoke/VarHandle" ∧ (parseMethodDescriptor yX9_bytes.desc).map (fun d => d.parameters.length) = some 1) ∧ 2 ≤ 15 := ⟨g_in 1081 rfl rfl, g_in 54 (by decide +kernel) (by decide +kernel), ⟨by decide +kernel, by decide +kernel, by decide +kernel⟩, by decide⟩
theorem iX9_bytes : Cond.instanceMethod yX9_bytes ∈ gTbl := g_in 1079 (by decide +kernel) (by decide +kernel)
theorem sX9_bytes : Cond.selects yX9_bytes.cls yX9_bytes yX9_bytes ∈ gTbl := g_in 1080 (by decide +kernel) (by decide +kernel)
theorem kX9_242 : Cond.methodLink RX9 242 yX9_sized ∈ gTbl := g_in 1082 (by decide +kernel) (by decide +kernel)
set_option maxRecDepth 20000 in
theorem mX9_sized : Cond.code yX9_sized cX9_sized 10 ((some .long)) ∈ gTbl ∧ Cond.initialized yX9_sized.cls ∈ gTbl ∧ (yX9_sized.cls ≠ "java/lang/invoke/MethodHandle" ∧ yX9_sized.cls ≠ "java/lang/invoke/VarHandle" ∧ (parseMethodDescriptor yX9_sized.desc).map (fun d => d.parameters.length) = some 1) ∧ 10 ≤ 15 := ⟨g_in 1085 rfl rfl, g_in 54 (by decide +kernel) (by decide +kernel), ⟨by decide +kernel, by decide +kernel, by decide +kernel⟩, by decide⟩
theorem iX9_sized : Cond.instanceMethod yX9_sized ∈ gTbl := g_in 1084 (by decide +kernel) (by decide +kernel)
theorem sX9_sized : Cond.selects yX9_sized.cls yX9_sized yX9_sized ∈ gTbl := g_in 37 (by decide +kernel) (by decide +kernel)
theorem kX9_246 : Cond.constantLong RX9 246 (-1) ∈ gTbl := g_in 1086 (by decide +kernel) (by decide +kernel)
theorem kX9_248 : Cond.constantLong RX9 248 (6) ∈ gTbl := g_in 1087 (by decide +kernel) (by decide +kernel)
theorem kX9_250 : Cond.constantLong RX9 250 (1000000000000) ∈ gTbl := g_in 1088 (by decide +kernel) (by decide +kernel)
set_option maxRecDepth 20000 in
theorem mX9_find : Cond.code yX9_find cX9_find 5 ((some .int)) ∈ gTbl ∧ Cond.initialized yX9_find.cls ∈ gTbl ∧ (yX9_find.cls ≠ "java/lang/invoke/MethodHandle" ∧ yX9_find.cls ≠ "java/lang/invoke/VarHandle" ∧ (parseMethodDescriptor yX9_find.desc).map (fun d => d.parameters.length) = some 2) ∧ 5 ≤ 15 := ⟨g_in 1092 rfl rfl, g_in 54 (by decide +kernel) (by decide +kernel), ⟨by decide +kernel, by decide +kernel, by decide +kernel⟩, by decide⟩
theorem iX9_find : Cond.instanceMethod yX9_find ∈ gTbl := g_in 1090 (by decide +kernel) (by decide +kernel)
theorem sX9_find : Cond.selects yX9_find.cls yX9_find yX9_find ∈ gTbl := g_in 1091 (by decide +kernel) (by decide +kernel)
theorem kX9_252 : Cond.constantLong RX9 252 (13) ∈ gTbl := g_in 1093 (by decide +kernel) (by decide +kernel)
theorem kX9_254 : Cond.methodLink RX9 254 yX9_isTape ∈ gTbl := g_in 1094 (by decide +kernel) (by decide +kernel)
set_option maxRecDepth 20000 in
theorem mX9_isTape : Cond.code yX9_isTape cX9_isTape 4 ((some .boolean)) ∈ gTbl ∧ Cond.initialized yX9_isTape.cls ∈ gTbl ∧ (yX9_isTape.cls ≠ "java/lang/invoke/MethodHandle" ∧ yX9_isTape.cls ≠ "java/lang/invoke/VarHandle" ∧ (parseMethodDescriptor yX9_isTape.desc).map (fun d => d.parameters.length) = some 1) ∧ 4 ≤ 15 := ⟨g_in 1097 rfl rfl, g_in 54 (by decide +kernel) (by decide +kernel), ⟨by decide +kernel, by decide +kernel, by decide +kernel⟩, by decide⟩
theorem iX9_isTape : Cond.instanceMethod yX9_isTape ∈ gTbl := g_in 1096 (by decide +kernel) (by decide +kernel)
theorem sX9_isTape : Cond.selects yX9_isTape.cls yX9_isTape yX9_isTape ∈ gTbl := g_in 38 (by decide +kernel) (by decide +kernel)
set_option maxRecDepth 20000 in
theorem mX9_ring : Cond.code yX9_ring cX9_ring 4 ((some .int)) ∈ gTbl ∧ Cond.initialized yX9_ring.cls ∈ gTbl ∧ (yX9_ring.cls ≠ "java/lang/invoke/MethodHandle" ∧ yX9_ring.cls ≠ "java/lang/invoke/VarHandle" ∧ (parseMethodDescriptor yX9_ring.desc).map (fun d => d.parameters.length) = some 1) ∧ 4 ≤ 15 := ⟨g_in 1101 rfl rfl, g_in 54 (by decide +kernel) (by decide +kernel), ⟨by decide +kernel, by decide +kernel, by decide +kernel⟩, by decide⟩
theorem iX9_ring : Cond.instanceMethod yX9_ring ∈ gTbl := g_in 1099 (by decide +kernel) (by decide +kernel)
theorem sX9_ring : Cond.selects yX9_ring.cls yX9_ring yX9_ring ∈ gTbl := g_in 1100 (by decide +kernel) (by decide +kernel)
theorem kX9_257 : Cond.methodLink RX9 257 yX9_reaches ∈ gTbl := g_in 1102 (by decide +kernel) (by decide +kernel)
set_option maxRecDepth 20000 in
theorem mX9_reaches : Cond.code yX9_reaches cX9_reaches 8 ((some .boolean)) ∈ gTbl ∧ Cond.initialized yX9_reaches.cls ∈ gTbl ∧ (yX9_reaches.cls ≠ "java/lang/invoke/MethodHandle" ∧ yX9_reaches.cls ≠ "java/lang/invoke/VarHandle" ∧ (parseMethodDescriptor yX9_reaches.desc).map (fun d => d.parameters.length) = some 2) ∧ 8 ≤ 15 := ⟨g_in 1105 rfl rfl, g_in 54 (by decide +kernel) (by decide +kernel), ⟨by decide +kernel, by decide +kernel, by decide +kernel⟩, by decide⟩
theorem iX9_reaches : Cond.instanceMethod yX9_reaches ∈ gTbl := g_in 1104 (by decide +kernel) (by decide +kernel)
theorem sX9_reaches : Cond.selects yX9_reaches.cls yX9_reaches yX9_reaches ∈ gTbl := g_in 39 (by decide +kernel) (by decide +kernel)
set_option maxRecDepth 20000 in
theorem mX9_write : Cond.code yX9_write cX9_write 4 ((some .int)) ∈ gTbl ∧ Cond.initialized yX9_write.cls ∈ gTbl ∧ (yX9_write.cls ≠ "java/lang/invoke/MethodHandle" ∧ yX9_write.cls ≠ "java/lang/invoke/VarHandle" ∧ (parseMethodDescriptor yX9_write.desc).map (fun d => d.parameters.length) = some 0) ∧ 4 ≤ 15 := ⟨g_in 1109 rfl rfl, g_in 54 (by decide +kernel) (by decide +kernel), ⟨by decide +kernel, by decide +kernel, by decide +kernel⟩, by decide⟩
theorem iX9_write : Cond.instanceMethod yX9_write ∈ gTbl := g_in 1107 (by decide +kernel) (by decide +kernel)
theorem sX9_write : Cond.selects yX9_write.cls yX9_write yX9_write ∈ gTbl := g_in 1108 (by decide +kernel) (by decide +kernel)
theorem kX9_280 : Cond.methodLink RX9 280 yX9_writes ∈ gTbl := g_in 1110 (by decide +kernel) (by decide +kernel)
set_option maxRecDepth 20000 in
theorem mX9_writes : Cond.code yX9_writes cX9_writes 4 none ∈ gTbl ∧ Cond.initialized yX9_writes.cls ∈ gTbl ∧ (yX9_writes.cls ≠ "java/lang/invoke/MethodHandle" ∧ yX9_writes.cls ≠ "java/lang/invoke/VarHandle" ∧ (parseMethodDescriptor yX9_writes.desc).map (fun d => d.parameters.length) = some 1) ∧ 4 ≤ 15 := ⟨g_in 1113 rfl rfl, g_in 54 (by decide +kernel) (by decide +kernel), ⟨by decide +kernel, by decide +kernel, by decide +kernel⟩, by decide⟩
theorem iX9_writes : Cond.instanceMethod yX9_writes ∈ gTbl := g_in 1112 (by decide +kernel) (by decide +kernel)
theorem sX9_writes : Cond.selects yX9_writes.cls yX9_writes yX9_writes ∈ gTbl := g_in 40 (by decide +kernel) (by decide +kernel)
theorem kX9_269 : Cond.methodLink RX9 269 yX9_place ∈ gTbl := g_in 1114 (by decide +kernel) (by decide +kernel)
set_option maxRecDepth 20000 in
theorem mX9_place : Cond.code yX9_place cX9_place 3 ((some .int)) ∈ gTbl ∧ Cond.initialized yX9_place.cls ∈ gTbl ∧ (yX9_place.cls ≠ "java/lang/invoke/MethodHandle" ∧ yX9_place.cls ≠ "java/lang/invoke/VarHandle" ∧ (parseMethodDescriptor yX9_place.desc).map (fun d => d.parameters.length) = some 1) ∧ 3 ≤ 15 := ⟨g_in 1117 rfl rfl, g_in 54 (by decide +kernel) (by decide +kernel), ⟨by decide +kernel, by decide +kernel, by decide +kernel⟩, by decide⟩
theorem iX9_place : Cond.instanceMethod yX9_place ∈ gTbl := g_in 1116 (by decide +kernel) (by decide +kernel)
theorem sX9_place : Cond.selects yX9_place.cls yX9_place yX9_place ∈ gTbl := g_in 41 (by decide +kernel) (by decide +kernel)
theorem kX9_272 : Cond.methodLink RX9 272 yX9_put ∈ gTbl := g_in 1118 (by decide +kernel) (by decide +kernel)
set_option maxRecDepth 20000 in
theorem mX9_put : Cond.code yX9_put cX9_put 5 none ∈ gTbl ∧ Cond.initialized yX9_put.cls ∈ gTbl ∧ (yX9_put.cls ≠ "java/lang/invoke/MethodHandle" ∧ yX9_put.cls ≠ "java/lang/invoke/VarHandle" ∧ (parseMethodDescriptor yX9_put.desc).map (fun d => d.parameters.length) = some 2) ∧ 5 ≤ 15 := ⟨g_in 1121 rfl rfl, g_in 54 (by decide +kernel) (by decide +kernel), ⟨by decide +kernel, by decide +kernel, by decide +kernel⟩, by decide⟩
theorem iX9_put : Cond.instanceMethod yX9_put ∈ gTbl := g_in 1120 (by decide +kernel) (by decide +kernel)
theorem sX9_put : Cond.selects yX9_put.cls yX9_put yX9_put ∈ gTbl := g_in 42 (by decide +kernel) (by decide +kernel)
theorem kX9_276 : Cond.methodLink RX9 276 yX9_folded ∈ gTbl := g_in 1122 (by decide +kernel) (by decide +kernel)
set_option maxRecDepth 20000 in
theorem mX9_folded : Cond.code yX9_folded cX9_folded 3 ((some .long)) ∈ gTbl ∧ Cond.initialized yX9_folded.cls ∈ gTbl ∧ (yX9_folded.cls ≠ "java/lang/invoke/MethodHandle" ∧ yX9_folded.cls ≠ "java/lang/invoke/VarHandle" ∧ (parseMethodDescriptor yX9_folded.desc).map (fun d => d.parameters.length) = some 1) ∧ 3 ≤ 15 := ⟨g_in 1125 rfl rfl, g_in 54 (by decide +kernel) (by decide +kernel), ⟨by decide +kernel, by decide +kernel, by decide +kernel⟩, by decide⟩
theorem iX9_folded : Cond.instanceMethod yX9_folded ∈ gTbl := g_in 1124 (by decide +kernel) (by decide +kernel)
theorem sX9_folded : Cond.selects yX9_folded.cls yX9_folded yX9_folded ∈ gTbl := g_in 43 (by decide +kernel) (by decide +kernel)
set_option maxRecDepth 20000 in
theorem mX9_name : Cond.code yX9_name cX9_name 3 ((some .int)) ∈ gTbl ∧ Cond.initialized yX9_name.cls ∈ gTbl ∧ (yX9_name.cls ≠ "java/lang/invoke/MethodHandle" ∧ yX9_name.cls ≠ "java/lang/invoke/VarHandle" ∧ (parseMethodDescriptor yX9_name.desc).map (fun d => d.parameters.length) = some 1) ∧ 3 ≤ 15 := ⟨g_in 1129 rfl rfl, g_in 54 (by decide +kernel) (by decide +kernel), ⟨by decide +kernel, by decide +kernel, by decide +kernel⟩, by decide⟩
theorem iX9_name : Cond.instanceMethod yX9_name ∈ gTbl := g_in 1127 (by decide +kernel) (by decide +kernel)
theorem sX9_name : Cond.selects yX9_name.cls yX9_name yX9_name ∈ gTbl := g_in 1128 (by decide +kernel) (by decide +kernel)
set_option maxRecDepth 20000 in
theorem mX9_out : Cond.code yX9_out cX9_out 5 ((some .long)) ∈ gTbl ∧ Cond.initialized yX9_out.cls ∈ gTbl ∧ (yX9_out.cls ≠ "java/lang/invoke/MethodHandle" ∧ yX9_out.cls ≠ "java/lang/invoke/VarHandle" ∧ (parseMethodDescriptor yX9_out.desc).map (fun d => d.parameters.length) = some 1) ∧ 5 ≤ 15 := ⟨g_in 1133 rfl rfl, g_in 54 (by decide +kernel) (by decide +kernel), ⟨by decide +kernel, by decide +kernel, by decide +kernel⟩, by decide⟩
theorem iX9_out : Cond.instanceMethod yX9_out ∈ gTbl := g_in 1131 (by decide +kernel) (by decide +kernel)
theorem sX9_out : Cond.selects yX9_out.cls yX9_out yX9_out ∈ gTbl := g_in 1132 (by decide +kernel) (by decide +kernel)
set_option maxRecDepth 20000 in
theorem mX9_look : Cond.code yX9_look cX9_look 2 ((some .int)) ∈ gTbl ∧ Cond.initialized yX9_look.cls ∈ gTbl ∧ (yX9_look.cls ≠ "java/lang/invoke/MethodHandle" ∧ yX9_look.cls ≠ "java/lang/invoke/VarHandle" ∧ (parseMethodDescriptor yX9_look.desc).map (fun d => d.parameters.length) = some 1) ∧ 2 ≤ 15 := ⟨g_in 1137 rfl rfl, g_in 54 (by decide +kernel) (by decide +kernel), ⟨by decide +kernel, by decide +kernel, by decide +kernel⟩, by decide⟩
theorem iX9_look : Cond.instanceMethod yX9_look ∈ gTbl := g_in 1135 (by decide +kernel) (by decide +kernel)
theorem sX9_look : Cond.selects yX9_look.cls yX9_look yX9_look ∈ gTbl := g_in 1136 (by decide +kernel) (by decide +kernel)
theorem kX9_287 : Cond.methodLink RX9 287 yX9_deepest ∈ gTbl := g_in 1138 (by decide +kernel) (by decide +kernel)
set_option maxRecDepth 20000 in
theorem mX9_deepest : Cond.code yX9_deepest cX9_deepest 4 ((some .int)) ∈ gTbl ∧ Cond.initialized yX9_deepest.cls ∈ gTbl ∧ (yX9_deepest.cls ≠ "java/lang/invoke/MethodHandle" ∧ yX9_deepest.cls ≠ "java/lang/invoke/VarHandle" ∧ (parseMethodDescriptor yX9_deepest.desc).map (fun d => d.parameters.length) = some 0) ∧ 4 ≤ 15 := ⟨g_in 1141 rfl rfl, g_in 54 (by decide +kernel) (by decide +kernel), ⟨by decide +kernel, by decide +kernel, by decide +kernel⟩, by decide⟩
theorem iX9_deepest : Cond.instanceMethod yX9_deepest ∈ gTbl := g_in 1140 (by decide +kernel) (by decide +kernel)
theorem sX9_deepest : Cond.selects yX9_deepest.cls yX9_deepest yX9_deepest ∈ gTbl := g_in 44 (by decide +kernel) (by decide +kernel)
theorem dX9_init_0 : decode cX9_init 0 = .ok (.aload_n 0, 1) := by decide +kernel
theorem dX9_init_1 : decode cX9_init 1 = .ok (.invokespecial 1, 3) := by decide +kernel
theorem dX9_init_4 : decode cX9_init 4 = .ok (.aload_n 0, 1) := by decide +kernel
theorem dX9_init_5 : decode cX9_init 5 = .ok (.sipush 8192, 3) := by decide +kernel
theorem dX9_init_8 : decode cX9_init 8 = .ok (.newarray .int, 2) := by decide +kernel
theorem dX9_init_10 : decode cX9_init 10 = .ok (.putfield 7, 3) := by decide +kernel
theorem dX9_init_13 : decode cX9_init 13 = .ok (.aload_n 0, 1) := by decide +kernel
theorem dX9_init_14 : decode cX9_init 14 = .ok (.sipush 16384, 3) := by decide +kernel
theorem dX9_init_17 : decode cX9_init 17 = .ok (.newarray .int, 2) := by decide +kernel
theorem dX9_init_19 : decode cX9_init 19 = .ok (.putfield 13, 3) := by decide +kernel
theorem dX9_init_22 : decode cX9_init 22 = .ok (.aload_n 0, 1) := by decide +kernel
theorem dX9_init_23 : decode cX9_init 23 = .ok (.sipush 16384, 3) := by decide +kernel
theorem dX9_init_26 : decode cX9_init 26 = .ok (.newarray .int, 2) := by decide +kernel
theorem dX9_init_28 : decode cX9_init 28 = .ok (.putfield 16, 3) := by decide +kernel
theorem dX9_init_31 : decode cX9_init 31 = .ok (.aload_n 0, 1) := by decide +kernel
theorem dX9_init_32 : decode cX9_init 32 = .ok (.sipush 8192, 3) := by decide +kernel
theorem dX9_init_35 : decode cX9_init 35 = .ok (.newarray .int, 2) := by decide +kernel
theorem dX9_init_37 : decode cX9_init 37 = .ok (.putfield 19, 3) := by decide +kernel
theorem dX9_init_40 : decode cX9_init 40 = .ok (.aload_n 0, 1) := by decide +kernel
theorem dX9_init_41 : decode cX9_init 41 = .ok (.sipush 202, 3) := by decide +kernel
theorem dX9_init_44 : decode cX9_init 44 = .ok (.newarray .int, 2) := by decide +kernel
theorem dX9_init_46 : decode cX9_init 46 = .ok (.putfield 22, 3) := by decide +kernel
theorem dX9_init_49 : decode cX9_init 49 = .ok (.aload_n 0, 1) := by decide +kernel
theorem dX9_init_50 : decode cX9_init 50 = .ok (.sipush 202, 3) := by decide +kernel
theorem dX9_init_53 : decode cX9_init 53 = .ok (.newarray .int, 2) := by decide +kernel
theorem dX9_init_55 : decode cX9_init 55 = .ok (.putfield 25, 3) := by decide +kernel
theorem dX9_init_58 : decode cX9_init 58 = .ok (.aload_n 0, 1) := by decide +kernel
theorem dX9_init_59 : decode cX9_init 59 = .ok (.sipush 202, 3) := by decide +kernel
theorem dX9_init_62 : decode cX9_init 62 = .ok (.newarray .int, 2) := by decide +kernel
theorem dX9_init_64 : decode cX9_init 64 = .ok (.putfield 28, 3) := by decide +kernel
theorem dX9_init_67 : decode cX9_init 67 = .ok (.aload_n 0, 1) := by decide +kernel
theorem dX9_init_68 : decode cX9_init 68 = .ok (.sipush 202, 3) := by decide +kernel
theorem dX9_init_71 : decode cX9_init 71 = .ok (.newarray .int, 2) := by decide +kernel
theorem dX9_init_73 : decode cX9_init 73 = .ok (.putfield 31, 3) := by decide +kernel
theorem dX9_init_76 : decode cX9_init 76 = .ok (.aload_n 0, 1) := by decide +kernel
theorem dX9_init_77 : decode cX9_init 77 = .ok (.sipush 202, 3) := by decide +kernel
theorem dX9_init_80 : decode cX9_init 80 = .ok (.newarray .long, 2) := by decide +kernel
theorem dX9_init_82 : decode cX9_init 82 = .ok (.putfield 34, 3) := by decide +kernel
theorem dX9_init_85 : decode cX9_init 85 = .ok (.aload_n 0, 1) := by decide +kernel
theorem dX9_init_86 : decode cX9_init 86 = .ok (.sipush 202, 3) := by decide +kernel
theorem dX9_init_89 : decode cX9_init 89 = .ok (.newarray .long, 2) := by decide +kernel
theorem dX9_init_91 : decode cX9_init 91 = .ok (.putfield 38, 3) := by decide +kernel
theorem dX9_init_94 : decode cX9_init 94 = .ok (.aload_n 0, 1) := by decide +kernel
theorem dX9_init_95 : decode cX9_init 95 = .ok (.sipush 202, 3) := by decide +kernel
theorem dX9_init_98 : decode cX9_init 98 = .ok (.newarray .long, 2) := by decide +kernel
theorem dX9_init_100 : decode cX9_init 100 = .ok (.putfield 41, 3) := by decide +kernel
theorem dX9_init_103 : decode cX9_init 103 = .ok (.aload_n 0, 1) := by decide +kernel
theorem dX9_init_104 : decode cX9_init 104 = .ok (.sipush 202, 3) := by decide +kernel
theorem dX9_init_107 : decode cX9_init 107 = .ok (.newarray .long, 2) := by decide +kernel
theorem dX9_init_109 : decode cX9_init 109 = .ok (.putfield 44, 3) := by decide +kernel
theorem dX9_init_112 : decode cX9_init 112 = .ok (.aload_n 0, 1) := by decide +kernel
theorem dX9_init_113 : decode cX9_init 113 = .ok (.sipush 203, 3) := by decide +kernel
theorem dX9_init_116 : decode cX9_init 116 = .ok (.newarray .int, 2) := by decide +kernel
theorem dX9_init_118 : decode cX9_init 118 = .ok (.putfield 47, 3) := by decide +kernel
theorem dX9_init_121 : decode cX9_init 121 = .ok (.aload_n 0, 1) := by decide +kernel
theorem dX9_init_122 : decode cX9_init 122 = .ok (.sipush 601, 3) := by decide +kernel
theorem dX9_init_125 : decode cX9_init 125 = .ok (.newarray .int, 2) := by decide +kernel
theorem dX9_init_127 : decode cX9_init 127 = .ok (.putfield 50, 3) := by decide +kernel
theorem dX9_init_130 : decode cX9_init 130 = .ok (.aload_n 0, 1) := by decide +kernel
theorem dX9_init_131 : decode cX9_init 131 = .ok (.sipush 601, 3) := by decide +kernel
theorem dX9_init_134 : decode cX9_init 134 = .ok (.newarray .long, 2) := by decide +kernel
theorem dX9_init_136 : decode cX9_init 136 = .ok (.putfield 53, 3) := by decide +kernel
theorem dX9_init_139 : decode cX9_init 139 = .ok (.aload_n 0, 1) := by decide +kernel
theorem dX9_init_140 : decode cX9_init 140 = .ok (.sipush 601, 3) := by decide +kernel
theorem dX9_init_143 : decode cX9_init 143 = .ok (.newarray .long, 2) := by decide +kernel
theorem dX9_init_145 : decode cX9_init 145 = .ok (.putfield 56, 3) := by decide +kernel
theorem dX9_init_148 : decode cX9_init 148 = .ok (.aload_n 0, 1) := by decide +kernel
theorem dX9_init_149 : decode cX9_init 149 = .ok (.sipush 202, 3) := by decide +kernel
theorem dX9_init_152 : decode cX9_init 152 = .ok (.newarray .int, 2) := by decide +kernel
theorem dX9_init_154 : decode cX9_init 154 = .ok (.putfield 59, 3) := by decide +kernel
theorem dX9_init_157 : decode cX9_init 157 = .ok (.aload_n 0, 1) := by decide +kernel
theorem dX9_init_158 : decode cX9_init 158 = .ok (.sipush 202, 3) := by decide +kernel
theorem dX9_init_161 : decode cX9_init 161 = .ok (.newarray .int, 2) := by decide +kernel
theorem dX9_init_163 : decode cX9_init 163 = .ok (.putfield 62, 3) := by decide +kernel
theorem dX9_init_166 : decode cX9_init 166 = .ok (.aload_n 0, 1) := by decide +kernel
theorem dX9_init_167 : decode cX9_init 167 = .ok (.sipush 202, 3) := by decide +kernel
theorem dX9_init_170 : decode cX9_init 170 = .ok (.newarray .int, 2) := by decide +kernel
theorem dX9_init_172 : decode cX9_init 172 = .ok (.putfield 65, 3) := by decide +kernel
theorem dX9_init_175 : decode cX9_init 175 = .ok (.aload_n 0, 1) := by decide +kernel
theorem dX9_init_176 : decode cX9_init 176 = .ok (.sipush 202, 3) := by decide +kernel
theorem dX9_init_179 : decode cX9_init 179 = .ok (.newarray .int, 2) := by decide +kernel
theorem dX9_init_181 : decode cX9_init 181 = .ok (.putfield 68, 3) := by decide +kernel
theorem dX9_init_184 : decode cX9_init 184 = .ok (.aload_n 0, 1) := by decide +kernel
theorem dX9_init_185 : decode cX9_init 185 = .ok (.sipush 202, 3) := by decide +kernel
theorem dX9_init_188 : decode cX9_init 188 = .ok (.newarray .long, 2) := by decide +kernel
theorem dX9_init_190 : decode cX9_init 190 = .ok (.putfield 71, 3) := by decide +kernel
theorem dX9_init_193 : decode cX9_init 193 = .ok (.aload_n 0, 1) := by decide +kernel
theorem dX9_init_194 : decode cX9_init 194 = .ok (.sipush 202, 3) := by decide +kernel
theorem dX9_init_197 : decode cX9_init 197 = .ok (.newarray .long, 2) := by decide +kernel
theorem dX9_init_199 : decode cX9_init 199 = .ok (.putfield 74, 3) := by decide +kernel
theorem dX9_init_202 : decode cX9_init 202 = .ok (.aload_n 0, 1) := by decide +kernel
theorem dX9_init_203 : decode cX9_init 203 = .ok (.sipush 202, 3) := by decide +kernel
theorem dX9_init_206 : decode cX9_init 206 = .ok (.newarray .long, 2) := by decide +kernel
theorem dX9_init_208 : decode cX9_init 208 = .ok (.putfield 77, 3) := by decide +kernel
theorem dX9_init_211 : decode cX9_init 211 = .ok (.aload_n 0, 1) := by decide +kernel
theorem dX9_init_212 : decode cX9_init 212 = .ok (.sipush 202, 3) := by decide +kernel
theorem dX9_init_215 : decode cX9_init 215 = .ok (.newarray .long, 2) := by decide +kernel
theorem dX9_init_217 : decode cX9_init 217 = .ok (.putfield 80, 3) := by decide +kernel
theorem dX9_init_220 : decode cX9_init 220 = .ok (.aload_n 0, 1) := by decide +kernel
theorem dX9_init_221 : decode cX9_init 221 = .ok (.sipush 203, 3) := by decide +kernel
theorem dX9_init_224 : decode cX9_init 224 = .ok (.newarray .int, 2) := by decide +kernel
theorem dX9_init_226 : decode cX9_init 226 = .ok (.putfield 83, 3) := by decide +kernel
theorem dX9_init_229 : decode cX9_init 229 = .ok (.aload_n 0, 1) := by decide +kernel
theorem dX9_init_230 : decode cX9_init 230 = .ok (.sipush 601, 3) := by decide +kernel
theorem dX9_init_233 : decode cX9_init 233 = .ok (.newarray .int, 2) := by decide +kernel
theorem dX9_init_235 : decode cX9_init 235 = .ok (.putfield 86, 3) := by decide +kernel
theorem dX9_init_238 : decode cX9_init 238 = .ok (.aload_n 0, 1) := by decide +kernel
theorem dX9_init_239 : decode cX9_init 239 = .ok (.sipush 601, 3) := by decide +kernel
theorem dX9_init_242 : decode cX9_init 242 = .ok (.newarray .long, 2) := by decide +kernel
theorem dX9_init_244 : decode cX9_init 244 = .ok (.putfield 89, 3) := by decide +kernel
theorem dX9_init_247 : decode cX9_init 247 = .ok (.aload_n 0, 1) := by decide +kernel
theorem dX9_init_248 : decode cX9_init 248 = .ok (.sipush 601, 3) := by decide +kernel
theorem dX9_init_251 : decode cX9_init 251 = .ok (.newarray .long, 2) := by decide +kernel
theorem dX9_init_253 : decode cX9_init 253 = .ok (.putfield 92, 3) := by decide +kernel
theorem dX9_init_256 : decode cX9_init 256 = .ok (.aload_n 0, 1) := by decide +kernel
theorem dX9_init_257 : decode cX9_init 257 = .ok (.ldc 95, 2) := by decide +kernel
theorem dX9_init_259 : decode cX9_init 259 = .ok (.newarray .int, 2) := by decide +kernel
theorem dX9_init_261 : decode cX9_init 261 = .ok (.putfield 96, 3) := by decide +kernel
theorem dX9_init_264 : decode cX9_init 264 = .ok (.aload_n 0, 1) := by decide +kernel
theorem dX9_init_265 : decode cX9_init 265 = .ok (.sipush 202, 3) := by decide +kernel
theorem dX9_init_268 : decode cX9_init 268 = .ok (.newarray .int, 2) := by decide +kernel
theorem dX9_init_270 : decode cX9_init 270 = .ok (.putfield 99, 3) := by decide +kernel
theorem dX9_init_273 : decode cX9_init 273 = .ok (.aload_n 0, 1) := by decide +kernel
theorem dX9_init_274 : decode cX9_init 274 = .ok (.sipush 202, 3) := by decide +kernel
theorem dX9_init_277 : decode cX9_init 277 = .ok (.newarray .int, 2) := by decide +kernel
theorem dX9_init_279 : decode cX9_init 279 = .ok (.putfield 102, 3) := by decide +kernel
theorem dX9_init_282 : decode cX9_init 282 = .ok (.aload_n 0, 1) := by decide +kernel
theorem dX9_init_283 : decode cX9_init 283 = .ok (.sipush 204, 3) := by decide +kernel
theorem dX9_init_286 : decode cX9_init 286 = .ok (.newarray .int, 2) := by decide +kernel
theorem dX9_init_288 : decode cX9_init 288 = .ok (.putfield 105, 3) := by decide +kernel
theorem dX9_init_291 : decode cX9_init 291 = .ok (.aload_n 0, 1) := by decide +kernel
theorem dX9_init_292 : decode cX9_init 292 = .ok (.sipush 202, 3) := by decide +kernel
theorem dX9_init_295 : decode cX9_init 295 = .ok (.newarray .boolean, 2) := by decide +kernel
theorem dX9_init_297 : decode cX9_init 297 = .ok (.putfield 108, 3) := by decide +kernel
theorem dX9_init_300 : decode cX9_init 300 = .ok (.aload_n 0, 1) := by decide +kernel
theorem dX9_init_301 : decode cX9_init 301 = .ok (.sipush 802, 3) := by decide +kernel
theorem dX9_init_304 : decode cX9_init 304 = .ok (.newarray .int, 2) := by decide +kernel
theorem dX9_init_306 : decode cX9_init 306 = .ok (.putfield 112, 3) := by decide +kernel
theorem dX9_init_309 : decode cX9_init 309 = .ok (.aload_n 0, 1) := by decide +kernel
theorem dX9_init_310 : decode cX9_init 310 = .ok (.sipush 802, 3) := by decide +kernel
theorem dX9_init_313 : decode cX9_init 313 = .ok (.newarray .int, 2) := by decide +kernel
theorem dX9_init_315 : decode cX9_init 315 = .ok (.putfield 115, 3) := by decide +kernel
theorem dX9_init_318 : decode cX9_init 318 = .ok (.return_, 1) := by decide +kernel
theorem dX9_thrown_0 : decode cX9_thrown 0 = .ok (.aload_n 0, 1) := by decide +kernel
theorem dX9_thrown_1 : decode cX9_thrown 1 = .ok (.getfield 118, 3) := by decide +kernel
theorem dX9_thrown_4 : decode cX9_thrown 4 = .ok (.ireturn, 1) := by decide +kernel
theorem dX9_fails_0 : decode cX9_fails 0 = .ok (.aload_n 0, 1) := by decide +kernel
theorem dX9_fails_1 : decode cX9_fails 1 = .ok (.iload_n 1, 1) := by decide +kernel
theorem dX9_fails_2 : decode cX9_fails 2 = .ok (.ifCond .eq 7, 3) := by decide +kernel
theorem dX9_fails_5 : decode cX9_fails 5 = .ok (.iload_n 2, 1) := by decide +kernel
theorem dX9_fails_6 : decode cX9_fails 6 = .ok (.goto 4, 3) := by decide +kernel
theorem dX9_fails_9 : decode cX9_fails 9 = .ok (.iconst 0, 1) := by decide +kernel
theorem dX9_fails_10 : decode cX9_fails 10 = .ok (.putfield 118, 3) := by decide +kernel
theorem dX9_fails_13 : decode cX9_fails 13 = .ok (.iload_n 1, 1) := by decide +kernel
theorem dX9_fails_14 : decode cX9_fails 14 = .ok (.ireturn, 1) := by decide +kernel
theorem dX9_in_0 : decode cX9_in 0 = .ok (.lload_n 0, 1) := by decide +kernel
theorem dX9_in_1 : decode cX9_in 1 = .ok (.lload_n 2, 1) := by decide +kernel
theorem dX9_in_2 : decode cX9_in 2 = .ok (.lcmp, 1) := by decide +kernel
theorem dX9_in_3 : decode cX9_in 3 = .ok (.ifCond .lt 14, 3) := by decide +kernel
theorem dX9_in_6 : decode cX9_in 6 = .ok (.lload_n 0, 1) := by decide +kernel
theorem dX9_in_7 : decode cX9_in 7 = .ok (.lload 4, 2) := by decide +kernel
theorem dX9_in_9 : decode cX9_in 9 = .ok (.lcmp, 1) := by decide +kernel
theorem dX9_in_10 : decode cX9_in 10 = .ok (.ifCond .gt 7, 3) := by decide +kernel
theorem dX9_in_13 : decode cX9_in 13 = .ok (.iconst 1, 1) := by decide +kernel
theorem dX9_in_14 : decode cX9_in 14 = .ok (.goto 4, 3) := by decide +kernel
theorem dX9_in_17 : decode cX9_in 17 = .ok (.iconst 0, 1) := by decide +kernel
theorem dX9_in_18 : decode cX9_in 18 = .ok (.ireturn, 1) := by decide +kernel
theorem dX9_get_0 : decode cX9_get 0 = .ok (.lconst 0, 1) := by decide +kernel
theorem dX9_get_1 : decode cX9_get 1 = .ok (.lstore_n 3, 1) := by decide +kernel
theorem dX9_get_2 : decode cX9_get 2 = .ok (.iconst 0, 1) := by decide +kernel
theorem dX9_get_3 : decode cX9_get 3 = .ok (.istore 5, 2) := by decide +kernel
theorem dX9_get_5 : decode cX9_get 5 = .ok (.iload 5, 2) := by decide +kernel
theorem dX9_get_7 : decode cX9_get 7 = .ok (.iload_n 2, 1) := by decide +kernel
theorem dX9_get_8 : decode cX9_get 8 = .ok (.if_icmp .ge 28, 3) := by decide +kernel
theorem dX9_get_11 : decode cX9_get 11 = .ok (.lload_n 3, 1) := by decide +kernel
theorem dX9_get_12 : decode cX9_get 12 = .ok (.aload_n 0, 1) := by decide +kernel
theorem dX9_get_13 : decode cX9_get 13 = .ok (.getfield 7, 3) := by decide +kernel
theorem dX9_get_16 : decode cX9_get 16 = .ok (.iload_n 1, 1) := by decide +kernel
theorem dX9_get_17 : decode cX9_get 17 = .ok (.iload 5, 2) := by decide +kernel
theorem dX9_get_19 : decode cX9_get 19 = .ok (.iadd, 1) := by decide +kernel
theorem dX9_get_20 : decode cX9_get 20 = .ok (.iaload, 1) := by decide +kernel
theorem dX9_get_21 : decode cX9_get 21 = .ok (.i2l, 1) := by decide +kernel
theorem dX9_get_22 : decode cX9_get 22 = .ok (.bipush 8, 2) := by decide +kernel
theorem dX9_get_24 : decode cX9_get 24 = .ok (.iload 5, 2) := by decide +kernel
theorem dX9_get_26 : decode cX9_get 26 = .ok (.imul, 1) := by decide +kernel
theorem dX9_get_27 : decode cX9_get 27 = .ok (.lshl, 1) := by decide +kernel
theorem dX9_get_28 : decode cX9_get 28 = .ok (.ladd, 1) := by decide +kernel
theorem dX9_get_29 : decode cX9_get 29 = .ok (.lstore_n 3, 1) := by decide +kernel
theorem dX9_get_30 : decode cX9_get 30 = .ok (.iinc 5 1, 3) := by decide +kernel
theorem dX9_get_33 : decode cX9_get 33 = .ok (.goto (-28), 3) := by decide +kernel
theorem dX9_get_36 : decode cX9_get 36 = .ok (.lload_n 3, 1) := by decide +kernel
theorem dX9_get_37 : decode cX9_get 37 = .ok (.lreturn, 1) := by decide +kernel
theorem dX9_reads_0 : decode cX9_reads 0 = .ok (.aload_n 0, 1) := by decide +kernel
theorem dX9_reads_1 : decode cX9_reads 1 = .ok (.iconst 0, 1) := by decide +kernel
theorem dX9_reads_2 : decode cX9_reads 2 = .ok (.putfield 122, 3) := by decide +kernel
theorem dX9_reads_5 : decode cX9_reads 5 = .ok (.aload_n 0, 1) := by decide +kernel
theorem dX9_reads_6 : decode cX9_reads 6 = .ok (.iconst 0, 1) := by decide +kernel
theorem dX9_reads_7 : decode cX9_reads 7 = .ok (.putfield 125, 3) := by decide +kernel
theorem dX9_reads_10 : decode cX9_reads 10 = .ok (.aload_n 0, 1) := by decide +kernel
theorem dX9_reads_11 : decode cX9_reads 11 = .ok (.iconst 0, 1) := by decide +kernel
theorem dX9_reads_12 : decode cX9_reads 12 = .ok (.putfield 128, 3) := by decide +kernel
theorem dX9_reads_15 : decode cX9_reads 15 = .ok (.aload_n 0, 1) := by decide +kernel
theorem dX9_reads_16 : decode cX9_reads 16 = .ok (.getfield 131, 3) := by decide +kernel
theorem dX9_reads_19 : decode cX9_reads 19 = .ok (.bipush 24, 2) := by decide +kernel
theorem dX9_reads_21 : decode cX9_reads 21 = .ok (.if_icmp .ge 5, 3) := by decide +kernel
theorem dX9_reads_24 : decode cX9_reads 24 = .ok (.iconst 1, 1) := by decide +kernel
theorem dX9_reads_25 : decode cX9_reads 25 = .ok (.ireturn, 1) := by decide +kernel
theorem dX9_reads_26 : decode cX9_reads 26 = .ok (.aload_n 0, 1) := by decide +kernel
theorem dX9_reads_27 : decode cX9_reads 27 = .ok (.iconst 0, 1) := by decide +kernel
theorem dX9_reads_28 : decode cX9_reads 28 = .ok (.iconst 2, 1) := by decide +kernel
theorem dX9_reads_29 : decode cX9_reads 29 = .ok (.invokevirtual 134, 3) := by decide +kernel
theorem dX9_reads_32 : decode cX9_reads 32 = .ok (.ldc2_w 138, 3) := by decide +kernel
theorem dX9_reads_35 : decode cX9_reads 35 = .ok (.lcmp, 1) := by decide +kernel
theorem dX9_reads_36 : decode cX9_reads 36 = .ok (.ifCond .ne 51, 3) := by decide +kernel
theorem dX9_reads_39 : decode cX9_reads 39 = .ok (.aload_n 0, 1) := by decide +kernel
theorem dX9_reads_40 : decode cX9_reads 40 = .ok (.getfield 7, 3) := by decide +kernel
theorem dX9_reads_43 : decode cX9_reads 43 = .ok (.iconst 2, 1) := by decide +kernel
theorem dX9_reads_44 : decode cX9_reads 44 = .ok (.iaload, 1) := by decide +kernel
theorem dX9_reads_45 : decode cX9_reads 45 = .ok (.iconst 1, 1) := by decide +kernel
theorem dX9_reads_46 : decode cX9_reads 46 = .ok (.if_icmp .ne 41, 3) := by decide +kernel
theorem dX9_reads_49 : decode cX9_reads 49 = .ok (.aload_n 0, 1) := by decide +kernel
theorem dX9_reads_50 : decode cX9_reads 50 = .ok (.getfield 7, 3) := by decide +kernel
theorem dX9_reads_53 : decode cX9_reads 53 = .ok (.iconst 3, 1) := by decide +kernel
theorem dX9_reads_54 : decode cX9_reads 54 = .ok (.iaload, 1) := by decide +kernel
theorem dX9_reads_55 : decode cX9_reads 55 = .ok (.ifCond .ne 32, 3) := by decide +kernel
theorem dX9_reads_58 : decode cX9_reads 58 = .ok (.aload_n 0, 1) := by decide +kernel
theorem dX9_reads_59 : decode cX9_reads 59 = .ok (.iconst 4, 1) := by decide +kernel
theorem dX9_reads_60 : decode cX9_reads 60 = .ok (.iconst 4, 1) := by decide +kernel
theorem dX9_reads_61 : decode cX9_reads 61 = .ok (.invokevirtual 134, 3) := by decide +kernel
theorem dX9_reads_64 : decode cX9_reads 64 = .ok (.ldc2_w 140, 3) := by decide +kernel
theorem dX9_reads_67 : decode cX9_reads 67 = .ok (.lcmp, 1) := by decide +kernel
theorem dX9_reads_68 : decode cX9_reads 68 = .ok (.ifCond .ne 19, 3) := by decide +kernel
theorem dX9_reads_71 : decode cX9_reads 71 = .ok (.aload_n 0, 1) := by decide +kernel
theorem dX9_reads_72 : decode cX9_reads 72 = .ok (.bipush 8, 2) := by decide +kernel
theorem dX9_reads_74 : decode cX9_reads 74 = .ok (.iconst 4, 1) := by decide +kernel
theorem dX9_reads_75 : decode cX9_reads 75 = .ok (.invokevirtual 134, 3) := by decide +kernel
theorem dX9_reads_78 : decode cX9_reads 78 = .ok (.lconst 0, 1) := by decide +kernel
theorem dX9_reads_79 : decode cX9_reads 79 = .ok (.lcmp, 1) := by decide +kernel
theorem dX9_reads_80 : decode cX9_reads 80 = .ok (.ifCond .ne 7, 3) := by decide +kernel
theorem dX9_reads_83 : decode cX9_reads 83 = .ok (.iconst 1, 1) := by decide +kernel
theorem dX9_reads_84 : decode cX9_reads 84 = .ok (.goto 4, 3) := by decide +kernel
theorem dX9_reads_87 : decode cX9_reads 87 = .ok (.iconst 0, 1) := by decide +kernel
theorem dX9_reads_88 : decode cX9_reads 88 = .ok (.istore_n 1, 1) := by decide +kernel
theorem dX9_reads_89 : decode cX9_reads 89 = .ok (.iload_n 1, 1) := by decide +kernel
theorem dX9_reads_90 : decode cX9_reads 90 = .ok (.ifCond .ne 5, 3) := by decide +kernel
theorem dX9_reads_93 : decode cX9_reads 93 = .ok (.iconst 1, 1) := by decide +kernel
theorem dX9_reads_94 : decode cX9_reads 94 = .ok (.ireturn, 1) := by decide +kernel
theorem dX9_reads_95 : decode cX9_reads 95 = .ok (.aload_n 0, 1) := by decide +kernel
theorem dX9_reads_96 : decode cX9_reads 96 = .ok (.bipush 12, 2) := by decide +kernel
theorem dX9_reads_98 : decode cX9_reads 98 = .ok (.iconst 4, 1) := by decide +kernel
theorem dX9_reads_99 : decode cX9_reads 99 = .ok (.invokevirtual 134, 3) := by decide +kernel
theorem dX9_reads_102 : decode cX9_reads 102 = .ok (.lstore_n 2, 1) := by decide +kernel
theorem dX9_reads_103 : decode cX9_reads 103 = .ok (.aload_n 0, 1) := by decide +kernel
theorem dX9_reads_104 : decode cX9_reads 104 = .ok (.bipush 20, 2) := by decide +kernel
theorem dX9_reads_106 : decode cX9_reads 106 = .ok (.iconst 4, 1) := by decide +kernel
theorem dX9_reads_107 : decode cX9_reads 107 = .ok (.invokevirtual 134, 3) := by decide +kernel
theorem dX9_reads_110 : decode cX9_reads 110 = .ok (.lstore 4, 2) := by decide +kernel
theorem dX9_reads_112 : decode cX9_reads 112 = .ok (.aload_n 0, 1) := by decide +kernel
theorem dX9_reads_113 : decode cX9_reads 113 = .ok (.bipush 16, 2) := by decide +kernel
theorem dX9_reads_115 : decode cX9_reads 115 = .ok (.iconst 4, 1) := by decide +kernel
theorem dX9_reads_116 : decode cX9_reads 116 = .ok (.invokevirtual 134, 3) := by decide +kernel
theorem dX9_reads_119 : decode cX9_reads 119 = .ok (.lload_n 2, 1) := by decide +kernel
theorem dX9_reads_120 : decode cX9_reads 120 = .ok (.lcmp, 1) := by decide +kernel
theorem dX9_reads_121 : decode cX9_reads 121 = .ok (.ifCond .ne 27, 3) := by decide +kernel
theorem dX9_reads_124 : decode cX9_reads 124 = .ok (.ldc2_w 140, 3) := by decide +kernel
theorem dX9_reads_127 : decode cX9_reads 127 = .ok (.lload_n 2, 1) := by decide +kernel
theorem dX9_reads_128 : decode cX9_reads 128 = .ok (.ladd, 1) := by decide +kernel
theorem dX9_reads_129 : decode cX9_reads 129 = .ok (.lload 4, 2) := by decide +kernel
theorem dX9_reads_131 : decode cX9_reads 131 = .ok (.ladd, 1) := by decide +kernel
theorem dX9_reads_132 : decode cX9_reads 132 = .ok (.aload_n 0, 1) := by decide +kernel
theorem dX9_reads_133 : decode cX9_reads 133 = .ok (.getfield 131, 3) := by decide +kernel
theorem dX9_reads_136 : decode cX9_reads 136 = .ok (.i2l, 1) := by decide +kernel
theorem dX9_reads_137 : decode cX9_reads 137 = .ok (.lcmp, 1) := by decide +kernel
theorem dX9_reads_138 : decode cX9_reads 138 = .ok (.ifCond .ne 10, 3) := by decide +kernel
theorem dX9_reads_141 : decode cX9_reads 141 = .ok (.lload 4, 2) := by decide +kernel
theorem dX9_reads_143 : decode cX9_reads 143 = .ok (.lconst 0, 1) := by decide +kernel
theorem dX9_reads_144 : decode cX9_reads 144 = .ok (.lcmp, 1) := by decide +kernel
theorem dX9_reads_145 : decode cX9_reads 145 = .ok (.ifCond .ne 5, 3) := by decide +kernel
theorem dX9_reads_148 : decode cX9_reads 148 = .ok (.iconst 2, 1) := by decide +kernel
theorem dX9_reads_149 : decode cX9_reads 149 = .ok (.ireturn, 1) := by decide +kernel
theorem dX9_reads_150 : decode cX9_reads 150 = .ok (.aload_n 0, 1) := by decide +kernel
theorem dX9_reads_151 : decode cX9_reads 151 = .ok (.bipush 24, 2) := by decide +kernel
theorem dX9_reads_153 : decode cX9_reads 153 = .ok (.lload_n 2, 1) := by decide +kernel
theorem dX9_reads_154 : decode cX9_reads 154 = .ok (.l2i, 1) := by decide +kernel
theorem dX9_reads_155 : decode cX9_reads 155 = .ok (.iadd, 1) := by decide +kernel
theorem dX9_reads_156 : decode cX9_reads 156 = .ok (.putfield 142, 3) := by decide +kernel
theorem dX9_reads_159 : decode cX9_reads 159 = .ok (.aload_n 0, 1) := by decide +kernel
theorem dX9_reads_160 : decode cX9_reads 160 = .ok (.aload_n 0, 1) := by decide +kernel
theorem dX9_reads_161 : decode cX9_reads 161 = .ok (.getfield 131, 3) := by decide +kernel
theorem dX9_reads_164 : decode cX9_reads 164 = .ok (.putfield 145, 3) := by decide +kernel
theorem dX9_reads_167 : decode cX9_reads 167 = .ok (.aload_n 0, 1) := by decide +kernel
theorem dX9_reads_168 : decode cX9_reads 168 = .ok (.getfield 7, 3) := by decide +kernel
theorem dX9_reads_171 : decode cX9_reads 171 = .ok (.aload_n 0, 1) := by decide +kernel
theorem dX9_reads_172 : decode cX9_reads 172 = .ok (.getfield 142, 3) := by decide +kernel
theorem dX9_reads_175 : decode cX9_reads 175 = .ok (.iaload, 1) := by decide +kernel
theorem dX9_reads_176 : decode cX9_reads 176 = .ok (.ifCond .ne 17, 3) := by decide +kernel
theorem dX9_reads_179 : decode cX9_reads 179 = .ok (.aload_n 0, 1) := by decide +kernel
theorem dX9_reads_180 : decode cX9_reads 180 = .ok (.getfield 7, 3) := by decide +kernel
theorem dX9_reads_183 : decode cX9_reads 183 = .ok (.aload_n 0, 1) := by decide +kernel
theorem dX9_reads_184 : decode cX9_reads 184 = .ok (.getfield 145, 3) := by decide +kernel
theorem dX9_reads_187 : decode cX9_reads 187 = .ok (.iconst 1, 1) := by decide +kernel
theorem dX9_reads_188 : decode cX9_reads 188 = .ok (.isub, 1) := by decide +kernel
theorem dX9_reads_189 : decode cX9_reads 189 = .ok (.iaload, 1) := by decide +kernel
theorem dX9_reads_190 : decode cX9_reads 190 = .ok (.ifCond .eq 5, 3) := by decide +kernel
theorem dX9_reads_193 : decode cX9_reads 193 = .ok (.iconst 2, 1) := by decide +kernel
theorem dX9_reads_194 : decode cX9_reads 194 = .ok (.ireturn, 1) := by decide +kernel
theorem dX9_reads_195 : decode cX9_reads 195 = .ok (.bipush 24, 2) := by decide +kernel
theorem dX9_reads_197 : decode cX9_reads 197 = .ok (.istore 6, 2) := by decide +kernel
theorem dX9_reads_199 : decode cX9_reads 199 = .ok (.aload_n 0, 1) := by decide +kernel
theorem dX9_reads_200 : decode cX9_reads 200 = .ok (.getfield 83, 3) := by decide +kernel
theorem dX9_reads_203 : decode cX9_reads 203 = .ok (.iconst 1, 1) := by decide +kernel
theorem dX9_reads_204 : decode cX9_reads 204 = .ok (.iconst 0, 1) := by decide +kernel
theorem dX9_reads_205 : decode cX9_reads 205 = .ok (.iastore, 1) := by decide +kernel
theorem dX9_reads_206 : decode cX9_reads 206 = .ok (.iload 6, 2) := by decide +kernel
theorem dX9_reads_208 : decode cX9_reads 208 = .ok (.aload_n 0, 1) := by decide +kernel
theorem dX9_reads_209 : decode cX9_reads 209 = .ok (.getfield 142, 3) := by decide +kernel
theorem dX9_reads_212 : decode cX9_reads 212 = .ok (.if_icmp .ge 108, 3) := by decide +kernel
theorem dX9_reads_215 : decode cX9_reads 215 = .ok (.aload_n 0, 1) := by decide +kernel
theorem dX9_reads_216 : decode cX9_reads 216 = .ok (.aload_n 0, 1) := by decide +kernel
theorem dX9_reads_217 : decode cX9_reads 217 = .ok (.getfield 125, 3) := by decide +kernel
theorem dX9_reads_220 : decode cX9_reads 220 = .ok (.iconst 1, 1) := by decide +kernel
theorem dX9_reads_221 : decode cX9_reads 221 = .ok (.iadd, 1) := by decide +kernel
theorem dX9_reads_222 : decode cX9_reads 222 = .ok (.putfield 122, 3) := by decide +kernel
theorem dX9_reads_225 : decode cX9_reads 225 = .ok (.aload_n 0, 1) := by decide +kernel
theorem dX9_reads_226 : decode cX9_reads 226 = .ok (.getfield 142, 3) := by decide +kernel
theorem dX9_reads_229 : decode cX9_reads 229 = .ok (.iload 6, 2) := by decide +kernel
theorem dX9_reads_231 : decode cX9_reads 231 = .ok (.isub, 1) := by decide +kernel
theorem dX9_reads_232 : decode cX9_reads 232 = .ok (.bipush 12, 2) := by decide +kernel
theorem dX9_reads_234 : decode cX9_reads 234 = .ok (.if_icmp .ge 5, 3) := by decide +kernel
theorem dX9_reads_237 : decode cX9_reads 237 = .ok (.iconst 3, 1) := by decide +kernel
theorem dX9_reads_238 : decode cX9_reads 238 = .ok (.ireturn, 1) := by decide +kernel
theorem dX9_reads_239 : decode cX9_reads 239 = .ok (.bipush 12, 2) := by decide +kernel
theorem dX9_reads_241 : decode cX9_reads 241 = .ok (.aload_n 0, 1) := by decide +kernel
theorem dX9_reads_242 : decode cX9_reads 242 = .ok (.iload 6, 2) := by decide +kernel
theorem dX9_reads_244 : decode cX9_reads 244 = .ok (.iconst 4, 1) := by decide +kernel
theorem dX9_reads_245 : decode cX9_reads 245 = .ok (.iadd, 1) := by decide +kernel
theorem dX9_reads_246 : decode cX9_reads 246 = .ok (.iconst 4, 1) := by decide +kernel
theorem dX9_reads_247 : decode cX9_reads 247 = .ok (.invokevirtual 134, 3) := by decide +kernel
theorem dX9_reads_250 : decode cX9_reads 250 = .ok (.bipush 24, 2) := by decide +kernel
theorem dX9_reads_252 : decode cX9_reads 252 = .ok (.lshr, 1) := by decide +kernel
theorem dX9_reads_253 : decode cX9_reads 253 = .ok (.ldc2_w 148, 3) := by decide +kernel
theorem dX9_reads_256 : decode cX9_reads 256 = .ok (.land, 1) := by decide +kernel
theorem dX9_reads_257 : decode cX9_reads 257 = .ok (.l2i, 1) := by decide +kernel
theorem dX9_reads_258 : decode cX9_reads 258 = .ok (.aload_n 0, 1) := by decide +kernel
theorem dX9_reads_259 : decode cX9_reads 259 = .ok (.iload 6, 2) := by decide +kernel
theorem dX9_reads_261 : decode cX9_reads 261 = .ok (.iconst 4, 1) := by decide +kernel
theorem dX9_reads_262 : decode cX9_reads 262 = .ok (.iadd, 1) := by decide +kernel
theorem dX9_reads_263 : decode cX9_reads 263 = .ok (.iconst 2, 1) := by decide +kernel
theorem dX9_reads_264 : decode cX9_reads 264 = .ok (.invokevirtual 134, 3) := by decide +kernel
theorem dX9_reads_267 : decode cX9_reads 267 = .ok (.l2i, 1) := by decide +kernel
theorem dX9_reads_268 : decode cX9_reads 268 = .ok (.invokestatic 150, 3) := by decide +kernel
theorem dX9_reads_271 : decode cX9_reads 271 = .ok (.iadd, 1) := by decide +kernel
theorem dX9_reads_272 : decode cX9_reads 272 = .ok (.istore 7, 2) := by decide +kernel
theorem dX9_reads_274 : decode cX9_reads 274 = .ok (.aload_n 0, 1) := by decide +kernel
theorem dX9_reads_275 : decode cX9_reads 275 = .ok (.getfield 142, 3) := by decide +kernel
theorem dX9_reads_278 : decode cX9_reads 278 = .ok (.iload 6, 2) := by decide +kernel
theorem dX9_reads_280 : decode cX9_reads 280 = .ok (.isub, 1) := by decide +kernel
theorem dX9_reads_281 : decode cX9_reads 281 = .ok (.iload 7, 2) := by decide +kernel
theorem dX9_reads_283 : decode cX9_reads 283 = .ok (.if_icmp .ge 5, 3) := by decide +kernel
theorem dX9_reads_286 : decode cX9_reads 286 = .ok (.iconst 3, 1) := by decide +kernel
theorem dX9_reads_287 : decode cX9_reads 287 = .ok (.ireturn, 1) := by decide +kernel
theorem dX9_reads_288 : decode cX9_reads 288 = .ok (.aload_n 0, 1) := by decide +kernel
theorem dX9_reads_289 : decode cX9_reads 289 = .ok (.iload 6, 2) := by decide +kernel
theorem dX9_reads_291 : decode cX9_reads 291 = .ok (.invokevirtual 154, 3) := by decide +kernel
theorem dX9_reads_294 : decode cX9_reads 294 = .ok (.ifCond .ne 5, 3) := by decide +kernel
theorem dX9_reads_297 : decode cX9_reads 297 = .ok (.iconst 4, 1) := by decide +kernel
theorem dX9_reads_298 : decode cX9_reads 298 = .ok (.ireturn, 1) := by decide +kernel
theorem dX9_reads_299 : decode cX9_reads 299 = .ok (.aload_n 0, 1) := by decide +kernel
theorem dX9_reads_300 : decode cX9_reads 300 = .ok (.iload 6, 2) := by decide +kernel
theorem dX9_reads_302 : decode cX9_reads 302 = .ok (.invokevirtual 158, 3) := by decide +kernel
theorem dX9_reads_305 : decode cX9_reads 305 = .ok (.ifCond .ne 5, 3) := by decide +kernel
theorem dX9_reads_308 : decode cX9_reads 308 = .ok (.iconst 5, 1) := by decide +kernel
theorem dX9_reads_309 : decode cX9_reads 309 = .ok (.ireturn, 1) := by decide +kernel
theorem dX9_reads_310 : decode cX9_reads 310 = .ok (.iload 6, 2) := by decide +kernel
theorem dX9_reads_312 : decode cX9_reads 312 = .ok (.iload 7, 2) := by decide +kernel
theorem dX9_reads_314 : decode cX9_reads 314 = .ok (.iadd, 1) := by decide +kernel
theorem dX9_reads_315 : decode cX9_reads 315 = .ok (.istore 6, 2) := by decide +kernel
theorem dX9_reads_317 : decode cX9_reads 317 = .ok (.goto (-111), 3) := by decide +kernel
theorem dX9_reads_320 : decode cX9_reads 320 = .ok (.aload_n 0, 1) := by decide +kernel
theorem dX9_reads_321 : decode cX9_reads 321 = .ok (.iconst 0, 1) := by decide +kernel
theorem dX9_reads_322 : decode cX9_reads 322 = .ok (.putfield 122, 3) := by decide +kernel
theorem dX9_reads_325 : decode cX9_reads 325 = .ok (.iconst 1, 1) := by decide +kernel
theorem dX9_reads_326 : decode cX9_reads 326 = .ok (.istore 7, 2) := by decide +kernel
theorem dX9_reads_328 : decode cX9_reads 328 = .ok (.iload 7, 2) := by decide +kernel
theorem dX9_reads_330 : decode cX9_reads 330 = .ok (.aload_n 0, 1) := by decide +kernel
theorem dX9_reads_331 : decode cX9_reads 331 = .ok (.getfield 125, 3) := by decide +kernel
theorem dX9_reads_334 : decode cX9_reads 334 = .ok (.if_icmp .gt 21, 3) := by decide +kernel
theorem dX9_reads_337 : decode cX9_reads 337 = .ok (.aload_n 0, 1) := by decide +kernel
theorem dX9_reads_338 : decode cX9_reads 338 = .ok (.iload 7, 2) := by decide +kernel
theorem dX9_reads_340 : decode cX9_reads 340 = .ok (.invokevirtual 161, 3) := by decide +kernel
theorem dX9_reads_343 : decode cX9_reads 343 = .ok (.ifCond .ne 6, 3) := by decide +kernel
theorem dX9_reads_346 : decode cX9_reads 346 = .ok (.bipush 6, 2) := by decide +kernel
theorem dX9_reads_348 : decode cX9_reads 348 = .ok (.ireturn, 1) := by decide +kernel
theorem dX9_reads_349 : decode cX9_reads 349 = .ok (.iinc 7 1, 3) := by decide +kernel
theorem dX9_reads_352 : decode cX9_reads 352 = .ok (.goto (-24), 3) := by decide +kernel
theorem dX9_reads_355 : decode cX9_reads 355 = .ok (.iconst 0, 1) := by decide +kernel
theorem dX9_reads_356 : decode cX9_reads 356 = .ok (.ireturn, 1) := by decide +kernel
theorem dX9_behind_0 : decode cX9_behind 0 = .ok (.iload_n 0, 1) := by decide +kernel
theorem dX9_behind_1 : decode cX9_behind 1 = .ok (.iconst 1, 1) := by decide +kernel
theorem dX9_behind_2 : decode cX9_behind 2 = .ok (.if_icmp .ne 5, 3) := by decide +kernel
theorem dX9_behind_5 : decode cX9_behind 5 = .ok (.iconst 4, 1) := by decide +kernel
theorem dX9_behind_6 : decode cX9_behind 6 = .ok (.ireturn, 1) := by decide +kernel
theorem dX9_behind_7 : decode cX9_behind 7 = .ok (.iload_n 0, 1) := by decide +kernel
theorem dX9_behind_8 : decode cX9_behind 8 = .ok (.iconst 3, 1) := by decide +kernel
theorem dX9_behind_9 : decode cX9_behind 9 = .ok (.if_icmp .ne 6, 3) := by decide +kernel
theorem dX9_behind_12 : decode cX9_behind 12 = .ok (.bipush 12, 2) := by decide +kernel
theorem dX9_behind_14 : decode cX9_behind 14 = .ok (.ireturn, 1) := by decide +kernel
theorem dX9_behind_15 : decode cX9_behind 15 = .ok (.iload_n 0, 1) := by decide +kernel
theorem dX9_behind_16 : decode cX9_behind 16 = .ok (.iconst 4, 1) := by decide +kernel
theorem dX9_behind_17 : decode cX9_behind 17 = .ok (.if_icmp .eq 8, 3) := by decide +kernel
theorem dX9_behind_20 : decode cX9_behind 20 = .ok (.iload_n 0, 1) := by decide +kernel
theorem dX9_behind_21 : decode cX9_behind 21 = .ok (.iconst 5, 1) := by decide +kernel
theorem dX9_behind_22 : decode cX9_behind 22 = .ok (.if_icmp .ne 8, 3) := by decide +kernel
theorem dX9_behind_25 : decode cX9_behind 25 = .ok (.bipush 12, 2) := by decide +kernel
theorem dX9_behind_27 : decode cX9_behind 27 = .ok (.iload_n 1, 1) := by decide +kernel
theorem dX9_behind_28 : decode cX9_behind 28 = .ok (.imul, 1) := by decide +kernel
theorem dX9_behind_29 : decode cX9_behind 29 = .ok (.ireturn, 1) := by decide +kernel
theorem dX9_behind_30 : decode cX9_behind 30 = .ok (.iload_n 0, 1) := by decide +kernel
theorem dX9_behind_31 : decode cX9_behind 31 = .ok (.bipush 6, 2) := by decide +kernel
theorem dX9_behind_33 : decode cX9_behind 33 = .ok (.if_icmp .eq 9, 3) := by decide +kernel
theorem dX9_behind_36 : decode cX9_behind 36 = .ok (.iload_n 0, 1) := by decide +kernel
theorem dX9_behind_37 : decode cX9_behind 37 = .ok (.bipush 13, 2) := by decide +kernel
theorem dX9_behind_39 : decode cX9_behind 39 = .ok (.if_icmp .ne 10, 3) := by decide +kernel
theorem dX9_behind_42 : decode cX9_behind 42 = .ok (.bipush 8, 2) := by decide +kernel
theorem dX9_behind_44 : decode cX9_behind 44 = .ok (.iload_n 1, 1) := by decide +kernel
theorem dX9_behind_45 : decode cX9_behind 45 = .ok (.imul, 1) := by decide +kernel
theorem dX9_behind_46 : decode cX9_behind 46 = .ok (.goto 4, 3) := by decide +kernel
theorem dX9_behind_49 : decode cX9_behind 49 = .ok (.iconst 0, 1) := by decide +kernel
theorem dX9_behind_50 : decode cX9_behind 50 = .ok (.ireturn, 1) := by decide +kernel
theorem dX9_isPower_0 : decode cX9_isPower 0 = .ok (.lload_n 0, 1) := by decide +kernel
theorem dX9_isPower_1 : decode cX9_isPower 1 = .ok (.lconst 1, 1) := by decide +kernel
theorem dX9_isPower_2 : decode cX9_isPower 2 = .ok (.lcmp, 1) := by decide +kernel
theorem dX9_isPower_3 : decode cX9_isPower 3 = .ok (.ifCond .eq 41, 3) := by decide +kernel
theorem dX9_isPower_6 : decode cX9_isPower 6 = .ok (.lload_n 0, 1) := by decide +kernel
theorem dX9_isPower_7 : decode cX9_isPower 7 = .ok (.ldc2_w 164, 3) := by decide +kernel
theorem dX9_isPower_10 : decode cX9_isPower 10 = .ok (.lcmp, 1) := by decide +kernel
theorem dX9_isPower_11 : decode cX9_isPower 11 = .ok (.ifCond .eq 33, 3) := by decide +kernel
theorem dX9_isPower_14 : decode cX9_isPower 14 = .ok (.lload_n 0, 1) := by decide +kernel
theorem dX9_isPower_15 : decode cX9_isPower 15 = .ok (.ldc2_w 166, 3) := by decide +kernel
theorem dX9_isPower_18 : decode cX9_isPower 18 = .ok (.lcmp, 1) := by decide +kernel
theorem dX9_isPower_19 : decode cX9_isPower 19 = .ok (.ifCond .eq 25, 3) := by decide +kernel
theorem dX9_isPower_22 : decode cX9_isPower 22 = .ok (.lload_n 0, 1) := by decide +kernel
theorem dX9_isPower_23 : decode cX9_isPower 23 = .ok (.ldc2_w 168, 3) := by decide +kernel
theorem dX9_isPower_26 : decode cX9_isPower 26 = .ok (.lcmp, 1) := by decide +kernel
theorem dX9_isPower_27 : decode cX9_isPower 27 = .ok (.ifCond .eq 17, 3) := by decide +kernel
theorem dX9_isPower_30 : decode cX9_isPower 30 = .ok (.lload_n 0, 1) := by decide +kernel
theorem dX9_isPower_31 : decode cX9_isPower 31 = .ok (.ldc2_w 170, 3) := by decide +kernel
theorem dX9_isPower_34 : decode cX9_isPower 34 = .ok (.lcmp, 1) := by decide +kernel
theorem dX9_isPower_35 : decode cX9_isPower 35 = .ok (.ifCond .ne 13, 3) := by decide +kernel
theorem dX9_isPower_38 : decode cX9_isPower 38 = .ok (.iload_n 2, 1) := by decide +kernel
theorem dX9_isPower_39 : decode cX9_isPower 39 = .ok (.bipush 16, 2) := by decide +kernel
theorem dX9_isPower_41 : decode cX9_isPower 41 = .ok (.if_icmp .ne 7, 3) := by decide +kernel
theorem dX9_isPower_44 : decode cX9_isPower 44 = .ok (.iconst 1, 1) := by decide +kernel
theorem dX9_isPower_45 : decode cX9_isPower 45 = .ok (.goto 4, 3) := by decide +kernel
theorem dX9_isPower_48 : decode cX9_isPower 48 = .ok (.iconst 0, 1) := by decide +kernel
theorem dX9_isPower_49 : decode cX9_isPower 49 = .ok (.ireturn, 1) := by decide +kernel
theorem dX9_isTold_0 : decode cX9_isTold 0 = .ok (.aload_n 0, 1) := by decide +kernel
theorem dX9_isTold_1 : decode cX9_isTold 1 = .ok (.getfield 7, 3) := by decide +kernel
theorem dX9_isTold_4 : decode cX9_isTold 4 = .ok (.iload_n 1, 1) := by decide +kernel
theorem dX9_isTold_5 : decode cX9_isTold 5 = .ok (.bipush 7, 2) := by decide +kernel
theorem dX9_isTold_7 : decode cX9_isTold 7 = .ok (.iadd, 1) := by decide +kernel
theorem dX9_isTold_8 : decode cX9_isTold 8 = .ok (.iaload, 1) := by decide +kernel
theorem dX9_isTold_9 : decode cX9_isTold 9 = .ok (.bipush 31, 2) := by decide +kernel
theorem dX9_isTold_11 : decode cX9_isTold 11 = .ok (.iand, 1) := by decide +kernel
theorem dX9_isTold_12 : decode cX9_isTold 12 = .ok (.istore_n 2, 1) := by decide +kernel
theorem dX9_isTold_13 : decode cX9_isTold 13 = .ok (.aload_n 0, 1) := by decide +kernel
theorem dX9_isTold_14 : decode cX9_isTold 14 = .ok (.iload_n 1, 1) := by decide +kernel
theorem dX9_isTold_15 : decode cX9_isTold 15 = .ok (.iconst 4, 1) := by decide +kernel
theorem dX9_isTold_16 : decode cX9_isTold 16 = .ok (.iadd, 1) := by decide +kernel
theorem dX9_isTold_17 : decode cX9_isTold 17 = .ok (.iconst 2, 1) := by decide +kernel
theorem dX9_isTold_18 : decode cX9_isTold 18 = .ok (.invokevirtual 134, 3) := by decide +kernel
theorem dX9_isTold_21 : decode cX9_isTold 21 = .ok (.l2i, 1) := by decide +kernel
theorem dX9_isTold_22 : decode cX9_isTold 22 = .ok (.istore_n 3, 1) := by decide +kernel
theorem dX9_isTold_23 : decode cX9_isTold 23 = .ok (.aload_n 0, 1) := by decide +kernel
theorem dX9_isTold_24 : decode cX9_isTold 24 = .ok (.iload_n 1, 1) := by decide +kernel
theorem dX9_isTold_25 : decode cX9_isTold 25 = .ok (.bipush 8, 2) := by decide +kernel
theorem dX9_isTold_27 : decode cX9_isTold 27 = .ok (.iadd, 1) := by decide +kernel
theorem dX9_isTold_28 : decode cX9_isTold 28 = .ok (.iconst 4, 1) := by decide +kernel
theorem dX9_isTold_29 : decode cX9_isTold 29 = .ok (.invokevirtual 134, 3) := by decide +kernel
theorem dX9_isTold_32 : decode cX9_isTold 32 = .ok (.lstore 4, 2) := by decide +kernel
theorem dX9_isTold_34 : decode cX9_isTold 34 = .ok (.aload_n 0, 1) := by decide +kernel
theorem dX9_isTold_35 : decode cX9_isTold 35 = .ok (.getfield 125, 3) := by decide +kernel
theorem dX9_isTold_38 : decode cX9_isTold 38 = .ok (.sipush 200, 3) := by decide +kernel
theorem dX9_isTold_41 : decode cX9_isTold 41 = .ok (.if_icmp .eq 41, 3) := by decide +kernel
theorem dX9_isTold_44 : decode cX9_isTold 44 = .ok (.aload_n 0, 1) := by decide +kernel
theorem dX9_isTold_45 : decode cX9_isTold 45 = .ok (.getfield 7, 3) := by decide +kernel
theorem dX9_isTold_48 : decode cX9_isTold 48 = .ok (.iload_n 1, 1) := by decide +kernel
theorem dX9_isTold_49 : decode cX9_isTold 49 = .ok (.bipush 6, 2) := by decide +kernel
theorem dX9_isTold_51 : decode cX9_isTold 51 = .ok (.iadd, 1) := by decide +kernel
theorem dX9_isTold_52 : decode cX9_isTold 52 = .ok (.iaload, 1) := by decide +kernel
theorem dX9_isTold_53 : decode cX9_isTold 53 = .ok (.ifCond .ne 29, 3) := by decide +kernel
theorem dX9_isTold_56 : decode cX9_isTold 56 = .ok (.aload_n 0, 1) := by decide +kernel
theorem dX9_isTold_57 : decode cX9_isTold 57 = .ok (.getfield 7, 3) := by decide +kernel
theorem dX9_isTold_60 : decode cX9_isTold 60 = .ok (.iload_n 1, 1) := by decide +kernel
theorem dX9_isTold_61 : decode cX9_isTold 61 = .ok (.bipush 7, 2) := by decide +kernel
theorem dX9_isTold_63 : decode cX9_isTold 63 = .ok (.iadd, 1) := by decide +kernel
theorem dX9_isTold_64 : decode cX9_isTold 64 = .ok (.iaload, 1) := by decide +kernel
theorem dX9_isTold_65 : decode cX9_isTold 65 = .ok (.bipush 96, 2) := by decide +kernel
theorem dX9_isTold_67 : decode cX9_isTold 67 = .ok (.iand, 1) := by decide +kernel
theorem dX9_isTold_68 : decode cX9_isTold 68 = .ok (.ifCond .ne 14, 3) := by decide +kernel
theorem dX9_isTold_71 : decode cX9_isTold 71 = .ok (.iload_n 2, 1) := by decide +kernel
theorem dX9_isTold_72 : decode cX9_isTold 72 = .ok (.iconst 1, 1) := by decide +kernel
theorem dX9_isTold_73 : decode cX9_isTold 73 = .ok (.if_icmp .lt 9, 3) := by decide +kernel
theorem dX9_isTold_76 : decode cX9_isTold 76 = .ok (.iload_n 2, 1) := by decide +kernel
theorem dX9_isTold_77 : decode cX9_isTold 77 = .ok (.bipush 13, 2) := by decide +kernel
theorem dX9_isTold_79 : decode cX9_isTold 79 = .ok (.if_icmp .le 5, 3) := by decide +kernel
theorem dX9_isTold_82 : decode cX9_isTold 82 = .ok (.iconst 0, 1) := by decide +kernel
theorem dX9_isTold_83 : decode cX9_isTold 83 = .ok (.ireturn, 1) := by decide +kernel
theorem dX9_isTold_84 : decode cX9_isTold 84 = .ok (.iload_n 2, 1) := by decide +kernel
theorem dX9_isTold_85 : decode cX9_isTold 85 = .ok (.iconst 4, 1) := by decide +kernel
theorem dX9_isTold_86 : decode cX9_isTold 86 = .ok (.if_icmp .eq 20, 3) := by decide +kernel
theorem dX9_isTold_89 : decode cX9_isTold 89 = .ok (.iload_n 2, 1) := by decide +kernel
theorem dX9_isTold_90 : decode cX9_isTold 90 = .ok (.iconst 5, 1) := by decide +kernel
theorem dX9_isTold_91 : decode cX9_isTold 91 = .ok (.if_icmp .eq 15, 3) := by decide +kernel
theorem dX9_isTold_94 : decode cX9_isTold 94 = .ok (.iload_n 2, 1) := by decide +kernel
theorem dX9_isTold_95 : decode cX9_isTold 95 = .ok (.bipush 6, 2) := by decide +kernel
theorem dX9_isTold_97 : decode cX9_isTold 97 = .ok (.if_icmp .eq 9, 3) := by decide +kernel
theorem dX9_isTold_100 : decode cX9_isTold 100 = .ok (.iload_n 2, 1) := by decide +kernel
theorem dX9_isTold_101 : decode cX9_isTold 101 = .ok (.bipush 13, 2) := by decide +kernel
theorem dX9_isTold_103 : decode cX9_isTold 103 = .ok (.if_icmp .ne 7, 3) := by decide +kernel
theorem dX9_isTold_106 : decode cX9_isTold 106 = .ok (.iconst 1, 1) := by decide +kernel
theorem dX9_isTold_107 : decode cX9_isTold 107 = .ok (.goto 4, 3) := by decide +kernel
theorem dX9_isTold_110 : decode cX9_isTold 110 = .ok (.iconst 0, 1) := by decide +kernel
theorem dX9_isTold_111 : decode cX9_isTold 111 = .ok (.istore 6, 2) := by decide +kernel
theorem dX9_isTold_113 : decode cX9_isTold 113 = .ok (.iload_n 3, 1) := by decide +kernel
theorem dX9_isTold_114 : decode cX9_isTold 114 = .ok (.ifCond .le 21, 3) := by decide +kernel
theorem dX9_isTold_117 : decode cX9_isTold 117 = .ok (.iload 6, 2) := by decide +kernel
theorem dX9_isTold_119 : decode cX9_isTold 119 = .ok (.ifCond .ne 16, 3) := by decide +kernel
theorem dX9_isTold_122 : decode cX9_isTold 122 = .ok (.iload_n 2, 1) := by decide +kernel
theorem dX9_isTold_123 : decode cX9_isTold 123 = .ok (.bipush 12, 2) := by decide +kernel
theorem dX9_isTold_125 : decode cX9_isTold 125 = .ok (.if_icmp .ne 8, 3) := by decide +kernel
theorem dX9_isTold_128 : decode cX9_isTold 128 = .ok (.iload_n 3, 1) := by decide +kernel
theorem dX9_isTold_129 : decode cX9_isTold 129 = .ok (.iconst 2, 1) := by decide +kernel
theorem dX9_isTold_130 : decode cX9_isTold 130 = .ok (.if_icmp .le 5, 3) := by decide +kernel
theorem dX9_isTold_133 : decode cX9_isTold 133 = .ok (.iconst 0, 1) := by decide +kernel
theorem dX9_isTold_134 : decode cX9_isTold 134 = .ok (.ireturn, 1) := by decide +kernel
theorem dX9_isTold_135 : decode cX9_isTold 135 = .ok (.aload_n 0, 1) := by decide +kernel
theorem dX9_isTold_136 : decode cX9_isTold 136 = .ok (.getfield 7, 3) := by decide +kernel
theorem dX9_isTold_139 : decode cX9_isTold 139 = .ok (.iload_n 1, 1) := by decide +kernel
theorem dX9_isTold_140 : decode cX9_isTold 140 = .ok (.bipush 7, 2) := by decide +kernel
theorem dX9_isTold_142 : decode cX9_isTold 142 = .ok (.iadd, 1) := by decide +kernel
theorem dX9_isTold_143 : decode cX9_isTold 143 = .ok (.iaload, 1) := by decide +kernel
theorem dX9_isTold_144 : decode cX9_isTold 144 = .ok (.bipush 127, 2) := by decide +kernel
theorem dX9_isTold_146 : decode cX9_isTold 146 = .ok (.if_icmp .le 19, 3) := by decide +kernel
theorem dX9_isTold_149 : decode cX9_isTold 149 = .ok (.iload_n 2, 1) := by decide +kernel
theorem dX9_isTold_150 : decode cX9_isTold 150 = .ok (.i2l, 1) := by decide +kernel
theorem dX9_isTold_151 : decode cX9_isTold 151 = .ok (.ldc2_w 166, 3) := by decide +kernel
theorem dX9_isTold_154 : decode cX9_isTold 154 = .ok (.ldc2_w 172, 3) := by decide +kernel
theorem dX9_isTold_157 : decode cX9_isTold 157 = .ok (.invokestatic 174, 3) := by decide +kernel
theorem dX9_isTold_160 : decode cX9_isTold 160 = .ok (.ifCond .ne 5, 3) := by decide +kernel
theorem dX9_isTold_163 : decode cX9_isTold 163 = .ok (.iconst 0, 1) := by decide +kernel
theorem dX9_isTold_164 : decode cX9_isTold 164 = .ok (.ireturn, 1) := by decide +kernel
theorem dX9_isTold_165 : decode cX9_isTold 165 = .ok (.iload_n 2, 1) := by decide +kernel
theorem dX9_isTold_166 : decode cX9_isTold 166 = .ok (.iconst 3, 1) := by decide +kernel
theorem dX9_isTold_167 : decode cX9_isTold 167 = .ok (.if_icmp .eq 9, 3) := by decide +kernel
theorem dX9_isTold_170 : decode cX9_isTold 170 = .ok (.iload_n 2, 1) := by decide +kernel
theorem dX9_isTold_171 : decode cX9_isTold 171 = .ok (.bipush 7, 2) := by decide +kernel
theorem dX9_isTold_173 : decode cX9_isTold 173 = .ok (.if_icmp .ne 10, 3) := by decide +kernel
theorem dX9_isTold_176 : decode cX9_isTold 176 = .ok (.lload 4, 2) := by decide +kernel
theorem dX9_isTold_178 : decode cX9_isTold 178 = .ok (.lconst 0, 1) := by decide +kernel
theorem dX9_isTold_179 : decode cX9_isTold 179 = .ok (.lcmp, 1) := by decide +kernel
theorem dX9_isTold_180 : decode cX9_isTold 180 = .ok (.ifCond .ne 19, 3) := by decide +kernel
theorem dX9_isTold_183 : decode cX9_isTold 183 = .ok (.iload_n 2, 1) := by decide +kernel
theorem dX9_isTold_184 : decode cX9_isTold 184 = .ok (.bipush 6, 2) := by decide +kernel
theorem dX9_isTold_186 : decode cX9_isTold 186 = .ok (.if_icmp .ne 15, 3) := by decide +kernel
theorem dX9_isTold_189 : decode cX9_isTold 189 = .ok (.lload 4, 2) := by decide +kernel
theorem dX9_isTold_191 : decode cX9_isTold 191 = .ok (.bipush 8, 2) := by decide +kernel
theorem dX9_isTold_193 : decode cX9_isTold 193 = .ok (.invokestatic 178, 3) := by decide +kernel
theorem dX9_isTold_196 : decode cX9_isTold 196 = .ok (.ifCond .ne 5, 3) := by decide +kernel
theorem dX9_isTold_199 : decode cX9_isTold 199 = .ok (.iconst 0, 1) := by decide +kernel
theorem dX9_isTold_200 : decode cX9_isTold 200 = .ok (.ireturn, 1) := by decide +kernel
theorem dX9_isTold_201 : decode cX9_isTold 201 = .ok (.iload_n 2, 1) := by decide +kernel
theorem dX9_isTold_202 : decode cX9_isTold 202 = .ok (.iconst 1, 1) := by decide +kernel
theorem dX9_isTold_203 : decode cX9_isTold 203 = .ok (.if_icmp .ne 96, 3) := by decide +kernel
theorem dX9_isTold_206 : decode cX9_isTold 206 = .ok (.aload_n 0, 1) := by decide +kernel
theorem dX9_isTold_207 : decode cX9_isTold 207 = .ok (.getfield 7, 3) := by decide +kernel
theorem dX9_isTold_210 : decode cX9_isTold 210 = .ok (.iload_n 1, 1) := by decide +kernel
theorem dX9_isTold_211 : decode cX9_isTold 211 = .ok (.bipush 12, 2) := by decide +kernel
theorem dX9_isTold_213 : decode cX9_isTold 213 = .ok (.iadd, 1) := by decide +kernel
theorem dX9_isTold_214 : decode cX9_isTold 214 = .ok (.iaload, 1) := by decide +kernel
theorem dX9_isTold_215 : decode cX9_isTold 215 = .ok (.istore 7, 2) := by decide +kernel
theorem dX9_isTold_217 : decode cX9_isTold 217 = .ok (.aload_n 0, 1) := by decide +kernel
theorem dX9_isTold_218 : decode cX9_isTold 218 = .ok (.getfield 7, 3) := by decide +kernel
theorem dX9_isTold_221 : decode cX9_isTold 221 = .ok (.iload_n 1, 1) := by decide +kernel
theorem dX9_isTold_222 : decode cX9_isTold 222 = .ok (.bipush 14, 2) := by decide +kernel
theorem dX9_isTold_224 : decode cX9_isTold 224 = .ok (.iadd, 1) := by decide +kernel
theorem dX9_isTold_225 : decode cX9_isTold 225 = .ok (.iaload, 1) := by decide +kernel
theorem dX9_isTold_226 : decode cX9_isTold 226 = .ok (.istore 8, 2) := by decide +kernel
theorem dX9_isTold_228 : decode cX9_isTold 228 = .ok (.lload 4, 2) := by decide +kernel
theorem dX9_isTold_230 : decode cX9_isTold 230 = .ok (.bipush 16, 2) := by decide +kernel
theorem dX9_isTold_232 : decode cX9_isTold 232 = .ok (.invokestatic 178, 3) := by decide +kernel
theorem dX9_isTold_235 : decode cX9_isTold 235 = .ok (.ifCond .eq 54, 3) := by decide +kernel
theorem dX9_isTold_238 : decode cX9_isTold 238 = .ok (.aload_n 0, 1) := by decide +kernel
theorem dX9_isTold_239 : decode cX9_isTold 239 = .ok (.getfield 7, 3) := by decide +kernel
theorem dX9_isTold_242 : decode cX9_isTold 242 = .ok (.iload_n 1, 1) := by decide +kernel
theorem dX9_isTold_243 : decode cX9_isTold 243 = .ok (.bipush 13, 2) := by decide +kernel
theorem dX9_isTold_245 : decode cX9_isTold 245 = .ok (.iadd, 1) := by decide +kernel
theorem dX9_isTold_246 : decode cX9_isTold 246 = .ok (.iaload, 1) := by decide +kernel
theorem dX9_isTold_247 : decode cX9_isTold 247 = .ok (.ifCond .ne 42, 3) := by decide +kernel
theorem dX9_isTold_250 : decode cX9_isTold 250 = .ok (.aload_n 0, 1) := by decide +kernel
theorem dX9_isTold_251 : decode cX9_isTold 251 = .ok (.getfield 7, 3) := by decide +kernel
theorem dX9_isTold_254 : decode cX9_isTold 254 = .ok (.iload_n 1, 1) := by decide +kernel
theorem dX9_isTold_255 : decode cX9_isTold 255 = .ok (.bipush 15, 2) := by decide +kernel
theorem dX9_isTold_257 : decode cX9_isTold 257 = .ok (.iadd, 1) := by decide +kernel
theorem dX9_isTold_258 : decode cX9_isTold 258 = .ok (.iaload, 1) := by decide +kernel
theorem dX9_isTold_259 : decode cX9_isTold 259 = .ok (.bipush 16, 2) := by decide +kernel
theorem dX9_isTold_261 : decode cX9_isTold 261 = .ok (.if_icmp .ge 28, 3) := by decide +kernel
theorem dX9_isTold_264 : decode cX9_isTold 264 = .ok (.iload 7, 2) := by decide +kernel
theorem dX9_isTold_266 : decode cX9_isTold 266 = .ok (.ifCond .le 23, 3) := by decide +kernel
theorem dX9_isTold_269 : decode cX9_isTold 269 = .ok (.iload 7, 2) := by decide +kernel
theorem dX9_isTold_271 : decode cX9_isTold 271 = .ok (.iload 8, 2) := by decide +kernel
theorem dX9_isTold_273 : decode cX9_isTold 273 = .ok (.iadd, 1) := by decide +kernel
theorem dX9_isTold_274 : decode cX9_isTold 274 = .ok (.i2l, 1) := by decide +kernel
theorem dX9_isTold_275 : decode cX9_isTold 275 = .ok (.ldc2_w 168, 3) := by decide +kernel
theorem dX9_isTold_278 : decode cX9_isTold 278 = .ok (.lload 4, 2) := by decide +kernel
theorem dX9_isTold_280 : decode cX9_isTold 280 = .ok (.lmul, 1) := by decide +kernel
theorem dX9_isTold_281 : decode cX9_isTold 281 = .ok (.lcmp, 1) := by decide +kernel
theorem dX9_isTold_282 : decode cX9_isTold 282 = .ok (.ifCond .gt 7, 3) := by decide +kernel
theorem dX9_isTold_285 : decode cX9_isTold 285 = .ok (.iconst 1, 1) := by decide +kernel
theorem dX9_isTold_286 : decode cX9_isTold 286 = .ok (.goto 4, 3) := by decide +kernel
theorem dX9_isTold_289 : decode cX9_isTold 289 = .ok (.iconst 0, 1) := by decide +kernel
theorem dX9_isTold_290 : decode cX9_isTold 290 = .ok (.istore 9, 2) := by decide +kernel
theorem dX9_isTold_292 : decode cX9_isTold 292 = .ok (.iload 9, 2) := by decide +kernel
theorem dX9_isTold_294 : decode cX9_isTold 294 = .ok (.ifCond .ne 5, 3) := by decide +kernel
theorem dX9_isTold_297 : decode cX9_isTold 297 = .ok (.iconst 0, 1) := by decide +kernel
theorem dX9_isTold_298 : decode cX9_isTold 298 = .ok (.ireturn, 1) := by decide +kernel
theorem dX9_isTold_299 : decode cX9_isTold 299 = .ok (.iload 6, 2) := by decide +kernel
theorem dX9_isTold_301 : decode cX9_isTold 301 = .ok (.ifCond .eq 15, 3) := by decide +kernel
theorem dX9_isTold_304 : decode cX9_isTold 304 = .ok (.aload_n 0, 1) := by decide +kernel
theorem dX9_isTold_305 : decode cX9_isTold 305 = .ok (.getfield 128, 3) := by decide +kernel
theorem dX9_isTold_308 : decode cX9_isTold 308 = .ok (.iload_n 3, 1) := by decide +kernel
theorem dX9_isTold_309 : decode cX9_isTold 309 = .ok (.iadd, 1) := by decide +kernel
theorem dX9_isTold_310 : decode cX9_isTold 310 = .ok (.sipush 600, 3) := by decide +kernel
theorem dX9_isTold_313 : decode cX9_isTold 313 = .ok (.if_icmp .gt 7, 3) := by decide +kernel
theorem dX9_isTold_316 : decode cX9_isTold 316 = .ok (.iconst 1, 1) := by decide +kernel
theorem dX9_isTold_317 : decode cX9_isTold 317 = .ok (.goto 4, 3) := by decide +kernel
theorem dX9_isTold_320 : decode cX9_isTold 320 = .ok (.iconst 0, 1) := by decide +kernel
theorem dX9_isTold_321 : decode cX9_isTold 321 = .ok (.ireturn, 1) := by decide +kernel
theorem dX9_isWithin_0 : decode cX9_isWithin 0 = .ok (.lload_n 1, 1) := by decide +kernel
theorem dX9_isWithin_1 : decode cX9_isWithin 1 = .ok (.aload_n 0, 1) := by decide +kernel
theorem dX9_isWithin_2 : decode cX9_isWithin 2 = .ok (.getfield 145, 3) := by decide +kernel
theorem dX9_isWithin_5 : decode cX9_isWithin 5 = .ok (.aload_n 0, 1) := by decide +kernel
theorem dX9_isWithin_6 : decode cX9_isWithin 6 = .ok (.getfield 142, 3) := by decide +kernel
theorem dX9_isWithin_9 : decode cX9_isWithin 9 = .ok (.isub, 1) := by decide +kernel
theorem dX9_isWithin_10 : decode cX9_isWithin 10 = .ok (.i2l, 1) := by decide +kernel
theorem dX9_isWithin_11 : decode cX9_isWithin 11 = .ok (.lcmp, 1) := by decide +kernel
theorem dX9_isWithin_12 : decode cX9_isWithin 12 = .ok (.ifCond .ge 7, 3) := by decide +kernel
theorem dX9_isWithin_15 : decode cX9_isWithin 15 = .ok (.iconst 1, 1) := by decide +kernel
theorem dX9_isWithin_16 : decode cX9_isWithin 16 = .ok (.goto 4, 3) := by decide +kernel
theorem dX9_isWithin_19 : decode cX9_isWithin 19 = .ok (.iconst 0, 1) := by decide +kernel
theorem dX9_isWithin_20 : decode cX9_isWithin 20 = .ok (.ireturn, 1) := by decide +kernel
theorem dX9_takes_0 : decode cX9_takes 0 = .ok (.aload_n 0, 1) := by decide +kernel
theorem dX9_takes_1 : decode cX9_takes 1 = .ok (.getfield 125, 3) := by decide +kernel
theorem dX9_takes_4 : decode cX9_takes 4 = .ok (.iconst 1, 1) := by decide +kernel
theorem dX9_takes_5 : decode cX9_takes 5 = .ok (.iadd, 1) := by decide +kernel
theorem dX9_takes_6 : decode cX9_takes 6 = .ok (.istore_n 2, 1) := by decide +kernel
theorem dX9_takes_7 : decode cX9_takes 7 = .ok (.aload_n 0, 1) := by decide +kernel
theorem dX9_takes_8 : decode cX9_takes 8 = .ok (.getfield 7, 3) := by decide +kernel
theorem dX9_takes_11 : decode cX9_takes 11 = .ok (.iload_n 1, 1) := by decide +kernel
theorem dX9_takes_12 : decode cX9_takes 12 = .ok (.bipush 7, 2) := by decide +kernel
theorem dX9_takes_14 : decode cX9_takes 14 = .ok (.iadd, 1) := by decide +kernel
theorem dX9_takes_15 : decode cX9_takes 15 = .ok (.iaload, 1) := by decide +kernel
theorem dX9_takes_16 : decode cX9_takes 16 = .ok (.bipush 31, 2) := by decide +kernel
theorem dX9_takes_18 : decode cX9_takes 18 = .ok (.iand, 1) := by decide +kernel
theorem dX9_takes_19 : decode cX9_takes 19 = .ok (.istore_n 3, 1) := by decide +kernel
theorem dX9_takes_20 : decode cX9_takes 20 = .ok (.aload_n 0, 1) := by decide +kernel
theorem dX9_takes_21 : decode cX9_takes 21 = .ok (.iload_n 1, 1) := by decide +kernel
theorem dX9_takes_22 : decode cX9_takes 22 = .ok (.iconst 4, 1) := by decide +kernel
theorem dX9_takes_23 : decode cX9_takes 23 = .ok (.iadd, 1) := by decide +kernel
theorem dX9_takes_24 : decode cX9_takes 24 = .ok (.iconst 2, 1) := by decide +kernel
theorem dX9_takes_25 : decode cX9_takes 25 = .ok (.invokevirtual 134, 3) := by decide +kernel
theorem dX9_takes_28 : decode cX9_takes 28 = .ok (.l2i, 1) := by decide +kernel
theorem dX9_takes_29 : decode cX9_takes 29 = .ok (.istore 4, 2) := by decide +kernel
theorem dX9_takes_31 : decode cX9_takes 31 = .ok (.aload_n 0, 1) := by decide +kernel
theorem dX9_takes_32 : decode cX9_takes 32 = .ok (.iload_n 1, 1) := by decide +kernel
theorem dX9_takes_33 : decode cX9_takes 33 = .ok (.iconst 4, 1) := by decide +kernel
theorem dX9_takes_34 : decode cX9_takes 34 = .ok (.invokevirtual 134, 3) := by decide +kernel
theorem dX9_takes_37 : decode cX9_takes 37 = .ok (.lstore 5, 2) := by decide +kernel
theorem dX9_takes_39 : decode cX9_takes 39 = .ok (.aload_n 0, 1) := by decide +kernel
theorem dX9_takes_40 : decode cX9_takes 40 = .ok (.lload 5, 2) := by decide +kernel
theorem dX9_takes_42 : decode cX9_takes 42 = .ok (.invokevirtual 182, 3) := by decide +kernel
theorem dX9_takes_45 : decode cX9_takes 45 = .ok (.ifCond .ne 5, 3) := by decide +kernel
theorem dX9_takes_48 : decode cX9_takes 48 = .ok (.iconst 0, 1) := by decide +kernel
theorem dX9_takes_49 : decode cX9_takes 49 = .ok (.ireturn, 1) := by decide +kernel
theorem dX9_takes_50 : decode cX9_takes 50 = .ok (.aload_n 0, 1) := by decide +kernel
theorem dX9_takes_51 : decode cX9_takes 51 = .ok (.getfield 7, 3) := by decide +kernel
theorem dX9_takes_54 : decode cX9_takes 54 = .ok (.aload_n 0, 1) := by decide +kernel
theorem dX9_takes_55 : decode cX9_takes 55 = .ok (.getfield 142, 3) := by decide +kernel
theorem dX9_takes_58 : decode cX9_takes 58 = .ok (.lload 5, 2) := by decide +kernel
theorem dX9_takes_60 : decode cX9_takes 60 = .ok (.l2i, 1) := by decide +kernel
theorem dX9_takes_61 : decode cX9_takes 61 = .ok (.iadd, 1) := by decide +kernel
theorem dX9_takes_62 : decode cX9_takes 62 = .ok (.iaload, 1) := by decide +kernel
theorem dX9_takes_63 : decode cX9_takes 63 = .ok (.ifCond .ne 7, 3) := by decide +kernel
theorem dX9_takes_66 : decode cX9_takes 66 = .ok (.iconst 1, 1) := by decide +kernel
theorem dX9_takes_67 : decode cX9_takes 67 = .ok (.goto 4, 3) := by decide +kernel
theorem dX9_takes_70 : decode cX9_takes 70 = .ok (.iconst 0, 1) := by decide +kernel
theorem dX9_takes_71 : decode cX9_takes 71 = .ok (.istore 7, 2) := by decide +kernel
theorem dX9_takes_73 : decode cX9_takes 73 = .ok (.iload_n 3, 1) := by decide +kernel
theorem dX9_takes_74 : decode cX9_takes 74 = .ok (.iconst 1, 1) := by decide +kernel
theorem dX9_takes_75 : decode cX9_takes 75 = .ok (.if_icmp .eq 21, 3) := by decide +kernel
theorem dX9_takes_78 : decode cX9_takes 78 = .ok (.iload_n 3, 1) := by decide +kernel
theorem dX9_takes_79 : decode cX9_takes 79 = .ok (.bipush 7, 2) := by decide +kernel
theorem dX9_takes_81 : decode cX9_takes 81 = .ok (.if_icmp .eq 15, 3) := by decide +kernel
theorem dX9_takes_84 : decode cX9_takes 84 = .ok (.iload_n 3, 1) := by decide +kernel
theorem dX9_takes_85 : decode cX9_takes 85 = .ok (.bipush 8, 2) := by decide +kernel
theorem dX9_takes_87 : decode cX9_takes 87 = .ok (.if_icmp .eq 9, 3) := by decide +kernel
theorem dX9_takes_90 : decode cX9_takes 90 = .ok (.iload_n 3, 1) := by decide +kernel
theorem dX9_takes_91 : decode cX9_takes 91 = .ok (.bipush 12, 2) := by decide +kernel
theorem dX9_takes_93 : decode cX9_takes 93 = .ok (.if_icmp .ne 7, 3) := by decide +kernel
theorem dX9_takes_96 : decode cX9_takes 96 = .ok (.iconst 1, 1) := by decide +kernel
theorem dX9_takes_97 : decode cX9_takes 97 = .ok (.goto 4, 3) := by decide +kernel
theorem dX9_takes_100 : decode cX9_takes 100 = .ok (.iconst 0, 1) := by decide +kernel
theorem dX9_takes_101 : decode cX9_takes 101 = .ok (.istore 8, 2) := by decide +kernel
theorem dX9_takes_103 : decode cX9_takes 103 = .ok (.iload_n 3, 1) := by decide +kernel
theorem dX9_takes_104 : decode cX9_takes 104 = .ok (.iconst 2, 1) := by decide +kernel
theorem dX9_takes_105 : decode cX9_takes 105 = .ok (.if_icmp .eq 28, 3) := by decide +kernel
theorem dX9_takes_108 : decode cX9_takes 108 = .ok (.iload_n 3, 1) := by decide +kernel
theorem dX9_takes_109 : decode cX9_takes 109 = .ok (.iconst 3, 1) := by decide +kernel
theorem dX9_takes_110 : decode cX9_takes 110 = .ok (.if_icmp .eq 23, 3) := by decide +kernel
theorem dX9_takes_113 : decode cX9_takes 113 = .ok (.iload_n 3, 1) := by decide +kernel
theorem dX9_takes_114 : decode cX9_takes 114 = .ok (.i2l, 1) := by decide +kernel
theorem dX9_takes_115 : decode cX9_takes 115 = .ok (.ldc2_w 186, 3) := by decide +kernel
theorem dX9_takes_118 : decode cX9_takes 118 = .ok (.ldc2_w 188, 3) := by decide +kernel
theorem dX9_takes_121 : decode cX9_takes 121 = .ok (.invokestatic 174, 3) := by decide +kernel
theorem dX9_takes_124 : decode cX9_takes 124 = .ok (.ifCond .ne 9, 3) := by decide +kernel
theorem dX9_takes_127 : decode cX9_takes 127 = .ok (.iload_n 3, 1) := by decide +kernel
theorem dX9_takes_128 : decode cX9_takes 128 = .ok (.bipush 13, 2) := by decide +kernel
theorem dX9_takes_130 : decode cX9_takes 130 = .ok (.if_icmp .ne 7, 3) := by decide +kernel
theorem dX9_takes_133 : decode cX9_takes 133 = .ok (.iconst 1, 1) := by decide +kernel
theorem dX9_takes_134 : decode cX9_takes 134 = .ok (.goto 4, 3) := by decide +kernel
theorem dX9_takes_137 : decode cX9_takes 137 = .ok (.iconst 0, 1) := by decide +kernel
theorem dX9_takes_138 : decode cX9_takes 138 = .ok (.istore 9, 2) := by decide +kernel
theorem dX9_takes_140 : decode cX9_takes 140 = .ok (.iload 8, 2) := by decide +kernel
theorem dX9_takes_142 : decode cX9_takes 142 = .ok (.ifCond .eq 8, 3) := by decide +kernel
theorem dX9_takes_145 : decode cX9_takes 145 = .ok (.iload 7, 2) := by decide +kernel
theorem dX9_takes_147 : decode cX9_takes 147 = .ok (.ifCond .ne 13, 3) := by decide +kernel
theorem dX9_takes_150 : decode cX9_takes 150 = .ok (.iload 9, 2) := by decide +kernel
theorem dX9_takes_152 : decode cX9_takes 152 = .ok (.ifCond .eq 10, 3) := by decide +kernel
theorem dX9_takes_155 : decode cX9_takes 155 = .ok (.iload 7, 2) := by decide +kernel
theorem dX9_takes_157 : decode cX9_takes 157 = .ok (.ifCond .ne 5, 3) := by decide +kernel
theorem dX9_takes_160 : decode cX9_takes 160 = .ok (.iconst 0, 1) := by decide +kernel
theorem dX9_takes_161 : decode cX9_takes 161 = .ok (.ireturn, 1) := by decide +kernel
theorem dX9_takes_162 : decode cX9_takes 162 = .ok (.aload_n 0, 1) := by decide +kernel
theorem dX9_takes_163 : decode cX9_takes 163 = .ok (.getfield 59, 3) := by decide +kernel
theorem dX9_takes_166 : decode cX9_takes 166 = .ok (.iload_n 2, 1) := by decide +kernel
theorem dX9_takes_167 : decode cX9_takes 167 = .ok (.lload 5, 2) := by decide +kernel
theorem dX9_takes_169 : decode cX9_takes 169 = .ok (.l2i, 1) := by decide +kernel
theorem dX9_takes_170 : decode cX9_takes 170 = .ok (.iastore, 1) := by decide +kernel
theorem dX9_takes_171 : decode cX9_takes 171 = .ok (.aload_n 0, 1) := by decide +kernel
theorem dX9_takes_172 : decode cX9_takes 172 = .ok (.getfield 62, 3) := by decide +kernel
theorem dX9_takes_175 : decode cX9_takes 175 = .ok (.iload_n 2, 1) := by decide +kernel
theorem dX9_takes_176 : decode cX9_takes 176 = .ok (.iload_n 3, 1) := by decide +kernel
theorem dX9_takes_177 : decode cX9_takes 177 = .ok (.iastore, 1) := by decide +kernel
theorem dX9_takes_178 : decode cX9_takes 178 = .ok (.aload_n 0, 1) := by decide +kernel
theorem dX9_takes_179 : decode cX9_takes 179 = .ok (.getfield 65, 3) := by decide +kernel
theorem dX9_takes_182 : decode cX9_takes 182 = .ok (.iload_n 2, 1) := by decide +kernel
theorem dX9_takes_183 : decode cX9_takes 183 = .ok (.iload 4, 2) := by decide +kernel
theorem dX9_takes_185 : decode cX9_takes 185 = .ok (.iastore, 1) := by decide +kernel
theorem dX9_takes_186 : decode cX9_takes 186 = .ok (.aload_n 0, 1) := by decide +kernel
theorem dX9_takes_187 : decode cX9_takes 187 = .ok (.getfield 68, 3) := by decide +kernel
theorem dX9_takes_190 : decode cX9_takes 190 = .ok (.iload_n 2, 1) := by decide +kernel
theorem dX9_takes_191 : decode cX9_takes 191 = .ok (.aload_n 0, 1) := by decide +kernel
theorem dX9_takes_192 : decode cX9_takes 192 = .ok (.getfield 7, 3) := by decide +kernel
theorem dX9_takes_195 : decode cX9_takes 195 = .ok (.iload_n 1, 1) := by decide +kernel
theorem dX9_takes_196 : decode cX9_takes 196 = .ok (.bipush 7, 2) := by decide +kernel
theorem dX9_takes_198 : decode cX9_takes 198 = .ok (.iadd, 1) := by decide +kernel
theorem dX9_takes_199 : decode cX9_takes 199 = .ok (.iaload, 1) := by decide +kernel
theorem dX9_takes_200 : decode cX9_takes 200 = .ok (.bipush 7, 2) := by decide +kernel
theorem dX9_takes_202 : decode cX9_takes 202 = .ok (.ishr, 1) := by decide +kernel
theorem dX9_takes_203 : decode cX9_takes 203 = .ok (.iastore, 1) := by decide +kernel
theorem dX9_takes_204 : decode cX9_takes 204 = .ok (.aload_n 0, 1) := by decide +kernel
theorem dX9_takes_205 : decode cX9_takes 205 = .ok (.getfield 71, 3) := by decide +kernel
theorem dX9_takes_208 : decode cX9_takes 208 = .ok (.iload_n 2, 1) := by decide +kernel
theorem dX9_takes_209 : decode cX9_takes 209 = .ok (.aload_n 0, 1) := by decide +kernel
theorem dX9_takes_210 : decode cX9_takes 210 = .ok (.iload_n 1, 1) := by decide +kernel
theorem dX9_takes_211 : decode cX9_takes 211 = .ok (.bipush 8, 2) := by decide +kernel
theorem dX9_takes_213 : decode cX9_takes 213 = .ok (.iadd, 1) := by decide +kernel
theorem dX9_takes_214 : decode cX9_takes 214 = .ok (.iconst 4, 1) := by decide +kernel
theorem dX9_takes_215 : decode cX9_takes 215 = .ok (.invokevirtual 134, 3) := by decide +kernel
theorem dX9_takes_218 : decode cX9_takes 218 = .ok (.lastore, 1) := by decide +kernel
theorem dX9_takes_219 : decode cX9_takes 219 = .ok (.aload_n 0, 1) := by decide +kernel
theorem dX9_takes_220 : decode cX9_takes 220 = .ok (.getfield 74, 3) := by decide +kernel
theorem dX9_takes_223 : decode cX9_takes 223 = .ok (.iload_n 2, 1) := by decide +kernel
theorem dX9_takes_224 : decode cX9_takes 224 = .ok (.iload_n 3, 1) := by decide +kernel
theorem dX9_takes_225 : decode cX9_takes 225 = .ok (.iconst 1, 1) := by decide +kernel
theorem dX9_takes_226 : decode cX9_takes 226 = .ok (.if_icmp .ne 15, 3) := by decide +kernel
theorem dX9_takes_229 : decode cX9_takes 229 = .ok (.aload_n 0, 1) := by decide +kernel
theorem dX9_takes_230 : decode cX9_takes 230 = .ok (.iload_n 1, 1) := by decide +kernel
theorem dX9_takes_231 : decode cX9_takes 231 = .ok (.bipush 12, 2) := by decide +kernel
theorem dX9_takes_233 : decode cX9_takes 233 = .ok (.iadd, 1) := by decide +kernel
theorem dX9_takes_234 : decode cX9_takes 234 = .ok (.iconst 4, 1) := by decide +kernel
theorem dX9_takes_235 : decode cX9_takes 235 = .ok (.invokevirtual 134, 3) := by decide +kernel
theorem dX9_takes_238 : decode cX9_takes 238 = .ok (.goto 21, 3) := by decide +kernel
theorem dX9_takes_241 : decode cX9_takes 241 = .ok (.iload_n 3, 1) := by decide +kernel
theorem dX9_takes_242 : decode cX9_takes 242 = .ok (.iconst 3, 1) := by decide +kernel
theorem dX9_takes_243 : decode cX9_takes 243 = .ok (.if_icmp .ne 15, 3) := by decide +kernel
theorem dX9_takes_246 : decode cX9_takes 246 = .ok (.aload_n 0, 1) := by decide +kernel
theorem dX9_takes_247 : decode cX9_takes 247 = .ok (.iload_n 1, 1) := by decide +kernel
theorem dX9_takes_248 : decode cX9_takes 248 = .ok (.bipush 20, 2) := by decide +kernel
theorem dX9_takes_250 : decode cX9_takes 250 = .ok (.iadd, 1) := by decide +kernel
theorem dX9_takes_251 : decode cX9_takes 251 = .ok (.iconst 4, 1) := by decide +kernel
theorem dX9_takes_252 : decode cX9_takes 252 = .ok (.invokevirtual 134, 3) := by decide +kernel
theorem dX9_takes_255 : decode cX9_takes 255 = .ok (.goto 4, 3) := by decide +kernel
theorem dX9_takes_258 : decode cX9_takes 258 = .ok (.lconst 0, 1) := by decide +kernel
theorem dX9_takes_259 : decode cX9_takes 259 = .ok (.lastore, 1) := by decide +kernel
theorem dX9_takes_260 : decode cX9_takes 260 = .ok (.aload_n 0, 1) := by decide +kernel
theorem dX9_takes_261 : decode cX9_takes 261 = .ok (.getfield 77, 3) := by decide +kernel
theorem dX9_takes_264 : decode cX9_takes 264 = .ok (.iload_n 2, 1) := by decide +kernel
theorem dX9_takes_265 : decode cX9_takes 265 = .ok (.iload_n 3, 1) := by decide +kernel
theorem dX9_takes_266 : decode cX9_takes 266 = .ok (.iconst 3, 1) := by decide +kernel
theorem dX9_takes_267 : decode cX9_takes 267 = .ok (.if_icmp .ne 15, 3) := by decide +kernel
theorem dX9_takes_270 : decode cX9_takes 270 = .ok (.aload_n 0, 1) := by decide +kernel
theorem dX9_takes_271 : decode cX9_takes 271 = .ok (.iload_n 1, 1) := by decide +kernel
theorem dX9_takes_272 : decode cX9_takes 272 = .ok (.bipush 12, 2) := by decide +kernel
theorem dX9_takes_274 : decode cX9_takes 274 = .ok (.iadd, 1) := by decide +kernel
theorem dX9_takes_275 : decode cX9_takes 275 = .ok (.iconst 4, 1) := by decide +kernel
theorem dX9_takes_276 : decode cX9_takes 276 = .ok (.invokevirtual 134, 3) := by decide +kernel
theorem dX9_takes_279 : decode cX9_takes 279 = .ok (.goto 4, 3) := by decide +kernel
theorem dX9_takes_282 : decode cX9_takes 282 = .ok (.lconst 0, 1) := by decide +kernel
theorem dX9_takes_283 : decode cX9_takes 283 = .ok (.lastore, 1) := by decide +kernel
theorem dX9_takes_284 : decode cX9_takes 284 = .ok (.aload_n 0, 1) := by decide +kernel
theorem dX9_takes_285 : decode cX9_takes 285 = .ok (.getfield 80, 3) := by decide +kernel
theorem dX9_takes_288 : decode cX9_takes 288 = .ok (.iload_n 2, 1) := by decide +kernel
theorem dX9_takes_289 : decode cX9_takes 289 = .ok (.iload_n 3, 1) := by decide +kernel
theorem dX9_takes_290 : decode cX9_takes 290 = .ok (.iconst 3, 1) := by decide +kernel
theorem dX9_takes_291 : decode cX9_takes 291 = .ok (.if_icmp .ne 15, 3) := by decide +kernel
theorem dX9_takes_294 : decode cX9_takes 294 = .ok (.aload_n 0, 1) := by decide +kernel
theorem dX9_takes_295 : decode cX9_takes 295 = .ok (.iload_n 1, 1) := by decide +kernel
theorem dX9_takes_296 : decode cX9_takes 296 = .ok (.bipush 16, 2) := by decide +kernel
theorem dX9_takes_298 : decode cX9_takes 298 = .ok (.iadd, 1) := by decide +kernel
theorem dX9_takes_299 : decode cX9_takes 299 = .ok (.iconst 4, 1) := by decide +kernel
theorem dX9_takes_300 : decode cX9_takes 300 = .ok (.invokevirtual 134, 3) := by decide +kernel
theorem dX9_takes_303 : decode cX9_takes 303 = .ok (.goto 4, 3) := by decide +kernel
theorem dX9_takes_306 : decode cX9_takes 306 = .ok (.lconst 0, 1) := by decide +kernel
theorem dX9_takes_307 : decode cX9_takes 307 = .ok (.lastore, 1) := by decide +kernel
theorem dX9_takes_308 : decode cX9_takes 308 = .ok (.iload_n 3, 1) := by decide +kernel
theorem dX9_takes_309 : decode cX9_takes 309 = .ok (.iconst 4, 1) := by decide +kernel
theorem dX9_takes_310 : decode cX9_takes 310 = .ok (.if_icmp .eq 8, 3) := by decide +kernel
theorem dX9_takes_313 : decode cX9_takes 313 = .ok (.iload_n 3, 1) := by decide +kernel
theorem dX9_takes_314 : decode cX9_takes 314 = .ok (.iconst 5, 1) := by decide +kernel
theorem dX9_takes_315 : decode cX9_takes 315 = .ok (.if_icmp .ne 8, 3) := by decide +kernel
theorem dX9_takes_318 : decode cX9_takes 318 = .ok (.bipush 12, 2) := by decide +kernel
theorem dX9_takes_320 : decode cX9_takes 320 = .ok (.goto 5, 3) := by decide +kernel
theorem dX9_takes_323 : decode cX9_takes 323 = .ok (.bipush 8, 2) := by decide +kernel
theorem dX9_takes_325 : decode cX9_takes 325 = .ok (.istore 10, 2) := by decide +kernel
theorem dX9_takes_327 : decode cX9_takes 327 = .ok (.iconst 0, 1) := by decide +kernel
theorem dX9_takes_328 : decode cX9_takes 328 = .ok (.istore 11, 2) := by decide +kernel
theorem dX9_takes_330 : decode cX9_takes 330 = .ok (.iload 11, 2) := by decide +kernel
theorem dX9_takes_332 : decode cX9_takes 332 = .ok (.iload 4, 2) := by decide +kernel
theorem dX9_takes_334 : decode cX9_takes 334 = .ok (.if_icmp .ge 145, 3) := by decide +kernel
theorem dX9_takes_337 : decode cX9_takes 337 = .ok (.iload_n 3, 1) := by decide +kernel
theorem dX9_takes_338 : decode cX9_takes 338 = .ok (.bipush 12, 2) := by decide +kernel
theorem dX9_takes_340 : decode cX9_takes 340 = .ok (.if_icmp .eq 139, 3) := by decide +kernel
theorem dX9_takes_343 : decode cX9_takes 343 = .ok (.iload_n 1, 1) := by decide +kernel
theorem dX9_takes_344 : decode cX9_takes 344 = .ok (.bipush 12, 2) := by decide +kernel
theorem dX9_takes_346 : decode cX9_takes 346 = .ok (.iadd, 1) := by decide +kernel
theorem dX9_takes_347 : decode cX9_takes 347 = .ok (.iload 10, 2) := by decide +kernel
theorem dX9_takes_349 : decode cX9_takes 349 = .ok (.iload 11, 2) := by decide +kernel
theorem dX9_takes_351 : decode cX9_takes 351 = .ok (.imul, 1) := by decide +kernel
theorem dX9_takes_352 : decode cX9_takes 352 = .ok (.iadd, 1) := by decide +kernel
theorem dX9_takes_353 : decode cX9_takes 353 = .ok (.istore 12, 2) := by decide +kernel
theorem dX9_takes_355 : decode cX9_takes 355 = .ok (.aload_n 0, 1) := by decide +kernel
theorem dX9_takes_356 : decode cX9_takes 356 = .ok (.aload_n 0, 1) := by decide +kernel
theorem dX9_takes_357 : decode cX9_takes 357 = .ok (.iload 12, 2) := by decide +kernel
theorem dX9_takes_359 : decode cX9_takes 359 = .ok (.iconst 4, 1) := by decide +kernel
theorem dX9_takes_360 : decode cX9_takes 360 = .ok (.invokevirtual 134, 3) := by decide +kernel
theorem dX9_takes_363 : decode cX9_takes 363 = .ok (.invokevirtual 182, 3) := by decide +kernel
theorem dX9_takes_366 : decode cX9_takes 366 = .ok (.ifCond .ne 5, 3) := by decide +kernel
theorem dX9_takes_369 : decode cX9_takes 369 = .ok (.iconst 0, 1) := by decide +kernel
theorem dX9_takes_370 : decode cX9_takes 370 = .ok (.ireturn, 1) := by decide +kernel
theorem dX9_takes_371 : decode cX9_takes 371 = .ok (.aload_n 0, 1) := by decide +kernel
theorem dX9_takes_372 : decode cX9_takes 372 = .ok (.getfield 86, 3) := by decide +kernel
theorem dX9_takes_375 : decode cX9_takes 375 = .ok (.aload_n 0, 1) := by decide +kernel
theorem dX9_takes_376 : decode cX9_takes 376 = .ok (.getfield 128, 3) := by decide +kernel
theorem dX9_takes_379 : decode cX9_takes 379 = .ok (.aload_n 0, 1) := by decide +kernel
theorem dX9_takes_380 : decode cX9_takes 380 = .ok (.iload 12, 2) := by decide +kernel
theorem dX9_takes_382 : decode cX9_takes 382 = .ok (.iconst 4, 1) := by decide +kernel
theorem dX9_takes_383 : decode cX9_takes 383 = .ok (.invokevirtual 134, 3) := by decide +kernel
theorem dX9_takes_386 : decode cX9_takes 386 = .ok (.l2i, 1) := by decide +kernel
theorem dX9_takes_387 : decode cX9_takes 387 = .ok (.iastore, 1) := by decide +kernel
theorem dX9_takes_388 : decode cX9_takes 388 = .ok (.aload_n 0, 1) := by decide +kernel
theorem dX9_takes_389 : decode cX9_takes 389 = .ok (.getfield 89, 3) := by decide +kernel
theorem dX9_takes_392 : decode cX9_takes 392 = .ok (.aload_n 0, 1) := by decide +kernel
theorem dX9_takes_393 : decode cX9_takes 393 = .ok (.getfield 128, 3) := by decide +kernel
theorem dX9_takes_396 : decode cX9_takes 396 = .ok (.iload_n 3, 1) := by decide +kernel
theorem dX9_takes_397 : decode cX9_takes 397 = .ok (.bipush 6, 2) := by decide +kernel
theorem dX9_takes_399 : decode cX9_takes 399 = .ok (.if_icmp .ne 7, 3) := by decide +kernel
theorem dX9_takes_402 : decode cX9_takes 402 = .ok (.lconst 0, 1) := by decide +kernel
theorem dX9_takes_403 : decode cX9_takes 403 = .ok (.goto 12, 3) := by decide +kernel
theorem dX9_takes_406 : decode cX9_takes 406 = .ok (.aload_n 0, 1) := by decide +kernel
theorem dX9_takes_407 : decode cX9_takes 407 = .ok (.iload 12, 2) := by decide +kernel
theorem dX9_takes_409 : decode cX9_takes 409 = .ok (.iconst 4, 1) := by decide +kernel
theorem dX9_takes_410 : decode cX9_takes 410 = .ok (.iadd, 1) := by decide +kernel
theorem dX9_takes_411 : decode cX9_takes 411 = .ok (.iconst 4, 1) := by decide +kernel
theorem dX9_takes_412 : decode cX9_takes 412 = .ok (.invokevirtual 134, 3) := by decide +kernel
theorem dX9_takes_415 : decode cX9_takes 415 = .ok (.lastore, 1) := by decide +kernel
theorem dX9_takes_416 : decode cX9_takes 416 = .ok (.aload_n 0, 1) := by decide +kernel
theorem dX9_takes_417 : decode cX9_takes 417 = .ok (.getfield 92, 3) := by decide +kernel
theorem dX9_takes_420 : decode cX9_takes 420 = .ok (.aload_n 0, 1) := by decide +kernel
theorem dX9_takes_421 : decode cX9_takes 421 = .ok (.getfield 128, 3) := by decide +kernel
theorem dX9_takes_424 : decode cX9_takes 424 = .ok (.iload_n 3, 1) := by decide +kernel
theorem dX9_takes_425 : decode cX9_takes 425 = .ok (.bipush 6, 2) := by decide +kernel
theorem dX9_takes_427 : decode cX9_takes 427 = .ok (.if_icmp .ne 15, 3) := by decide +kernel
theorem dX9_takes_430 : decode cX9_takes 430 = .ok (.aload_n 0, 1) := by decide +kernel
theorem dX9_takes_431 : decode cX9_takes 431 = .ok (.iload 12, 2) := by decide +kernel
theorem dX9_takes_433 : decode cX9_takes 433 = .ok (.iconst 4, 1) := by decide +kernel
theorem dX9_takes_434 : decode cX9_takes 434 = .ok (.iadd, 1) := by decide +kernel
theorem dX9_takes_435 : decode cX9_takes 435 = .ok (.iconst 4, 1) := by decide +kernel
theorem dX9_takes_436 : decode cX9_takes 436 = .ok (.invokevirtual 134, 3) := by decide +kernel
theorem dX9_takes_439 : decode cX9_takes 439 = .ok (.goto 23, 3) := by decide +kernel
theorem dX9_takes_442 : decode cX9_takes 442 = .ok (.iload_n 3, 1) := by decide +kernel
theorem dX9_takes_443 : decode cX9_takes 443 = .ok (.bipush 13, 2) := by decide +kernel
theorem dX9_takes_445 : decode cX9_takes 445 = .ok (.if_icmp .ne 7, 3) := by decide +kernel
theorem dX9_takes_448 : decode cX9_takes 448 = .ok (.lconst 0, 1) := by decide +kernel
theorem dX9_takes_449 : decode cX9_takes 449 = .ok (.goto 13, 3) := by decide +kernel
theorem dX9_takes_452 : decode cX9_takes 452 = .ok (.aload_n 0, 1) := by decide +kernel
theorem dX9_takes_453 : decode cX9_takes 453 = .ok (.iload 12, 2) := by decide +kernel
theorem dX9_takes_455 : decode cX9_takes 455 = .ok (.bipush 8, 2) := by decide +kernel
theorem dX9_takes_457 : decode cX9_takes 457 = .ok (.iadd, 1) := by decide +kernel
theorem dX9_takes_458 : decode cX9_takes 458 = .ok (.iconst 4, 1) := by decide +kernel
theorem dX9_takes_459 : decode cX9_takes 459 = .ok (.invokevirtual 134, 3) := by decide +kernel
theorem dX9_takes_462 : decode cX9_takes 462 = .ok (.lastore, 1) := by decide +kernel
theorem dX9_takes_463 : decode cX9_takes 463 = .ok (.aload_n 0, 1) := by decide +kernel
theorem dX9_takes_464 : decode cX9_takes 464 = .ok (.dup, 1) := by decide +kernel
theorem dX9_takes_465 : decode cX9_takes 465 = .ok (.getfield 128, 3) := by decide +kernel
theorem dX9_takes_468 : decode cX9_takes 468 = .ok (.iconst 1, 1) := by decide +kernel
theorem dX9_takes_469 : decode cX9_takes 469 = .ok (.iadd, 1) := by decide +kernel
theorem dX9_takes_470 : decode cX9_takes 470 = .ok (.putfield 128, 3) := by decide +kernel
theorem dX9_takes_473 : decode cX9_takes 473 = .ok (.iinc 11 1, 3) := by decide +kernel
theorem dX9_takes_476 : decode cX9_takes 476 = .ok (.goto (-146), 3) := by decide +kernel
theorem dX9_takes_479 : decode cX9_takes 479 = .ok (.aload_n 0, 1) := by decide +kernel
theorem dX9_takes_480 : decode cX9_takes 480 = .ok (.iload_n 2, 1) := by decide +kernel
theorem dX9_takes_481 : decode cX9_takes 481 = .ok (.putfield 125, 3) := by decide +kernel
theorem dX9_takes_484 : decode cX9_takes 484 = .ok (.aload_n 0, 1) := by decide +kernel
theorem dX9_takes_485 : decode cX9_takes 485 = .ok (.getfield 83, 3) := by decide +kernel
theorem dX9_takes_488 : decode cX9_takes 488 = .ok (.iload_n 2, 1) := by decide +kernel
theorem dX9_takes_489 : decode cX9_takes 489 = .ok (.iconst 1, 1) := by decide +kernel
theorem dX9_takes_490 : decode cX9_takes 490 = .ok (.iadd, 1) := by decide +kernel
theorem dX9_takes_491 : decode cX9_takes 491 = .ok (.aload_n 0, 1) := by decide +kernel
theorem dX9_takes_492 : decode cX9_takes 492 = .ok (.getfield 128, 3) := by decide +kernel
theorem dX9_takes_495 : decode cX9_takes 495 = .ok (.iastore, 1) := by decide +kernel
theorem dX9_takes_496 : decode cX9_takes 496 = .ok (.iconst 1, 1) := by decide +kernel
theorem dX9_takes_497 : decode cX9_takes 497 = .ok (.ireturn, 1) := by decide +kernel
theorem dX9_tellsRest_0 : decode cX9_tellsRest 0 = .ok (.iload_n 0, 1) := by decide +kernel
theorem dX9_tellsRest_1 : decode cX9_tellsRest 1 = .ok (.iconst 2, 1) := by decide +kernel
theorem dX9_tellsRest_2 : decode cX9_tellsRest 2 = .ok (.if_icmp .eq 9, 3) := by decide +kernel
theorem dX9_tellsRest_5 : decode cX9_tellsRest 5 = .ok (.iload_n 0, 1) := by decide +kernel
theorem dX9_tellsRest_6 : decode cX9_tellsRest 6 = .ok (.bipush 7, 2) := by decide +kernel
theorem dX9_tellsRest_8 : decode cX9_tellsRest 8 = .ok (.if_icmp .le 7, 3) := by decide +kernel
theorem dX9_tellsRest_11 : decode cX9_tellsRest 11 = .ok (.iconst 1, 1) := by decide +kernel
theorem dX9_tellsRest_12 : decode cX9_tellsRest 12 = .ok (.goto 4, 3) := by decide +kernel
theorem dX9_tellsRest_15 : decode cX9_tellsRest 15 = .ok (.iconst 0, 1) := by decide +kernel
theorem dX9_tellsRest_16 : decode cX9_tellsRest 16 = .ok (.ireturn, 1) := by decide +kernel
theorem dX9_tellsKnown_0 : decode cX9_tellsKnown 0 = .ok (.aload_n 0, 1) := by decide +kernel
theorem dX9_tellsKnown_1 : decode cX9_tellsKnown 1 = .ok (.getfield 62, 3) := by decide +kernel
theorem dX9_tellsKnown_4 : decode cX9_tellsKnown 4 = .ok (.iload_n 1, 1) := by decide +kernel
theorem dX9_tellsKnown_5 : decode cX9_tellsKnown 5 = .ok (.iaload, 1) := by decide +kernel
theorem dX9_tellsKnown_6 : decode cX9_tellsKnown 6 = .ok (.istore_n 2, 1) := by decide +kernel
theorem dX9_tellsKnown_7 : decode cX9_tellsKnown 7 = .ok (.iload_n 2, 1) := by decide +kernel
theorem dX9_tellsKnown_8 : decode cX9_tellsKnown 8 = .ok (.invokestatic 190, 3) := by decide +kernel
theorem dX9_tellsKnown_11 : decode cX9_tellsKnown 11 = .ok (.ifCond .eq 18, 3) := by decide +kernel
theorem dX9_tellsKnown_14 : decode cX9_tellsKnown 14 = .ok (.aload_n 0, 1) := by decide +kernel
theorem dX9_tellsKnown_15 : decode cX9_tellsKnown 15 = .ok (.getfield 71, 3) := by decide +kernel
theorem dX9_tellsKnown_18 : decode cX9_tellsKnown 18 = .ok (.iload_n 1, 1) := by decide +kernel
theorem dX9_tellsKnown_19 : decode cX9_tellsKnown 19 = .ok (.laload, 1) := by decide +kernel
theorem dX9_tellsKnown_20 : decode cX9_tellsKnown 20 = .ok (.aload_n 0, 1) := by decide +kernel
theorem dX9_tellsKnown_21 : decode cX9_tellsKnown 21 = .ok (.getfield 125, 3) := by decide +kernel
theorem dX9_tellsKnown_24 : decode cX9_tellsKnown 24 = .ok (.i2l, 1) := by decide +kernel
theorem dX9_tellsKnown_25 : decode cX9_tellsKnown 25 = .ok (.lcmp, 1) := by decide +kernel
theorem dX9_tellsKnown_26 : decode cX9_tellsKnown 26 = .ok (.ifCond .gt 7, 3) := by decide +kernel
theorem dX9_tellsKnown_29 : decode cX9_tellsKnown 29 = .ok (.iconst 1, 1) := by decide +kernel
theorem dX9_tellsKnown_30 : decode cX9_tellsKnown 30 = .ok (.goto 4, 3) := by decide +kernel
theorem dX9_tellsKnown_33 : decode cX9_tellsKnown 33 = .ok (.iconst 0, 1) := by decide +kernel
theorem dX9_tellsKnown_34 : decode cX9_tellsKnown 34 = .ok (.istore_n 3, 1) := by decide +kernel
theorem dX9_tellsKnown_35 : decode cX9_tellsKnown 35 = .ok (.iload_n 3, 1) := by decide +kernel
theorem dX9_tellsKnown_36 : decode cX9_tellsKnown 36 = .ok (.ifCond .eq 37, 3) := by decide +kernel
theorem dX9_tellsKnown_39 : decode cX9_tellsKnown 39 = .ok (.aload_n 0, 1) := by decide +kernel
theorem dX9_tellsKnown_40 : decode cX9_tellsKnown 40 = .ok (.getfield 77, 3) := by decide +kernel
theorem dX9_tellsKnown_43 : decode cX9_tellsKnown 43 = .ok (.iload_n 1, 1) := by decide +kernel
theorem dX9_tellsKnown_44 : decode cX9_tellsKnown 44 = .ok (.laload, 1) := by decide +kernel
theorem dX9_tellsKnown_45 : decode cX9_tellsKnown 45 = .ok (.aload_n 0, 1) := by decide +kernel
theorem dX9_tellsKnown_46 : decode cX9_tellsKnown 46 = .ok (.getfield 125, 3) := by decide +kernel
theorem dX9_tellsKnown_49 : decode cX9_tellsKnown 49 = .ok (.i2l, 1) := by decide +kernel
theorem dX9_tellsKnown_50 : decode cX9_tellsKnown 50 = .ok (.lcmp, 1) := by decide +kernel
theorem dX9_tellsKnown_51 : decode cX9_tellsKnown 51 = .ok (.ifCond .gt 22, 3) := by decide +kernel
theorem dX9_tellsKnown_54 : decode cX9_tellsKnown 54 = .ok (.aload_n 0, 1) := by decide +kernel
theorem dX9_tellsKnown_55 : decode cX9_tellsKnown 55 = .ok (.getfield 80, 3) := by decide +kernel
theorem dX9_tellsKnown_58 : decode cX9_tellsKnown 58 = .ok (.iload_n 1, 1) := by decide +kernel
theorem dX9_tellsKnown_59 : decode cX9_tellsKnown 59 = .ok (.laload, 1) := by decide +kernel
theorem dX9_tellsKnown_60 : decode cX9_tellsKnown 60 = .ok (.aload_n 0, 1) := by decide +kernel
theorem dX9_tellsKnown_61 : decode cX9_tellsKnown 61 = .ok (.getfield 125, 3) := by decide +kernel
theorem dX9_tellsKnown_64 : decode cX9_tellsKnown 64 = .ok (.i2l, 1) := by decide +kernel
theorem dX9_tellsKnown_65 : decode cX9_tellsKnown 65 = .ok (.lcmp, 1) := by decide +kernel
theorem dX9_tellsKnown_66 : decode cX9_tellsKnown 66 = .ok (.ifCond .gt 7, 3) := by decide +kernel
theorem dX9_tellsKnown_69 : decode cX9_tellsKnown 69 = .ok (.iconst 1, 1) := by decide +kernel
theorem dX9_tellsKnown_70 : decode cX9_tellsKnown 70 = .ok (.goto 4, 3) := by decide +kernel
theorem dX9_tellsKnown_73 : decode cX9_tellsKnown 73 = .ok (.iconst 0, 1) := by decide +kernel
theorem dX9_tellsKnown_74 : decode cX9_tellsKnown 74 = .ok (.istore_n 3, 1) := by decide +kernel
theorem dX9_tellsKnown_75 : decode cX9_tellsKnown 75 = .ok (.aload_n 0, 1) := by decide +kernel
theorem dX9_tellsKnown_76 : decode cX9_tellsKnown 76 = .ok (.getfield 83, 3) := by decide +kernel
theorem dX9_tellsKnown_79 : decode cX9_tellsKnown 79 = .ok (.iload_n 1, 1) := by decide +kernel
theorem dX9_tellsKnown_80 : decode cX9_tellsKnown 80 = .ok (.iaload, 1) := by decide +kernel
theorem dX9_tellsKnown_81 : decode cX9_tellsKnown 81 = .ok (.istore 4, 2) := by decide +kernel
theorem dX9_tellsKnown_83 : decode cX9_tellsKnown 83 = .ok (.iload 4, 2) := by decide +kernel
theorem dX9_tellsKnown_85 : decode cX9_tellsKnown 85 = .ok (.aload_n 0, 1) := by decide +kernel
theorem dX9_tellsKnown_86 : decode cX9_tellsKnown 86 = .ok (.getfield 83, 3) := by decide +kernel
theorem dX9_tellsKnown_89 : decode cX9_tellsKnown 89 = .ok (.iload_n 1, 1) := by decide +kernel
theorem dX9_tellsKnown_90 : decode cX9_tellsKnown 90 = .ok (.iconst 1, 1) := by decide +kernel
theorem dX9_tellsKnown_91 : decode cX9_tellsKnown 91 = .ok (.iadd, 1) := by decide +kernel
theorem dX9_tellsKnown_92 : decode cX9_tellsKnown 92 = .ok (.iaload, 1) := by decide +kernel
theorem dX9_tellsKnown_93 : decode cX9_tellsKnown 93 = .ok (.if_icmp .ge 35, 3) := by decide +kernel
theorem dX9_tellsKnown_96 : decode cX9_tellsKnown 96 = .ok (.iload_n 3, 1) := by decide +kernel
theorem dX9_tellsKnown_97 : decode cX9_tellsKnown 97 = .ok (.ifCond .eq 23, 3) := by decide +kernel
theorem dX9_tellsKnown_100 : decode cX9_tellsKnown 100 = .ok (.aload_n 0, 1) := by decide +kernel
theorem dX9_tellsKnown_101 : decode cX9_tellsKnown 101 = .ok (.getfield 89, 3) := by decide +kernel
theorem dX9_tellsKnown_104 : decode cX9_tellsKnown 104 = .ok (.iload 4, 2) := by decide +kernel
theorem dX9_tellsKnown_106 : decode cX9_tellsKnown 106 = .ok (.laload, 1) := by decide +kernel
theorem dX9_tellsKnown_107 : decode cX9_tellsKnown 107 = .ok (.aload_n 0, 1) := by decide +kernel
theorem dX9_tellsKnown_108 : decode cX9_tellsKnown 108 = .ok (.getfield 125, 3) := by decide +kernel
theorem dX9_tellsKnown_111 : decode cX9_tellsKnown 111 = .ok (.i2l, 1) := by decide +kernel
theorem dX9_tellsKnown_112 : decode cX9_tellsKnown 112 = .ok (.lcmp, 1) := by decide +kernel
theorem dX9_tellsKnown_113 : decode cX9_tellsKnown 113 = .ok (.ifCond .gt 7, 3) := by decide +kernel
theorem dX9_tellsKnown_116 : decode cX9_tellsKnown 116 = .ok (.iconst 1, 1) := by decide +kernel
theorem dX9_tellsKnown_117 : decode cX9_tellsKnown 117 = .ok (.goto 4, 3) := by decide +kernel
theorem dX9_tellsKnown_120 : decode cX9_tellsKnown 120 = .ok (.iconst 0, 1) := by decide +kernel
theorem dX9_tellsKnown_121 : decode cX9_tellsKnown 121 = .ok (.istore_n 3, 1) := by decide +kernel
theorem dX9_tellsKnown_122 : decode cX9_tellsKnown 122 = .ok (.iinc 4 1, 3) := by decide +kernel
theorem dX9_tellsKnown_125 : decode cX9_tellsKnown 125 = .ok (.goto (-42), 3) := by decide +kernel
theorem dX9_tellsKnown_128 : decode cX9_tellsKnown 128 = .ok (.iload_n 3, 1) := by decide +kernel
theorem dX9_tellsKnown_129 : decode cX9_tellsKnown 129 = .ok (.ireturn, 1) := by decide +kernel
theorem dX9_load_0 : decode cX9_load 0 = .ok (.aload_n 0, 1) := by decide +kernel
theorem dX9_load_1 : decode cX9_load 1 = .ok (.iconst 0, 1) := by decide +kernel
theorem dX9_load_2 : decode cX9_load 2 = .ok (.putfield 118, 3) := by decide +kernel
theorem dX9_load_5 : decode cX9_load 5 = .ok (.aload_n 0, 1) := by decide +kernel
theorem dX9_load_6 : decode cX9_load 6 = .ok (.aload_n 0, 1) := by decide +kernel
theorem dX9_load_7 : decode cX9_load 7 = .ok (.invokevirtual 193, 3) := by decide +kernel
theorem dX9_load_10 : decode cX9_load 10 = .ok (.putfield 197, 3) := by decide +kernel
theorem dX9_load_13 : decode cX9_load 13 = .ok (.aload_n 0, 1) := by decide +kernel
theorem dX9_load_14 : decode cX9_load 14 = .ok (.getfield 197, 3) := by decide +kernel
theorem dX9_load_17 : decode cX9_load 17 = .ok (.ifCond .ne 7, 3) := by decide +kernel
theorem dX9_load_20 : decode cX9_load 20 = .ok (.aload_n 0, 1) := by decide +kernel
theorem dX9_load_21 : decode cX9_load 21 = .ok (.invokevirtual 200, 3) := by decide +kernel
theorem dX9_load_24 : decode cX9_load 24 = .ok (.aload_n 0, 1) := by decide +kernel
theorem dX9_load_25 : decode cX9_load 25 = .ok (.iconst 0, 1) := by decide +kernel
theorem dX9_load_26 : decode cX9_load 26 = .ok (.putfield 131, 3) := by decide +kernel
theorem dX9_load_29 : decode cX9_load 29 = .ok (.aload_n 0, 1) := by decide +kernel
theorem dX9_load_30 : decode cX9_load 30 = .ok (.getfield 197, 3) := by decide +kernel
theorem dX9_load_33 : decode cX9_load 33 = .ok (.ireturn, 1) := by decide +kernel
theorem dX9_becomes_0 : decode cX9_becomes 0 = .ok (.aload_n 0, 1) := by decide +kernel
theorem dX9_becomes_1 : decode cX9_becomes 1 = .ok (.aload_n 0, 1) := by decide +kernel
theorem dX9_becomes_2 : decode cX9_becomes 2 = .ok (.getfield 125, 3) := by decide +kernel
theorem dX9_becomes_5 : decode cX9_becomes 5 = .ok (.putfield 203, 3) := by decide +kernel
theorem dX9_becomes_8 : decode cX9_becomes 8 = .ok (.iconst 0, 1) := by decide +kernel
theorem dX9_becomes_9 : decode cX9_becomes 9 = .ok (.istore_n 1, 1) := by decide +kernel
theorem dX9_becomes_10 : decode cX9_becomes 10 = .ok (.iload_n 1, 1) := by decide +kernel
theorem dX9_becomes_11 : decode cX9_becomes 11 = .ok (.aload_n 0, 1) := by decide +kernel
theorem dX9_becomes_12 : decode cX9_becomes 12 = .ok (.getfield 145, 3) := by decide +kernel
theorem dX9_becomes_15 : decode cX9_becomes 15 = .ok (.aload_n 0, 1) := by decide +kernel
theorem dX9_becomes_16 : decode cX9_becomes 16 = .ok (.getfield 142, 3) := by decide +kernel
theorem dX9_becomes_19 : decode cX9_becomes 19 = .ok (.isub, 1) := by decide +kernel
theorem dX9_becomes_20 : decode cX9_becomes 20 = .ok (.if_icmp .ge 26, 3) := by decide +kernel
theorem dX9_becomes_23 : decode cX9_becomes 23 = .ok (.aload_n 0, 1) := by decide +kernel
theorem dX9_becomes_24 : decode cX9_becomes 24 = .ok (.getfield 19, 3) := by decide +kernel
theorem dX9_becomes_27 : decode cX9_becomes 27 = .ok (.iload_n 1, 1) := by decide +kernel
theorem dX9_becomes_28 : decode cX9_becomes 28 = .ok (.aload_n 0, 1) := by decide +kernel
theorem dX9_becomes_29 : decode cX9_becomes 29 = .ok (.getfield 7, 3) := by decide +kernel
theorem dX9_becomes_32 : decode cX9_becomes 32 = .ok (.aload_n 0, 1) := by decide +kernel
theorem dX9_becomes_33 : decode cX9_becomes 33 = .ok (.getfield 142, 3) := by decide +kernel
theorem dX9_becomes_36 : decode cX9_becomes 36 = .ok (.iload_n 1, 1) := by decide +kernel
theorem dX9_becomes_37 : decode cX9_becomes 37 = .ok (.iadd, 1) := by decide +kernel
theorem dX9_becomes_38 : decode cX9_becomes 38 = .ok (.iaload, 1) := by decide +kernel
theorem dX9_becomes_39 : decode cX9_becomes 39 = .ok (.iastore, 1) := by decide +kernel
theorem dX9_becomes_40 : decode cX9_becomes 40 = .ok (.iinc 1 1, 3) := by decide +kernel
theorem dX9_becomes_43 : decode cX9_becomes 43 = .ok (.goto (-33), 3) := by decide +kernel
theorem dX9_becomes_46 : decode cX9_becomes 46 = .ok (.iconst 1, 1) := by decide +kernel
theorem dX9_becomes_47 : decode cX9_becomes 47 = .ok (.istore_n 1, 1) := by decide +kernel
theorem dX9_becomes_48 : decode cX9_becomes 48 = .ok (.iload_n 1, 1) := by decide +kernel
theorem dX9_becomes_49 : decode cX9_becomes 49 = .ok (.aload_n 0, 1) := by decide +kernel
theorem dX9_becomes_50 : decode cX9_becomes 50 = .ok (.getfield 203, 3) := by decide +kernel
theorem dX9_becomes_53 : decode cX9_becomes 53 = .ok (.if_icmp .gt 117, 3) := by decide +kernel
theorem dX9_becomes_56 : decode cX9_becomes 56 = .ok (.aload_n 0, 1) := by decide +kernel
theorem dX9_becomes_57 : decode cX9_becomes 57 = .ok (.getfield 22, 3) := by decide +kernel
theorem dX9_becomes_60 : decode cX9_becomes 60 = .ok (.iload_n 1, 1) := by decide +kernel
theorem dX9_becomes_61 : decode cX9_becomes 61 = .ok (.aload_n 0, 1) := by decide +kernel
theorem dX9_becomes_62 : decode cX9_becomes 62 = .ok (.getfield 59, 3) := by decide +kernel
theorem dX9_becomes_65 : decode cX9_becomes 65 = .ok (.iload_n 1, 1) := by decide +kernel
theorem dX9_becomes_66 : decode cX9_becomes 66 = .ok (.iaload, 1) := by decide +kernel
theorem dX9_becomes_67 : decode cX9_becomes 67 = .ok (.iastore, 1) := by decide +kernel
theorem dX9_becomes_68 : decode cX9_becomes 68 = .ok (.aload_n 0, 1) := by decide +kernel
theorem dX9_becomes_69 : decode cX9_becomes 69 = .ok (.getfield 25, 3) := by decide +kernel
theorem dX9_becomes_72 : decode cX9_becomes 72 = .ok (.iload_n 1, 1) := by decide +kernel
theorem dX9_becomes_73 : decode cX9_becomes 73 = .ok (.aload_n 0, 1) := by decide +kernel
theorem dX9_becomes_74 : decode cX9_becomes 74 = .ok (.getfield 62, 3) := by decide +kernel
theorem dX9_becomes_77 : decode cX9_becomes 77 = .ok (.iload_n 1, 1) := by decide +kernel
theorem dX9_becomes_78 : decode cX9_becomes 78 = .ok (.iaload, 1) := by decide +kernel
theorem dX9_becomes_79 : decode cX9_becomes 79 = .ok (.iastore, 1) := by decide +kernel
theorem dX9_becomes_80 : decode cX9_becomes 80 = .ok (.aload_n 0, 1) := by decide +kernel
theorem dX9_becomes_81 : decode cX9_becomes 81 = .ok (.getfield 28, 3) := by decide +kernel
theorem dX9_becomes_84 : decode cX9_becomes 84 = .ok (.iload_n 1, 1) := by decide +kernel
theorem dX9_becomes_85 : decode cX9_becomes 85 = .ok (.aload_n 0, 1) := by decide +kernel
theorem dX9_becomes_86 : decode cX9_becomes 86 = .ok (.getfield 65, 3) := by decide +kernel
theorem dX9_becomes_89 : decode cX9_becomes 89 = .ok (.iload_n 1, 1) := by decide +kernel
theorem dX9_becomes_90 : decode cX9_becomes 90 = .ok (.iaload, 1) := by decide +kernel
theorem dX9_becomes_91 : decode cX9_becomes 91 = .ok (.iastore, 1) := by decide +kernel
theorem dX9_becomes_92 : decode cX9_becomes 92 = .ok (.aload_n 0, 1) := by decide +kernel
theorem dX9_becomes_93 : decode cX9_becomes 93 = .ok (.getfield 31, 3) := by decide +kernel
theorem dX9_becomes_96 : decode cX9_becomes 96 = .ok (.iload_n 1, 1) := by decide +kernel
theorem dX9_becomes_97 : decode cX9_becomes 97 = .ok (.aload_n 0, 1) := by decide +kernel
theorem dX9_becomes_98 : decode cX9_becomes 98 = .ok (.getfield 68, 3) := by decide +kernel
theorem dX9_becomes_101 : decode cX9_becomes 101 = .ok (.iload_n 1, 1) := by decide +kernel
theorem dX9_becomes_102 : decode cX9_becomes 102 = .ok (.iaload, 1) := by decide +kernel
theorem dX9_becomes_103 : decode cX9_becomes 103 = .ok (.iastore, 1) := by decide +kernel
theorem dX9_becomes_104 : decode cX9_becomes 104 = .ok (.aload_n 0, 1) := by decide +kernel
theorem dX9_becomes_105 : decode cX9_becomes 105 = .ok (.getfield 34, 3) := by decide +kernel
theorem dX9_becomes_108 : decode cX9_becomes 108 = .ok (.iload_n 1, 1) := by decide +kernel
theorem dX9_becomes_109 : decode cX9_becomes 109 = .ok (.aload_n 0, 1) := by decide +kernel
theorem dX9_becomes_110 : decode cX9_becomes 110 = .ok (.getfield 71, 3) := by decide +kernel
theorem dX9_becomes_113 : decode cX9_becomes 113 = .ok (.iload_n 1, 1) := by decide +kernel
theorem dX9_becomes_114 : decode cX9_becomes 114 = .ok (.laload, 1) := by decide +kernel
theorem dX9_becomes_115 : decode cX9_becomes 115 = .ok (.lastore, 1) := by decide +kernel
theorem dX9_becomes_116 : decode cX9_becomes 116 = .ok (.aload_n 0, 1) := by decide +kernel
theorem dX9_becomes_117 : decode cX9_becomes 117 = .ok (.getfield 38, 3) := by decide +kernel
theorem dX9_becomes_120 : decode cX9_becomes 120 = .ok (.iload_n 1, 1) := by decide +kernel
theorem dX9_becomes_121 : decode cX9_becomes 121 = .ok (.aload_n 0, 1) := by decide +kernel
theorem dX9_becomes_122 : decode cX9_becomes 122 = .ok (.getfield 74, 3) := by decide +kernel
theorem dX9_becomes_125 : decode cX9_becomes 125 = .ok (.iload_n 1, 1) := by decide +kernel
theorem dX9_becomes_126 : decode cX9_becomes 126 = .ok (.laload, 1) := by decide +kernel
theorem dX9_becomes_127 : decode cX9_becomes 127 = .ok (.lastore, 1) := by decide +kernel
theorem dX9_becomes_128 : decode cX9_becomes 128 = .ok (.aload_n 0, 1) := by decide +kernel
theorem dX9_becomes_129 : decode cX9_becomes 129 = .ok (.getfield 41, 3) := by decide +kernel
theorem dX9_becomes_132 : decode cX9_becomes 132 = .ok (.iload_n 1, 1) := by decide +kernel
theorem dX9_becomes_133 : decode cX9_becomes 133 = .ok (.aload_n 0, 1) := by decide +kernel
theorem dX9_becomes_134 : decode cX9_becomes 134 = .ok (.getfield 77, 3) := by decide +kernel
theorem dX9_becomes_137 : decode cX9_becomes 137 = .ok (.iload_n 1, 1) := by decide +kernel
theorem dX9_becomes_138 : decode cX9_becomes 138 = .ok (.laload, 1) := by decide +kernel
theorem dX9_becomes_139 : decode cX9_becomes 139 = .ok (.lastore, 1) := by decide +kernel
theorem dX9_becomes_140 : decode cX9_becomes 140 = .ok (.aload_n 0, 1) := by decide +kernel
theorem dX9_becomes_141 : decode cX9_becomes 141 = .ok (.getfield 44, 3) := by decide +kernel
theorem dX9_becomes_144 : decode cX9_becomes 144 = .ok (.iload_n 1, 1) := by decide +kernel
theorem dX9_becomes_145 : decode cX9_becomes 145 = .ok (.aload_n 0, 1) := by decide +kernel
theorem dX9_becomes_146 : decode cX9_becomes 146 = .ok (.getfield 80, 3) := by decide +kernel
theorem dX9_becomes_149 : decode cX9_becomes 149 = .ok (.iload_n 1, 1) := by decide +kernel
theorem dX9_becomes_150 : decode cX9_becomes 150 = .ok (.laload, 1) := by decide +kernel
theorem dX9_becomes_151 : decode cX9_becomes 151 = .ok (.lastore, 1) := by decide +kernel
theorem dX9_becomes_152 : decode cX9_becomes 152 = .ok (.aload_n 0, 1) := by decide +kernel
theorem dX9_becomes_153 : decode cX9_becomes 153 = .ok (.getfield 47, 3) := by decide +kernel
theorem dX9_becomes_156 : decode cX9_becomes 156 = .ok (.iload_n 1, 1) := by decide +kernel
theorem dX9_becomes_157 : decode cX9_becomes 157 = .ok (.aload_n 0, 1) := by decide +kernel
theorem dX9_becomes_158 : decode cX9_becomes 158 = .ok (.getfield 83, 3) := by decide +kernel
theorem dX9_becomes_161 : decode cX9_becomes 161 = .ok (.iload_n 1, 1) := by decide +kernel
theorem dX9_becomes_162 : decode cX9_becomes 162 = .ok (.iaload, 1) := by decide +kernel
theorem dX9_becomes_163 : decode cX9_becomes 163 = .ok (.iastore, 1) := by decide +kernel
theorem dX9_becomes_164 : decode cX9_becomes 164 = .ok (.iinc 1 1, 3) := by decide +kernel
theorem dX9_becomes_167 : decode cX9_becomes 167 = .ok (.goto (-119), 3) := by decide +kernel
theorem dX9_becomes_170 : decode cX9_becomes 170 = .ok (.aload_n 0, 1) := by decide +kernel
theorem dX9_becomes_171 : decode cX9_becomes 171 = .ok (.getfield 47, 3) := by decide +kernel
theorem dX9_becomes_174 : decode cX9_becomes 174 = .ok (.aload_n 0, 1) := by decide +kernel
theorem dX9_becomes_175 : decode cX9_becomes 175 = .ok (.getfield 203, 3) := by decide +kernel
theorem dX9_becomes_178 : decode cX9_becomes 178 = .ok (.iconst 1, 1) := by decide +kernel
theorem dX9_becomes_179 : decode cX9_becomes 179 = .ok (.iadd, 1) := by decide +kernel
theorem dX9_becomes_180 : decode cX9_becomes 180 = .ok (.aload_n 0, 1) := by decide +kernel
theorem dX9_becomes_181 : decode cX9_becomes 181 = .ok (.getfield 128, 3) := by decide +kernel
theorem dX9_becomes_184 : decode cX9_becomes 184 = .ok (.iastore, 1) := by decide +kernel
theorem dX9_becomes_185 : decode cX9_becomes 185 = .ok (.iconst 0, 1) := by decide +kernel
theorem dX9_becomes_186 : decode cX9_becomes 186 = .ok (.istore_n 1, 1) := by decide +kernel
theorem dX9_becomes_187 : decode cX9_becomes 187 = .ok (.iload_n 1, 1) := by decide +kernel
theorem dX9_becomes_188 : decode cX9_becomes 188 = .ok (.aload_n 0, 1) := by decide +kernel
theorem dX9_becomes_189 : decode cX9_becomes 189 = .ok (.getfield 128, 3) := by decide +kernel
theorem dX9_becomes_192 : decode cX9_becomes 192 = .ok (.if_icmp .ge 45, 3) := by decide +kernel
theorem dX9_becomes_195 : decode cX9_becomes 195 = .ok (.aload_n 0, 1) := by decide +kernel
theorem dX9_becomes_196 : decode cX9_becomes 196 = .ok (.getfield 50, 3) := by decide +kernel
theorem dX9_becomes_199 : decode cX9_becomes 199 = .ok (.iload_n 1, 1) := by decide +kernel
theorem dX9_becomes_200 : decode cX9_becomes 200 = .ok (.aload_n 0, 1) := by decide +kernel
theorem dX9_becomes_201 : decode cX9_becomes 201 = .ok (.getfield 86, 3) := by decide +kernel
theorem dX9_becomes_204 : decode cX9_becomes 204 = .ok (.iload_n 1, 1) := by decide +kernel
theorem dX9_becomes_205 : decode cX9_becomes 205 = .ok (.iaload, 1) := by decide +kernel
theorem dX9_becomes_206 : decode cX9_becomes 206 = .ok (.iastore, 1) := by decide +kernel
theorem dX9_becomes_207 : decode cX9_becomes 207 = .ok (.aload_n 0, 1) := by decide +kernel
theorem dX9_becomes_208 : decode cX9_becomes 208 = .ok (.getfield 53, 3) := by decide +kernel
theorem dX9_becomes_211 : decode cX9_becomes 211 = .ok (.iload_n 1, 1) := by decide +kernel
theorem dX9_becomes_212 : decode cX9_becomes 212 = .ok (.aload_n 0, 1) := by decide +kernel
theorem dX9_becomes_213 : decode cX9_becomes 213 = .ok (.getfield 89, 3) := by decide +kernel
theorem dX9_becomes_216 : decode cX9_becomes 216 = .ok (.iload_n 1, 1) := by decide +kernel
theorem dX9_becomes_217 : decode cX9_becomes 217 = .ok (.laload, 1) := by decide +kernel
theorem dX9_becomes_218 : decode cX9_becomes 218 = .ok (.lastore, 1) := by decide +kernel
theorem dX9_becomes_219 : decode cX9_becomes 219 = .ok (.aload_n 0, 1) := by decide +kernel
theorem dX9_becomes_220 : decode cX9_becomes 220 = .ok (.getfield 56, 3) := by decide +kernel
theorem dX9_becomes_223 : decode cX9_becomes 223 = .ok (.iload_n 1, 1) := by decide +kernel
theorem dX9_becomes_224 : decode cX9_becomes 224 = .ok (.aload_n 0, 1) := by decide +kernel
theorem dX9_becomes_225 : decode cX9_becomes 225 = .ok (.getfield 92, 3) := by decide +kernel
theorem dX9_becomes_228 : decode cX9_becomes 228 = .ok (.iload_n 1, 1) := by decide +kernel
theorem dX9_becomes_229 : decode cX9_becomes 229 = .ok (.laload, 1) := by decide +kernel
theorem dX9_becomes_230 : decode cX9_becomes 230 = .ok (.lastore, 1) := by decide +kernel
theorem dX9_becomes_231 : decode cX9_becomes 231 = .ok (.iinc 1 1, 3) := by decide +kernel
theorem dX9_becomes_234 : decode cX9_becomes 234 = .ok (.goto (-47), 3) := by decide +kernel
theorem dX9_becomes_237 : decode cX9_becomes 237 = .ok (.aload_n 0, 1) := by decide +kernel
theorem dX9_becomes_238 : decode cX9_becomes 238 = .ok (.invokevirtual 206, 3) := by decide +kernel
theorem dX9_becomes_241 : decode cX9_becomes 241 = .ok (.aload_n 0, 1) := by decide +kernel
theorem dX9_becomes_242 : decode cX9_becomes 242 = .ok (.iconst 0, 1) := by decide +kernel
theorem dX9_becomes_243 : decode cX9_becomes 243 = .ok (.putfield 209, 3) := by decide +kernel
theorem dX9_becomes_246 : decode cX9_becomes 246 = .ok (.iconst 1, 1) := by decide +kernel
theorem dX9_becomes_247 : decode cX9_becomes 247 = .ok (.istore_n 1, 1) := by decide +kernel
theorem dX9_becomes_248 : decode cX9_becomes 248 = .ok (.iload_n 1, 1) := by decide +kernel
theorem dX9_becomes_249 : decode cX9_becomes 249 = .ok (.aload_n 0, 1) := by decide +kernel
theorem dX9_becomes_250 : decode cX9_becomes 250 = .ok (.getfield 203, 3) := by decide +kernel
theorem dX9_becomes_253 : decode cX9_becomes 253 = .ok (.if_icmp .gt 112, 3) := by decide +kernel
theorem dX9_becomes_256 : decode cX9_becomes 256 = .ok (.aload_n 0, 1) := by decide +kernel
theorem dX9_becomes_257 : decode cX9_becomes 257 = .ok (.getfield 99, 3) := by decide +kernel
theorem dX9_becomes_260 : decode cX9_becomes 260 = .ok (.iload_n 1, 1) := by decide +kernel
theorem dX9_becomes_261 : decode cX9_becomes 261 = .ok (.iconst 0, 1) := by decide +kernel
theorem dX9_becomes_262 : decode cX9_becomes 262 = .ok (.iastore, 1) := by decide +kernel
theorem dX9_becomes_263 : decode cX9_becomes 263 = .ok (.iconst 1, 1) := by decide +kernel
theorem dX9_becomes_264 : decode cX9_becomes 264 = .ok (.istore_n 2, 1) := by decide +kernel
theorem dX9_becomes_265 : decode cX9_becomes 265 = .ok (.iload_n 2, 1) := by decide +kernel
theorem dX9_becomes_266 : decode cX9_becomes 266 = .ok (.iload_n 1, 1) := by decide +kernel
theorem dX9_becomes_267 : decode cX9_becomes 267 = .ok (.if_icmp .gt 38, 3) := by decide +kernel
theorem dX9_becomes_270 : decode cX9_becomes 270 = .ok (.aload_n 0, 1) := by decide +kernel
theorem dX9_becomes_271 : decode cX9_becomes 271 = .ok (.getfield 99, 3) := by decide +kernel
theorem dX9_becomes_274 : decode cX9_becomes 274 = .ok (.iload_n 1, 1) := by decide +kernel
theorem dX9_becomes_275 : decode cX9_becomes 275 = .ok (.iaload, 1) := by decide +kernel
theorem dX9_becomes_276 : decode cX9_becomes 276 = .ok (.ifCond .ne 29, 3) := by decide +kernel
theorem dX9_becomes_279 : decode cX9_becomes 279 = .ok (.aload_n 0, 1) := by decide +kernel
theorem dX9_becomes_280 : decode cX9_becomes 280 = .ok (.getfield 99, 3) := by decide +kernel
theorem dX9_becomes_283 : decode cX9_becomes 283 = .ok (.iload_n 1, 1) := by decide +kernel
theorem dX9_becomes_284 : decode cX9_becomes 284 = .ok (.aload_n 0, 1) := by decide +kernel
theorem dX9_becomes_285 : decode cX9_becomes 285 = .ok (.iload_n 1, 1) := by decide +kernel
theorem dX9_becomes_286 : decode cX9_becomes 286 = .ok (.iload_n 2, 1) := by decide +kernel
theorem dX9_becomes_287 : decode cX9_becomes 287 = .ok (.invokevirtual 212, 3) := by decide +kernel
theorem dX9_becomes_290 : decode cX9_becomes 290 = .ok (.ifCond .ne 7, 3) := by decide +kernel
theorem dX9_becomes_293 : decode cX9_becomes 293 = .ok (.iload_n 2, 1) := by decide +kernel
theorem dX9_becomes_294 : decode cX9_becomes 294 = .ok (.goto 4, 3) := by decide +kernel
theorem dX9_becomes_297 : decode cX9_becomes 297 = .ok (.iconst 0, 1) := by decide +kernel
theorem dX9_becomes_298 : decode cX9_becomes 298 = .ok (.iastore, 1) := by decide +kernel
theorem dX9_becomes_299 : decode cX9_becomes 299 = .ok (.iinc 2 1, 3) := by decide +kernel
theorem dX9_becomes_302 : decode cX9_becomes 302 = .ok (.goto (-37), 3) := by decide +kernel
theorem dX9_becomes_305 : decode cX9_becomes 305 = .ok (.aload_n 0, 1) := by decide +kernel
theorem dX9_becomes_306 : decode cX9_becomes 306 = .ok (.getfield 99, 3) := by decide +kernel
theorem dX9_becomes_309 : decode cX9_becomes 309 = .ok (.iload_n 1, 1) := by decide +kernel
theorem dX9_becomes_310 : decode cX9_becomes 310 = .ok (.iaload, 1) := by decide +kernel
theorem dX9_becomes_311 : decode cX9_becomes 311 = .ok (.iload_n 1, 1) := by decide +kernel
theorem dX9_becomes_312 : decode cX9_becomes 312 = .ok (.if_icmp .ne 13, 3) := by decide +kernel
theorem dX9_becomes_315 : decode cX9_becomes 315 = .ok (.aload_n 0, 1) := by decide +kernel
theorem dX9_becomes_316 : decode cX9_becomes 316 = .ok (.dup, 1) := by decide +kernel
theorem dX9_becomes_317 : decode cX9_becomes 317 = .ok (.getfield 209, 3) := by decide +kernel
theorem dX9_becomes_320 : decode cX9_becomes 320 = .ok (.iconst 1, 1) := by decide +kernel
theorem dX9_becomes_321 : decode cX9_becomes 321 = .ok (.iadd, 1) := by decide +kernel
theorem dX9_becomes_322 : decode cX9_becomes 322 = .ok (.putfield 209, 3) := by decide +kernel
theorem dX9_becomes_325 : decode cX9_becomes 325 = .ok (.aload_n 0, 1) := by decide +kernel
theorem dX9_becomes_326 : decode cX9_becomes 326 = .ok (.getfield 102, 3) := by decide +kernel
theorem dX9_becomes_329 : decode cX9_becomes 329 = .ok (.iload_n 1, 1) := by decide +kernel
theorem dX9_becomes_330 : decode cX9_becomes 330 = .ok (.aload_n 0, 1) := by decide +kernel
theorem dX9_becomes_331 : decode cX9_becomes 331 = .ok (.getfield 99, 3) := by decide +kernel
theorem dX9_becomes_334 : decode cX9_becomes 334 = .ok (.iload_n 1, 1) := by decide +kernel
theorem dX9_becomes_335 : decode cX9_becomes 335 = .ok (.iaload, 1) := by decide +kernel
theorem dX9_becomes_336 : decode cX9_becomes 336 = .ok (.iload_n 1, 1) := by decide +kernel
theorem dX9_becomes_337 : decode cX9_becomes 337 = .ok (.if_icmp .ne 10, 3) := by decide +kernel
theorem dX9_becomes_340 : decode cX9_becomes 340 = .ok (.aload_n 0, 1) := by decide +kernel
theorem dX9_becomes_341 : decode cX9_becomes 341 = .ok (.getfield 209, 3) := by decide +kernel
theorem dX9_becomes_344 : decode cX9_becomes 344 = .ok (.goto 14, 3) := by decide +kernel
theorem dX9_becomes_347 : decode cX9_becomes 347 = .ok (.aload_n 0, 1) := by decide +kernel
theorem dX9_becomes_348 : decode cX9_becomes 348 = .ok (.getfield 102, 3) := by decide +kernel
theorem dX9_becomes_351 : decode cX9_becomes 351 = .ok (.aload_n 0, 1) := by decide +kernel
theorem dX9_becomes_352 : decode cX9_becomes 352 = .ok (.getfield 99, 3) := by decide +kernel
theorem dX9_becomes_355 : decode cX9_becomes 355 = .ok (.iload_n 1, 1) := by decide +kernel
theorem dX9_becomes_356 : decode cX9_becomes 356 = .ok (.iaload, 1) := by decide +kernel
theorem dX9_becomes_357 : decode cX9_becomes 357 = .ok (.iaload, 1) := by decide +kernel
theorem dX9_becomes_358 : decode cX9_becomes 358 = .ok (.iastore, 1) := by decide +kernel
theorem dX9_becomes_359 : decode cX9_becomes 359 = .ok (.iinc 1 1, 3) := by decide +kernel
theorem dX9_becomes_362 : decode cX9_becomes 362 = .ok (.goto (-114), 3) := by decide +kernel
theorem dX9_becomes_365 : decode cX9_becomes 365 = .ok (.return_, 1) := by decide +kernel
theorem dX9_references_0 : decode cX9_references 0 = .ok (.aload_n 0, 1) := by decide +kernel
theorem dX9_references_1 : decode cX9_references 1 = .ok (.getfield 47, 3) := by decide +kernel
theorem dX9_references_4 : decode cX9_references 4 = .ok (.iload_n 1, 1) := by decide +kernel
theorem dX9_references_5 : decode cX9_references 5 = .ok (.iconst 1, 1) := by decide +kernel
theorem dX9_references_6 : decode cX9_references 6 = .ok (.iadd, 1) := by decide +kernel
theorem dX9_references_7 : decode cX9_references 7 = .ok (.iaload, 1) := by decide +kernel
theorem dX9_references_8 : decode cX9_references 8 = .ok (.aload_n 0, 1) := by decide +kernel
theorem dX9_references_9 : decode cX9_references 9 = .ok (.getfield 47, 3) := by decide +kernel
theorem dX9_references_12 : decode cX9_references 12 = .ok (.iload_n 1, 1) := by decide +kernel
theorem dX9_references_13 : decode cX9_references 13 = .ok (.iaload, 1) := by decide +kernel
theorem dX9_references_14 : decode cX9_references 14 = .ok (.isub, 1) := by decide +kernel
theorem dX9_references_15 : decode cX9_references 15 = .ok (.istore_n 2, 1) := by decide +kernel
theorem dX9_references_16 : decode cX9_references 16 = .ok (.aload_n 0, 1) := by decide +kernel
theorem dX9_references_17 : decode cX9_references 17 = .ok (.getfield 25, 3) := by decide +kernel
theorem dX9_references_20 : decode cX9_references 20 = .ok (.iload_n 1, 1) := by decide +kernel
theorem dX9_references_21 : decode cX9_references 21 = .ok (.iaload, 1) := by decide +kernel
theorem dX9_references_22 : decode cX9_references 22 = .ok (.iconst 3, 1) := by decide +kernel
theorem dX9_references_23 : decode cX9_references 23 = .ok (.if_icmp .ne 5, 3) := by decide +kernel
theorem dX9_references_26 : decode cX9_references 26 = .ok (.iconst 2, 1) := by decide +kernel
theorem dX9_references_27 : decode cX9_references 27 = .ok (.ireturn, 1) := by decide +kernel
theorem dX9_references_28 : decode cX9_references 28 = .ok (.aload_n 0, 1) := by decide +kernel
theorem dX9_references_29 : decode cX9_references 29 = .ok (.getfield 25, 3) := by decide +kernel
theorem dX9_references_32 : decode cX9_references 32 = .ok (.iload_n 1, 1) := by decide +kernel
theorem dX9_references_33 : decode cX9_references 33 = .ok (.iaload, 1) := by decide +kernel
theorem dX9_references_34 : decode cX9_references 34 = .ok (.iconst 4, 1) := by decide +kernel
theorem dX9_references_35 : decode cX9_references 35 = .ok (.if_icmp .eq 13, 3) := by decide +kernel
theorem dX9_references_38 : decode cX9_references 38 = .ok (.aload_n 0, 1) := by decide +kernel
theorem dX9_references_39 : decode cX9_references 39 = .ok (.getfield 25, 3) := by decide +kernel
theorem dX9_references_42 : decode cX9_references 42 = .ok (.iload_n 1, 1) := by decide +kernel
theorem dX9_references_43 : decode cX9_references 43 = .ok (.iaload, 1) := by decide +kernel
theorem dX9_references_44 : decode cX9_references 44 = .ok (.iconst 5, 1) := by decide +kernel
theorem dX9_references_45 : decode cX9_references 45 = .ok (.if_icmp .ne 5, 3) := by decide +kernel
theorem dX9_references_48 : decode cX9_references 48 = .ok (.iload_n 2, 1) := by decide +kernel
theorem dX9_references_49 : decode cX9_references 49 = .ok (.ireturn, 1) := by decide +kernel
theorem dX9_references_50 : decode cX9_references 50 = .ok (.aload_n 0, 1) := by decide +kernel
theorem dX9_references_51 : decode cX9_references 51 = .ok (.getfield 25, 3) := by decide +kernel
theorem dX9_references_54 : decode cX9_references 54 = .ok (.iload_n 1, 1) := by decide +kernel
theorem dX9_references_55 : decode cX9_references 55 = .ok (.iaload, 1) := by decide +kernel
theorem dX9_references_56 : decode cX9_references 56 = .ok (.bipush 13, 2) := by decide +kernel
theorem dX9_references_58 : decode cX9_references 58 = .ok (.if_icmp .ne 7, 3) := by decide +kernel
theorem dX9_references_61 : decode cX9_references 61 = .ok (.iconst 1, 1) := by decide +kernel
theorem dX9_references_62 : decode cX9_references 62 = .ok (.iload_n 2, 1) := by decide +kernel
theorem dX9_references_63 : decode cX9_references 63 = .ok (.iadd, 1) := by decide +kernel
theorem dX9_references_64 : decode cX9_references 64 = .ok (.ireturn, 1) := by decide +kernel
theorem dX9_references_65 : decode cX9_references 65 = .ok (.aload_n 0, 1) := by decide +kernel
theorem dX9_references_66 : decode cX9_references 66 = .ok (.getfield 25, 3) := by decide +kernel
theorem dX9_references_69 : decode cX9_references 69 = .ok (.iload_n 1, 1) := by decide +kernel
theorem dX9_references_70 : decode cX9_references 70 = .ok (.iaload, 1) := by decide +kernel
theorem dX9_references_71 : decode cX9_references 71 = .ok (.invokestatic 190, 3) := by decide +kernel
theorem dX9_references_74 : decode cX9_references 74 = .ok (.ifCond .eq 7, 3) := by decide +kernel
theorem dX9_references_77 : decode cX9_references 77 = .ok (.iconst 1, 1) := by decide +kernel
theorem dX9_references_78 : decode cX9_references 78 = .ok (.goto 4, 3) := by decide +kernel
theorem dX9_references_81 : decode cX9_references 81 = .ok (.iconst 0, 1) := by decide +kernel
theorem dX9_references_82 : decode cX9_references 82 = .ok (.ireturn, 1) := by decide +kernel
theorem dX9_refer_0 : decode cX9_refer 0 = .ok (.aload_n 0, 1) := by decide +kernel
theorem dX9_refer_1 : decode cX9_refer 1 = .ok (.getfield 25, 3) := by decide +kernel
theorem dX9_refer_4 : decode cX9_refer 4 = .ok (.iload_n 1, 1) := by decide +kernel
theorem dX9_refer_5 : decode cX9_refer 5 = .ok (.iaload, 1) := by decide +kernel
theorem dX9_refer_6 : decode cX9_refer 6 = .ok (.iconst 3, 1) := by decide +kernel
theorem dX9_refer_7 : decode cX9_refer 7 = .ok (.if_icmp .ne 24, 3) := by decide +kernel
theorem dX9_refer_10 : decode cX9_refer 10 = .ok (.iload_n 2, 1) := by decide +kernel
theorem dX9_refer_11 : decode cX9_refer 11 = .ok (.ifCond .ne 12, 3) := by decide +kernel
theorem dX9_refer_14 : decode cX9_refer 14 = .ok (.aload_n 0, 1) := by decide +kernel
theorem dX9_refer_15 : decode cX9_refer 15 = .ok (.getfield 41, 3) := by decide +kernel
theorem dX9_refer_18 : decode cX9_refer 18 = .ok (.iload_n 1, 1) := by decide +kernel
theorem dX9_refer_19 : decode cX9_refer 19 = .ok (.laload, 1) := by decide +kernel
theorem dX9_refer_20 : decode cX9_refer 20 = .ok (.goto 9, 3) := by decide +kernel
theorem dX9_refer_23 : decode cX9_refer 23 = .ok (.aload_n 0, 1) := by decide +kernel
theorem dX9_refer_24 : decode cX9_refer 24 = .ok (.getfield 44, 3) := by decide +kernel
theorem dX9_refer_27 : decode cX9_refer 27 = .ok (.iload_n 1, 1) := by decide +kernel
theorem dX9_refer_28 : decode cX9_refer 28 = .ok (.laload, 1) := by decide +kernel
theorem dX9_refer_29 : decode cX9_refer 29 = .ok (.l2i, 1) := by decide +kernel
theorem dX9_refer_30 : decode cX9_refer 30 = .ok (.ireturn, 1) := by decide +kernel
theorem dX9_refer_31 : decode cX9_refer 31 = .ok (.aload_n 0, 1) := by decide +kernel
theorem dX9_refer_32 : decode cX9_refer 32 = .ok (.getfield 25, 3) := by decide +kernel
theorem dX9_refer_35 : decode cX9_refer 35 = .ok (.iload_n 1, 1) := by decide +kernel
theorem dX9_refer_36 : decode cX9_refer 36 = .ok (.iaload, 1) := by decide +kernel
theorem dX9_refer_37 : decode cX9_refer 37 = .ok (.iconst 4, 1) := by decide +kernel
theorem dX9_refer_38 : decode cX9_refer 38 = .ok (.if_icmp .eq 13, 3) := by decide +kernel
theorem dX9_refer_41 : decode cX9_refer 41 = .ok (.aload_n 0, 1) := by decide +kernel
theorem dX9_refer_42 : decode cX9_refer 42 = .ok (.getfield 25, 3) := by decide +kernel
theorem dX9_refer_45 : decode cX9_refer 45 = .ok (.iload_n 1, 1) := by decide +kernel
theorem dX9_refer_46 : decode cX9_refer 46 = .ok (.iaload, 1) := by decide +kernel
theorem dX9_refer_47 : decode cX9_refer 47 = .ok (.iconst 5, 1) := by decide +kernel
theorem dX9_refer_48 : decode cX9_refer 48 = .ok (.if_icmp .ne 18, 3) := by decide +kernel
theorem dX9_refer_51 : decode cX9_refer 51 = .ok (.aload_n 0, 1) := by decide +kernel
theorem dX9_refer_52 : decode cX9_refer 52 = .ok (.getfield 53, 3) := by decide +kernel
theorem dX9_refer_55 : decode cX9_refer 55 = .ok (.aload_n 0, 1) := by decide +kernel
theorem dX9_refer_56 : decode cX9_refer 56 = .ok (.getfield 47, 3) := by decide +kernel
theorem dX9_refer_59 : decode cX9_refer 59 = .ok (.iload_n 1, 1) := by decide +kernel
theorem dX9_refer_60 : decode cX9_refer 60 = .ok (.iaload, 1) := by decide +kernel
theorem dX9_refer_61 : decode cX9_refer 61 = .ok (.iload_n 2, 1) := by decide +kernel
theorem dX9_refer_62 : decode cX9_refer 62 = .ok (.iadd, 1) := by decide +kernel
theorem dX9_refer_63 : decode cX9_refer 63 = .ok (.laload, 1) := by decide +kernel
theorem dX9_refer_64 : decode cX9_refer 64 = .ok (.l2i, 1) := by decide +kernel
theorem dX9_refer_65 : decode cX9_refer 65 = .ok (.ireturn, 1) := by decide +kernel
theorem dX9_refer_66 : decode cX9_refer 66 = .ok (.iload_n 2, 1) := by decide +kernel
theorem dX9_refer_67 : decode cX9_refer 67 = .ok (.ifCond .ne 12, 3) := by decide +kernel
theorem dX9_refer_70 : decode cX9_refer 70 = .ok (.aload_n 0, 1) := by decide +kernel
theorem dX9_refer_71 : decode cX9_refer 71 = .ok (.getfield 34, 3) := by decide +kernel
theorem dX9_refer_74 : decode cX9_refer 74 = .ok (.iload_n 1, 1) := by decide +kernel
theorem dX9_refer_75 : decode cX9_refer 75 = .ok (.laload, 1) := by decide +kernel
theorem dX9_refer_76 : decode cX9_refer 76 = .ok (.goto 18, 3) := by decide +kernel
theorem dX9_refer_79 : decode cX9_refer 79 = .ok (.aload_n 0, 1) := by decide +kernel
theorem dX9_refer_80 : decode cX9_refer 80 = .ok (.getfield 53, 3) := by decide +kernel
theorem dX9_refer_83 : decode cX9_refer 83 = .ok (.aload_n 0, 1) := by decide +kernel
theorem dX9_refer_84 : decode cX9_refer 84 = .ok (.getfield 47, 3) := by decide +kernel
theorem dX9_refer_87 : decode cX9_refer 87 = .ok (.iload_n 1, 1) := by decide +kernel
theorem dX9_refer_88 : decode cX9_refer 88 = .ok (.iaload, 1) := by decide +kernel
theorem dX9_refer_89 : decode cX9_refer 89 = .ok (.iload_n 2, 1) := by decide +kernel
theorem dX9_refer_90 : decode cX9_refer 90 = .ok (.iadd, 1) := by decide +kernel
theorem dX9_refer_91 : decode cX9_refer 91 = .ok (.iconst 1, 1) := by decide +kernel
theorem dX9_refer_92 : decode cX9_refer 92 = .ok (.isub, 1) := by decide +kernel
theorem dX9_refer_93 : decode cX9_refer 93 = .ok (.laload, 1) := by decide +kernel
theorem dX9_refer_94 : decode cX9_refer 94 = .ok (.l2i, 1) := by decide +kernel
theorem dX9_refer_95 : decode cX9_refer 95 = .ok (.ireturn, 1) := by decide +kernel
theorem dX9_depth_0 : decode cX9_depth 0 = .ok (.aload_n 0, 1) := by decide +kernel
theorem dX9_depth_1 : decode cX9_depth 1 = .ok (.getfield 96, 3) := by decide +kernel
theorem dX9_depth_4 : decode cX9_depth 4 = .ok (.sipush 202, 3) := by decide +kernel
theorem dX9_depth_7 : decode cX9_depth 7 = .ok (.iload_n 1, 1) := by decide +kernel
theorem dX9_depth_8 : decode cX9_depth 8 = .ok (.imul, 1) := by decide +kernel
theorem dX9_depth_9 : decode cX9_depth 9 = .ok (.iload_n 2, 1) := by decide +kernel
theorem dX9_depth_10 : decode cX9_depth 10 = .ok (.iadd, 1) := by decide +kernel
theorem dX9_depth_11 : decode cX9_depth 11 = .ok (.iaload, 1) := by decide +kernel
theorem dX9_depth_12 : decode cX9_depth 12 = .ok (.ireturn, 1) := by decide +kernel
theorem dX9_areNames_0 : decode cX9_areNames 0 = .ok (.iconst 0, 1) := by decide +kernel
theorem dX9_areNames_1 : decode cX9_areNames 1 = .ok (.istore_n 3, 1) := by decide +kernel
theorem dX9_areNames_2 : decode cX9_areNames 2 = .ok (.aload_n 0, 1) := by decide +kernel
theorem dX9_areNames_3 : decode cX9_areNames 3 = .ok (.getfield 19, 3) := by decide +kernel
theorem dX9_areNames_6 : decode cX9_areNames 6 = .ok (.iload_n 1, 1) := by decide +kernel
theorem dX9_areNames_7 : decode cX9_areNames 7 = .ok (.iload_n 3, 1) := by decide +kernel
theorem dX9_areNames_8 : decode cX9_areNames 8 = .ok (.iadd, 1) := by decide +kernel
theorem dX9_areNames_9 : decode cX9_areNames 9 = .ok (.iaload, 1) := by decide +kernel
theorem dX9_areNames_10 : decode cX9_areNames 10 = .ok (.ifCond .eq 28, 3) := by decide +kernel
theorem dX9_areNames_13 : decode cX9_areNames 13 = .ok (.aload_n 0, 1) := by decide +kernel
theorem dX9_areNames_14 : decode cX9_areNames 14 = .ok (.getfield 19, 3) := by decide +kernel
theorem dX9_areNames_17 : decode cX9_areNames 17 = .ok (.iload_n 1, 1) := by decide +kernel
theorem dX9_areNames_18 : decode cX9_areNames 18 = .ok (.iload_n 3, 1) := by decide +kernel
theorem dX9_areNames_19 : decode cX9_areNames 19 = .ok (.iadd, 1) := by decide +kernel
theorem dX9_areNames_20 : decode cX9_areNames 20 = .ok (.iaload, 1) := by decide +kernel
theorem dX9_areNames_21 : decode cX9_areNames 21 = .ok (.aload_n 0, 1) := by decide +kernel
theorem dX9_areNames_22 : decode cX9_areNames 22 = .ok (.getfield 19, 3) := by decide +kernel
theorem dX9_areNames_25 : decode cX9_areNames 25 = .ok (.iload_n 2, 1) := by decide +kernel
theorem dX9_areNames_26 : decode cX9_areNames 26 = .ok (.iload_n 3, 1) := by decide +kernel
theorem dX9_areNames_27 : decode cX9_areNames 27 = .ok (.iadd, 1) := by decide +kernel
theorem dX9_areNames_28 : decode cX9_areNames 28 = .ok (.iaload, 1) := by decide +kernel
theorem dX9_areNames_29 : decode cX9_areNames 29 = .ok (.if_icmp .ne 9, 3) := by decide +kernel
theorem dX9_areNames_32 : decode cX9_areNames 32 = .ok (.iinc 3 1, 3) := by decide +kernel
theorem dX9_areNames_35 : decode cX9_areNames 35 = .ok (.goto (-33), 3) := by decide +kernel
theorem dX9_areNames_38 : decode cX9_areNames 38 = .ok (.aload_n 0, 1) := by decide +kernel
theorem dX9_areNames_39 : decode cX9_areNames 39 = .ok (.getfield 19, 3) := by decide +kernel
theorem dX9_areNames_42 : decode cX9_areNames 42 = .ok (.iload_n 1, 1) := by decide +kernel
theorem dX9_areNames_43 : decode cX9_areNames 43 = .ok (.iload_n 3, 1) := by decide +kernel
theorem dX9_areNames_44 : decode cX9_areNames 44 = .ok (.iadd, 1) := by decide +kernel
theorem dX9_areNames_45 : decode cX9_areNames 45 = .ok (.iaload, 1) := by decide +kernel
theorem dX9_areNames_46 : decode cX9_areNames 46 = .ok (.aload_n 0, 1) := by decide +kernel
theorem dX9_areNames_47 : decode cX9_areNames 47 = .ok (.getfield 19, 3) := by decide +kernel
theorem dX9_areNames_50 : decode cX9_areNames 50 = .ok (.iload_n 2, 1) := by decide +kernel
theorem dX9_areNames_51 : decode cX9_areNames 51 = .ok (.iload_n 3, 1) := by decide +kernel
theorem dX9_areNames_52 : decode cX9_areNames 52 = .ok (.iadd, 1) := by decide +kernel
theorem dX9_areNames_53 : decode cX9_areNames 53 = .ok (.iaload, 1) := by decide +kernel
theorem dX9_areNames_54 : decode cX9_areNames 54 = .ok (.if_icmp .ne 7, 3) := by decide +kernel
theorem dX9_areNames_57 : decode cX9_areNames 57 = .ok (.iconst 1, 1) := by decide +kernel
theorem dX9_areNames_58 : decode cX9_areNames 58 = .ok (.goto 4, 3) := by decide +kernel
theorem dX9_areNames_61 : decode cX9_areNames 61 = .ok (.iconst 0, 1) := by decide +kernel
theorem dX9_areNames_62 : decode cX9_areNames 62 = .ok (.ireturn, 1) := by decide +kernel
theorem dX9_areLabels_0 : decode cX9_areLabels 0 = .ok (.aload_n 0, 1) := by decide +kernel
theorem dX9_areLabels_1 : decode cX9_areLabels 1 = .ok (.getfield 25, 3) := by decide +kernel
theorem dX9_areLabels_4 : decode cX9_areLabels 4 = .ok (.iload_n 1, 1) := by decide +kernel
theorem dX9_areLabels_5 : decode cX9_areLabels 5 = .ok (.iaload, 1) := by decide +kernel
theorem dX9_areLabels_6 : decode cX9_areLabels 6 = .ok (.aload_n 0, 1) := by decide +kernel
theorem dX9_areLabels_7 : decode cX9_areLabels 7 = .ok (.getfield 25, 3) := by decide +kernel
theorem dX9_areLabels_10 : decode cX9_areLabels 10 = .ok (.iload_n 2, 1) := by decide +kernel
theorem dX9_areLabels_11 : decode cX9_areLabels 11 = .ok (.iaload, 1) := by decide +kernel
theorem dX9_areLabels_12 : decode cX9_areLabels 12 = .ok (.if_icmp .ne 53, 3) := by decide +kernel
theorem dX9_areLabels_15 : decode cX9_areLabels 15 = .ok (.aload_n 0, 1) := by decide +kernel
theorem dX9_areLabels_16 : decode cX9_areLabels 16 = .ok (.getfield 28, 3) := by decide +kernel
theorem dX9_areLabels_19 : decode cX9_areLabels 19 = .ok (.iload_n 1, 1) := by decide +kernel
theorem dX9_areLabels_20 : decode cX9_areLabels 20 = .ok (.iaload, 1) := by decide +kernel
theorem dX9_areLabels_21 : decode cX9_areLabels 21 = .ok (.aload_n 0, 1) := by decide +kernel
theorem dX9_areLabels_22 : decode cX9_areLabels 22 = .ok (.getfield 28, 3) := by decide +kernel
theorem dX9_areLabels_25 : decode cX9_areLabels 25 = .ok (.iload_n 2, 1) := by decide +kernel
theorem dX9_areLabels_26 : decode cX9_areLabels 26 = .ok (.iaload, 1) := by decide +kernel
theorem dX9_areLabels_27 : decode cX9_areLabels 27 = .ok (.if_icmp .ne 38, 3) := by decide +kernel
theorem dX9_areLabels_30 : decode cX9_areLabels 30 = .ok (.aload_n 0, 1) := by decide +kernel
theorem dX9_areLabels_31 : decode cX9_areLabels 31 = .ok (.getfield 31, 3) := by decide +kernel
theorem dX9_areLabels_34 : decode cX9_areLabels 34 = .ok (.iload_n 1, 1) := by decide +kernel
theorem dX9_areLabels_35 : decode cX9_areLabels 35 = .ok (.iaload, 1) := by decide +kernel
theorem dX9_areLabels_36 : decode cX9_areLabels 36 = .ok (.aload_n 0, 1) := by decide +kernel
theorem dX9_areLabels_37 : decode cX9_areLabels 37 = .ok (.getfield 31, 3) := by decide +kernel
theorem dX9_areLabels_40 : decode cX9_areLabels 40 = .ok (.iload_n 2, 1) := by decide +kernel
theorem dX9_areLabels_41 : decode cX9_areLabels 41 = .ok (.iaload, 1) := by decide +kernel
theorem dX9_areLabels_42 : decode cX9_areLabels 42 = .ok (.if_icmp .ne 23, 3) := by decide +kernel
theorem dX9_areLabels_45 : decode cX9_areLabels 45 = .ok (.aload_n 0, 1) := by decide +kernel
theorem dX9_areLabels_46 : decode cX9_areLabels 46 = .ok (.getfield 38, 3) := by decide +kernel
theorem dX9_areLabels_49 : decode cX9_areLabels 49 = .ok (.iload_n 1, 1) := by decide +kernel
theorem dX9_areLabels_50 : decode cX9_areLabels 50 = .ok (.laload, 1) := by decide +kernel
theorem dX9_areLabels_51 : decode cX9_areLabels 51 = .ok (.aload_n 0, 1) := by decide +kernel
theorem dX9_areLabels_52 : decode cX9_areLabels 52 = .ok (.getfield 38, 3) := by decide +kernel
theorem dX9_areLabels_55 : decode cX9_areLabels 55 = .ok (.iload_n 2, 1) := by decide +kernel
theorem dX9_areLabels_56 : decode cX9_areLabels 56 = .ok (.laload, 1) := by decide +kernel
theorem dX9_areLabels_57 : decode cX9_areLabels 57 = .ok (.lcmp, 1) := by decide +kernel
theorem dX9_areLabels_58 : decode cX9_areLabels 58 = .ok (.ifCond .ne 7, 3) := by decide +kernel
theorem dX9_areLabels_61 : decode cX9_areLabels 61 = .ok (.iconst 1, 1) := by decide +kernel
theorem dX9_areLabels_62 : decode cX9_areLabels 62 = .ok (.goto 4, 3) := by decide +kernel
theorem dX9_areLabels_65 : decode cX9_areLabels 65 = .ok (.iconst 0, 1) := by decide +kernel
theorem dX9_areLabels_66 : decode cX9_areLabels 66 = .ok (.istore_n 3, 1) := by decide +kernel
theorem dX9_areLabels_67 : decode cX9_areLabels 67 = .ok (.iload_n 3, 1) := by decide +kernel
theorem dX9_areLabels_68 : decode cX9_areLabels 68 = .ok (.ifCond .eq 22, 3) := by decide +kernel
theorem dX9_areLabels_71 : decode cX9_areLabels 71 = .ok (.aload_n 0, 1) := by decide +kernel
theorem dX9_areLabels_72 : decode cX9_areLabels 72 = .ok (.aload_n 0, 1) := by decide +kernel
theorem dX9_areLabels_73 : decode cX9_areLabels 73 = .ok (.getfield 22, 3) := by decide +kernel
theorem dX9_areLabels_76 : decode cX9_areLabels 76 = .ok (.iload_n 1, 1) := by decide +kernel
theorem dX9_areLabels_77 : decode cX9_areLabels 77 = .ok (.iaload, 1) := by decide +kernel
theorem dX9_areLabels_78 : decode cX9_areLabels 78 = .ok (.aload_n 0, 1) := by decide +kernel
theorem dX9_areLabels_79 : decode cX9_areLabels 79 = .ok (.getfield 22, 3) := by decide +kernel
theorem dX9_areLabels_82 : decode cX9_areLabels 82 = .ok (.iload_n 2, 1) := by decide +kernel
theorem dX9_areLabels_83 : decode cX9_areLabels 83 = .ok (.iaload, 1) := by decide +kernel
theorem dX9_areLabels_84 : decode cX9_areLabels 84 = .ok (.invokevirtual 215, 3) := by decide +kernel
theorem dX9_areLabels_87 : decode cX9_areLabels 87 = .ok (.ifCond .ne 5, 3) := by decide +kernel
theorem dX9_areLabels_90 : decode cX9_areLabels 90 = .ok (.iconst 0, 1) := by decide +kernel
theorem dX9_areLabels_91 : decode cX9_areLabels 91 = .ok (.ireturn, 1) := by decide +kernel
theorem dX9_areLabels_92 : decode cX9_areLabels 92 = .ok (.aload_n 0, 1) := by decide +kernel
theorem dX9_areLabels_93 : decode cX9_areLabels 93 = .ok (.getfield 25, 3) := by decide +kernel
theorem dX9_areLabels_96 : decode cX9_areLabels 96 = .ok (.iload_n 1, 1) := by decide +kernel
theorem dX9_areLabels_97 : decode cX9_areLabels 97 = .ok (.iaload, 1) := by decide +kernel
theorem dX9_areLabels_98 : decode cX9_areLabels 98 = .ok (.invokestatic 190, 3) := by decide +kernel
theorem dX9_areLabels_101 : decode cX9_areLabels 101 = .ok (.ifCond .ne 21, 3) := by decide +kernel
theorem dX9_areLabels_104 : decode cX9_areLabels 104 = .ok (.aload_n 0, 1) := by decide +kernel
theorem dX9_areLabels_105 : decode cX9_areLabels 105 = .ok (.getfield 34, 3) := by decide +kernel
theorem dX9_areLabels_108 : decode cX9_areLabels 108 = .ok (.iload_n 1, 1) := by decide +kernel
theorem dX9_areLabels_109 : decode cX9_areLabels 109 = .ok (.laload, 1) := by decide +kernel
theorem dX9_areLabels_110 : decode cX9_areLabels 110 = .ok (.aload_n 0, 1) := by decide +kernel
theorem dX9_areLabels_111 : decode cX9_areLabels 111 = .ok (.getfield 34, 3) := by decide +kernel
theorem dX9_areLabels_114 : decode cX9_areLabels 114 = .ok (.iload_n 2, 1) := by decide +kernel
theorem dX9_areLabels_115 : decode cX9_areLabels 115 = .ok (.laload, 1) := by decide +kernel
theorem dX9_areLabels_116 : decode cX9_areLabels 116 = .ok (.lcmp, 1) := by decide +kernel
theorem dX9_areLabels_117 : decode cX9_areLabels 117 = .ok (.ifCond .eq 5, 3) := by decide +kernel
theorem dX9_areLabels_120 : decode cX9_areLabels 120 = .ok (.iconst 0, 1) := by decide +kernel
theorem dX9_areLabels_121 : decode cX9_areLabels 121 = .ok (.ireturn, 1) := by decide +kernel
theorem dX9_areLabels_122 : decode cX9_areLabels 122 = .ok (.iconst 0, 1) := by decide +kernel
theorem dX9_areLabels_123 : decode cX9_areLabels 123 = .ok (.istore 4, 2) := by decide +kernel
theorem dX9_areLabels_125 : decode cX9_areLabels 125 = .ok (.iload 4, 2) := by decide +kernel
theorem dX9_areLabels_127 : decode cX9_areLabels 127 = .ok (.aload_n 0, 1) := by decide +kernel
theorem dX9_areLabels_128 : decode cX9_areLabels 128 = .ok (.getfield 47, 3) := by decide +kernel
theorem dX9_areLabels_131 : decode cX9_areLabels 131 = .ok (.iload_n 1, 1) := by decide +kernel
theorem dX9_areLabels_132 : decode cX9_areLabels 132 = .ok (.iconst 1, 1) := by decide +kernel
theorem dX9_areLabels_133 : decode cX9_areLabels 133 = .ok (.iadd, 1) := by decide +kernel
theorem dX9_areLabels_134 : decode cX9_areLabels 134 = .ok (.iaload, 1) := by decide +kernel
theorem dX9_areLabels_135 : decode cX9_areLabels 135 = .ok (.aload_n 0, 1) := by decide +kernel
theorem dX9_areLabels_136 : decode cX9_areLabels 136 = .ok (.getfield 47, 3) := by decide +kernel
theorem dX9_areLabels_139 : decode cX9_areLabels 139 = .ok (.iload_n 1, 1) := by decide +kernel
theorem dX9_areLabels_140 : decode cX9_areLabels 140 = .ok (.iaload, 1) := by decide +kernel
theorem dX9_areLabels_141 : decode cX9_areLabels 141 = .ok (.isub, 1) := by decide +kernel
theorem dX9_areLabels_142 : decode cX9_areLabels 142 = .ok (.if_icmp .ge 86, 3) := by decide +kernel
theorem dX9_areLabels_145 : decode cX9_areLabels 145 = .ok (.iload_n 3, 1) := by decide +kernel
theorem dX9_areLabels_146 : decode cX9_areLabels 146 = .ok (.ifCond .eq 82, 3) := by decide +kernel
theorem dX9_areLabels_149 : decode cX9_areLabels 149 = .ok (.aload_n 0, 1) := by decide +kernel
theorem dX9_areLabels_150 : decode cX9_areLabels 150 = .ok (.getfield 56, 3) := by decide +kernel
theorem dX9_areLabels_153 : decode cX9_areLabels 153 = .ok (.aload_n 0, 1) := by decide +kernel
theorem dX9_areLabels_154 : decode cX9_areLabels 154 = .ok (.getfield 47, 3) := by decide +kernel
theorem dX9_areLabels_157 : decode cX9_areLabels 157 = .ok (.iload_n 1, 1) := by decide +kernel
theorem dX9_areLabels_158 : decode cX9_areLabels 158 = .ok (.iaload, 1) := by decide +kernel
theorem dX9_areLabels_159 : decode cX9_areLabels 159 = .ok (.iload 4, 2) := by decide +kernel
theorem dX9_areLabels_161 : decode cX9_areLabels 161 = .ok (.iadd, 1) := by decide +kernel
theorem dX9_areLabels_162 : decode cX9_areLabels 162 = .ok (.laload, 1) := by decide +kernel
theorem dX9_areLabels_163 : decode cX9_areLabels 163 = .ok (.aload_n 0, 1) := by decide +kernel
theorem dX9_areLabels_164 : decode cX9_areLabels 164 = .ok (.getfield 56, 3) := by decide +kernel
theorem dX9_areLabels_167 : decode cX9_areLabels 167 = .ok (.aload_n 0, 1) := by decide +kernel
theorem dX9_areLabels_168 : decode cX9_areLabels 168 = .ok (.getfield 47, 3) := by decide +kernel
theorem dX9_areLabels_171 : decode cX9_areLabels 171 = .ok (.iload_n 2, 1) := by decide +kernel
theorem dX9_areLabels_172 : decode cX9_areLabels 172 = .ok (.iaload, 1) := by decide +kernel
theorem dX9_areLabels_173 : decode cX9_areLabels 173 = .ok (.iload 4, 2) := by decide +kernel
theorem dX9_areLabels_175 : decode cX9_areLabels 175 = .ok (.iadd, 1) := by decide +kernel
theorem dX9_areLabels_176 : decode cX9_areLabels 176 = .ok (.laload, 1) := by decide +kernel
theorem dX9_areLabels_177 : decode cX9_areLabels 177 = .ok (.lcmp, 1) := by decide +kernel
theorem dX9_areLabels_178 : decode cX9_areLabels 178 = .ok (.ifCond .ne 42, 3) := by decide +kernel
theorem dX9_areLabels_181 : decode cX9_areLabels 181 = .ok (.aload_n 0, 1) := by decide +kernel
theorem dX9_areLabels_182 : decode cX9_areLabels 182 = .ok (.aload_n 0, 1) := by decide +kernel
theorem dX9_areLabels_183 : decode cX9_areLabels 183 = .ok (.getfield 50, 3) := by decide +kernel
theorem dX9_areLabels_186 : decode cX9_areLabels 186 = .ok (.aload_n 0, 1) := by decide +kernel
theorem dX9_areLabels_187 : decode cX9_areLabels 187 = .ok (.getfield 47, 3) := by decide +kernel
theorem dX9_areLabels_190 : decode cX9_areLabels 190 = .ok (.iload_n 1, 1) := by decide +kernel
theorem dX9_areLabels_191 : decode cX9_areLabels 191 = .ok (.iaload, 1) := by decide +kernel
theorem dX9_areLabels_192 : decode cX9_areLabels 192 = .ok (.iload 4, 2) := by decide +kernel
theorem dX9_areLabels_194 : decode cX9_areLabels 194 = .ok (.iadd, 1) := by decide +kernel
theorem dX9_areLabels_195 : decode cX9_areLabels 195 = .ok (.iaload, 1) := by decide +kernel
theorem dX9_areLabels_196 : decode cX9_areLabels 196 = .ok (.aload_n 0, 1) := by decide +kernel
theorem dX9_areLabels_197 : decode cX9_areLabels 197 = .ok (.getfield 50, 3) := by decide +kernel
theorem dX9_areLabels_200 : decode cX9_areLabels 200 = .ok (.aload_n 0, 1) := by decide +kernel
theorem dX9_areLabels_201 : decode cX9_areLabels 201 = .ok (.getfield 47, 3) := by decide +kernel
theorem dX9_areLabels_204 : decode cX9_areLabels 204 = .ok (.iload_n 2, 1) := by decide +kernel
theorem dX9_areLabels_205 : decode cX9_areLabels 205 = .ok (.iaload, 1) := by decide +kernel
theorem dX9_areLabels_206 : decode cX9_areLabels 206 = .ok (.iload 4, 2) := by decide +kernel
theorem dX9_areLabels_208 : decode cX9_areLabels 208 = .ok (.iadd, 1) := by decide +kernel
theorem dX9_areLabels_209 : decode cX9_areLabels 209 = .ok (.iaload, 1) := by decide +kernel
theorem dX9_areLabels_210 : decode cX9_areLabels 210 = .ok (.invokevirtual 215, 3) := by decide +kernel
theorem dX9_areLabels_213 : decode cX9_areLabels 213 = .ok (.ifCond .eq 7, 3) := by decide +kernel
theorem dX9_areLabels_216 : decode cX9_areLabels 216 = .ok (.iconst 1, 1) := by decide +kernel
theorem dX9_areLabels_217 : decode cX9_areLabels 217 = .ok (.goto 4, 3) := by decide +kernel
theorem dX9_areLabels_220 : decode cX9_areLabels 220 = .ok (.iconst 0, 1) := by decide +kernel
theorem dX9_areLabels_221 : decode cX9_areLabels 221 = .ok (.istore_n 3, 1) := by decide +kernel
theorem dX9_areLabels_222 : decode cX9_areLabels 222 = .ok (.iinc 4 1, 3) := by decide +kernel
theorem dX9_areLabels_225 : decode cX9_areLabels 225 = .ok (.goto (-100), 3) := by decide +kernel
theorem dX9_areLabels_228 : decode cX9_areLabels 228 = .ok (.iload_n 3, 1) := by decide +kernel
theorem dX9_areLabels_229 : decode cX9_areLabels 229 = .ok (.ireturn, 1) := by decide +kernel
theorem dX9_parts_0 : decode cX9_parts 0 = .ok (.iconst 0, 1) := by decide +kernel
theorem dX9_parts_1 : decode cX9_parts 1 = .ok (.istore_n 1, 1) := by decide +kernel
theorem dX9_parts_2 : decode cX9_parts 2 = .ok (.iload_n 1, 1) := by decide +kernel
theorem dX9_parts_3 : decode cX9_parts 3 = .ok (.aload_n 0, 1) := by decide +kernel
theorem dX9_parts_4 : decode cX9_parts 4 = .ok (.getfield 203, 3) := by decide +kernel
theorem dX9_parts_7 : decode cX9_parts 7 = .ok (.if_icmp .gt 78, 3) := by decide +kernel
theorem dX9_parts_10 : decode cX9_parts 10 = .ok (.iconst 0, 1) := by decide +kernel
theorem dX9_parts_11 : decode cX9_parts 11 = .ok (.istore_n 2, 1) := by decide +kernel
theorem dX9_parts_12 : decode cX9_parts 12 = .ok (.iload_n 2, 1) := by decide +kernel
theorem dX9_parts_13 : decode cX9_parts 13 = .ok (.aload_n 0, 1) := by decide +kernel
theorem dX9_parts_14 : decode cX9_parts 14 = .ok (.getfield 203, 3) := by decide +kernel
theorem dX9_parts_17 : decode cX9_parts 17 = .ok (.if_icmp .gt 62, 3) := by decide +kernel
theorem dX9_parts_20 : decode cX9_parts 20 = .ok (.iload_n 1, 1) := by decide +kernel
theorem dX9_parts_21 : decode cX9_parts 21 = .ok (.ifCond .eq 7, 3) := by decide +kernel
theorem dX9_parts_24 : decode cX9_parts 24 = .ok (.iload_n 2, 1) := by decide +kernel
theorem dX9_parts_25 : decode cX9_parts 25 = .ok (.ifCond .ne 7, 3) := by decide +kernel
theorem dX9_parts_28 : decode cX9_parts 28 = .ok (.iconst 1, 1) := by decide +kernel
theorem dX9_parts_29 : decode cX9_parts 29 = .ok (.goto 4, 3) := by decide +kernel
theorem dX9_parts_32 : decode cX9_parts 32 = .ok (.iconst 0, 1) := by decide +kernel
theorem dX9_parts_33 : decode cX9_parts 33 = .ok (.istore_n 3, 1) := by decide +kernel
theorem dX9_parts_34 : decode cX9_parts 34 = .ok (.aload_n 0, 1) := by decide +kernel
theorem dX9_parts_35 : decode cX9_parts 35 = .ok (.getfield 96, 3) := by decide +kernel
theorem dX9_parts_38 : decode cX9_parts 38 = .ok (.sipush 202, 3) := by decide +kernel
theorem dX9_parts_41 : decode cX9_parts 41 = .ok (.iload_n 1, 1) := by decide +kernel
theorem dX9_parts_42 : decode cX9_parts 42 = .ok (.imul, 1) := by decide +kernel
theorem dX9_parts_43 : decode cX9_parts 43 = .ok (.iload_n 2, 1) := by decide +kernel
theorem dX9_parts_44 : decode cX9_parts 44 = .ok (.iadd, 1) := by decide +kernel
theorem dX9_parts_45 : decode cX9_parts 45 = .ok (.iload_n 1, 1) := by decide +kernel
theorem dX9_parts_46 : decode cX9_parts 46 = .ok (.iload_n 2, 1) := by decide +kernel
theorem dX9_parts_47 : decode cX9_parts 47 = .ok (.if_icmp .ne 7, 3) := by decide +kernel
theorem dX9_parts_50 : decode cX9_parts 50 = .ok (.iconst 0, 1) := by decide +kernel
theorem dX9_parts_51 : decode cX9_parts 51 = .ok (.goto 21, 3) := by decide +kernel
theorem dX9_parts_54 : decode cX9_parts 54 = .ok (.iload_n 3, 1) := by decide +kernel
theorem dX9_parts_55 : decode cX9_parts 55 = .ok (.ifCond .ne 12, 3) := by decide +kernel
theorem dX9_parts_58 : decode cX9_parts 58 = .ok (.aload_n 0, 1) := by decide +kernel
theorem dX9_parts_59 : decode cX9_parts 59 = .ok (.iload_n 1, 1) := by decide +kernel
theorem dX9_parts_60 : decode cX9_parts 60 = .ok (.iload_n 2, 1) := by decide +kernel
theorem dX9_parts_61 : decode cX9_parts 61 = .ok (.invokevirtual 219, 3) := by decide +kernel
theorem dX9_parts_64 : decode cX9_parts 64 = .ok (.ifCond .ne 7, 3) := by decide +kernel
theorem dX9_parts_67 : decode cX9_parts 67 = .ok (.iconst 1, 1) := by decide +kernel
theorem dX9_parts_68 : decode cX9_parts 68 = .ok (.goto 4, 3) := by decide +kernel
theorem dX9_parts_71 : decode cX9_parts 71 = .ok (.iconst 0, 1) := by decide +kernel
theorem dX9_parts_72 : decode cX9_parts 72 = .ok (.iastore, 1) := by decide +kernel
theorem dX9_parts_73 : decode cX9_parts 73 = .ok (.iinc 2 1, 3) := by decide +kernel
theorem dX9_parts_76 : decode cX9_parts 76 = .ok (.goto (-64), 3) := by decide +kernel
theorem dX9_parts_79 : decode cX9_parts 79 = .ok (.iinc 1 1, 3) := by decide +kernel
theorem dX9_parts_82 : decode cX9_parts 82 = .ok (.goto (-80), 3) := by decide +kernel
theorem dX9_parts_85 : decode cX9_parts 85 = .ok (.iconst 1, 1) := by decide +kernel
theorem dX9_parts_86 : decode cX9_parts 86 = .ok (.istore_n 1, 1) := by decide +kernel
theorem dX9_parts_87 : decode cX9_parts 87 = .ok (.iconst 2, 1) := by decide +kernel
theorem dX9_parts_88 : decode cX9_parts 88 = .ok (.istore_n 2, 1) := by decide +kernel
theorem dX9_parts_89 : decode cX9_parts 89 = .ok (.iload_n 1, 1) := by decide +kernel
theorem dX9_parts_90 : decode cX9_parts 90 = .ok (.ifCond .eq 63, 3) := by decide +kernel
theorem dX9_parts_93 : decode cX9_parts 93 = .ok (.iconst 0, 1) := by decide +kernel
theorem dX9_parts_94 : decode cX9_parts 94 = .ok (.istore_n 1, 1) := by decide +kernel
theorem dX9_parts_95 : decode cX9_parts 95 = .ok (.iconst 2, 1) := by decide +kernel
theorem dX9_parts_96 : decode cX9_parts 96 = .ok (.istore_n 3, 1) := by decide +kernel
theorem dX9_parts_97 : decode cX9_parts 97 = .ok (.iload_n 3, 1) := by decide +kernel
theorem dX9_parts_98 : decode cX9_parts 98 = .ok (.aload_n 0, 1) := by decide +kernel
theorem dX9_parts_99 : decode cX9_parts 99 = .ok (.getfield 203, 3) := by decide +kernel
theorem dX9_parts_102 : decode cX9_parts 102 = .ok (.if_icmp .gt 45, 3) := by decide +kernel
theorem dX9_parts_105 : decode cX9_parts 105 = .ok (.iconst 1, 1) := by decide +kernel
theorem dX9_parts_106 : decode cX9_parts 106 = .ok (.istore 4, 2) := by decide +kernel
theorem dX9_parts_108 : decode cX9_parts 108 = .ok (.iload 4, 2) := by decide +kernel
theorem dX9_parts_110 : decode cX9_parts 110 = .ok (.iload_n 3, 1) := by decide +kernel
theorem dX9_parts_111 : decode cX9_parts 111 = .ok (.if_icmp .ge 30, 3) := by decide +kernel
theorem dX9_parts_114 : decode cX9_parts 114 = .ok (.aload_n 0, 1) := by decide +kernel
theorem dX9_parts_115 : decode cX9_parts 115 = .ok (.iload_n 3, 1) := by decide +kernel
theorem dX9_parts_116 : decode cX9_parts 116 = .ok (.iload 4, 2) := by decide +kernel
theorem dX9_parts_118 : decode cX9_parts 118 = .ok (.iload_n 2, 1) := by decide +kernel
theorem dX9_parts_119 : decode cX9_parts 119 = .ok (.invokevirtual 222, 3) := by decide +kernel
theorem dX9_parts_122 : decode cX9_parts 122 = .ok (.ifCond .ne 7, 3) := by decide +kernel
theorem dX9_parts_125 : decode cX9_parts 125 = .ok (.iload_n 1, 1) := by decide +kernel
theorem dX9_parts_126 : decode cX9_parts 126 = .ok (.ifCond .eq 7, 3) := by decide +kernel
theorem dX9_parts_129 : decode cX9_parts 129 = .ok (.iconst 1, 1) := by decide +kernel
theorem dX9_parts_130 : decode cX9_parts 130 = .ok (.goto 4, 3) := by decide +kernel
theorem dX9_parts_133 : decode cX9_parts 133 = .ok (.iconst 0, 1) := by decide +kernel
theorem dX9_parts_134 : decode cX9_parts 134 = .ok (.istore_n 1, 1) := by decide +kernel
theorem dX9_parts_135 : decode cX9_parts 135 = .ok (.iinc 4 1, 3) := by decide +kernel
theorem dX9_parts_138 : decode cX9_parts 138 = .ok (.goto (-30), 3) := by decide +kernel
theorem dX9_parts_141 : decode cX9_parts 141 = .ok (.iinc 3 1, 3) := by decide +kernel
theorem dX9_parts_144 : decode cX9_parts 144 = .ok (.goto (-47), 3) := by decide +kernel
theorem dX9_parts_147 : decode cX9_parts 147 = .ok (.iinc 2 1, 3) := by decide +kernel
theorem dX9_parts_150 : decode cX9_parts 150 = .ok (.goto (-61), 3) := by decide +kernel
theorem dX9_parts_153 : decode cX9_parts 153 = .ok (.return_, 1) := by decide +kernel
theorem dX9_tellsApart_0 : decode cX9_tellsApart 0 = .ok (.aload_n 0, 1) := by decide +kernel
theorem dX9_tellsApart_1 : decode cX9_tellsApart 1 = .ok (.iload_n 1, 1) := by decide +kernel
theorem dX9_tellsApart_2 : decode cX9_tellsApart 2 = .ok (.iload_n 2, 1) := by decide +kernel
theorem dX9_tellsApart_3 : decode cX9_tellsApart 3 = .ok (.invokevirtual 212, 3) := by decide +kernel
theorem dX9_tellsApart_6 : decode cX9_tellsApart 6 = .ok (.ifCond .le 5, 3) := by decide +kernel
theorem dX9_tellsApart_9 : decode cX9_tellsApart 9 = .ok (.iconst 0, 1) := by decide +kernel
theorem dX9_tellsApart_10 : decode cX9_tellsApart 10 = .ok (.ireturn, 1) := by decide +kernel
theorem dX9_tellsApart_11 : decode cX9_tellsApart 11 = .ok (.iconst 0, 1) := by decide +kernel
theorem dX9_tellsApart_12 : decode cX9_tellsApart 12 = .ok (.istore 4, 2) := by decide +kernel
theorem dX9_tellsApart_14 : decode cX9_tellsApart 14 = .ok (.iconst 0, 1) := by decide +kernel
theorem dX9_tellsApart_15 : decode cX9_tellsApart 15 = .ok (.istore 5, 2) := by decide +kernel
theorem dX9_tellsApart_17 : decode cX9_tellsApart 17 = .ok (.iload 5, 2) := by decide +kernel
theorem dX9_tellsApart_19 : decode cX9_tellsApart 19 = .ok (.aload_n 0, 1) := by decide +kernel
theorem dX9_tellsApart_20 : decode cX9_tellsApart 20 = .ok (.iload_n 1, 1) := by decide +kernel
theorem dX9_tellsApart_21 : decode cX9_tellsApart 21 = .ok (.invokevirtual 226, 3) := by decide +kernel
theorem dX9_tellsApart_24 : decode cX9_tellsApart 24 = .ok (.if_icmp .ge 52, 3) := by decide +kernel
theorem dX9_tellsApart_27 : decode cX9_tellsApart 27 = .ok (.iload 4, 2) := by decide +kernel
theorem dX9_tellsApart_29 : decode cX9_tellsApart 29 = .ok (.ifCond .ne 47, 3) := by decide +kernel
theorem dX9_tellsApart_32 : decode cX9_tellsApart 32 = .ok (.aload_n 0, 1) := by decide +kernel
theorem dX9_tellsApart_33 : decode cX9_tellsApart 33 = .ok (.aload_n 0, 1) := by decide +kernel
theorem dX9_tellsApart_34 : decode cX9_tellsApart 34 = .ok (.iload_n 1, 1) := by decide +kernel
theorem dX9_tellsApart_35 : decode cX9_tellsApart 35 = .ok (.iload 5, 2) := by decide +kernel
theorem dX9_tellsApart_37 : decode cX9_tellsApart 37 = .ok (.invokevirtual 230, 3) := by decide +kernel
theorem dX9_tellsApart_40 : decode cX9_tellsApart 40 = .ok (.aload_n 0, 1) := by decide +kernel
theorem dX9_tellsApart_41 : decode cX9_tellsApart 41 = .ok (.iload_n 2, 1) := by decide +kernel
theorem dX9_tellsApart_42 : decode cX9_tellsApart 42 = .ok (.iload 5, 2) := by decide +kernel
theorem dX9_tellsApart_44 : decode cX9_tellsApart 44 = .ok (.invokevirtual 230, 3) := by decide +kernel
theorem dX9_tellsApart_47 : decode cX9_tellsApart 47 = .ok (.invokevirtual 212, 3) := by decide +kernel
theorem dX9_tellsApart_50 : decode cX9_tellsApart 50 = .ok (.istore 6, 2) := by decide +kernel
theorem dX9_tellsApart_52 : decode cX9_tellsApart 52 = .ok (.iload 6, 2) := by decide +kernel
theorem dX9_tellsApart_54 : decode cX9_tellsApart 54 = .ok (.ifCond .le 13, 3) := by decide +kernel
theorem dX9_tellsApart_57 : decode cX9_tellsApart 57 = .ok (.iload 6, 2) := by decide +kernel
theorem dX9_tellsApart_59 : decode cX9_tellsApart 59 = .ok (.iload_n 3, 1) := by decide +kernel
theorem dX9_tellsApart_60 : decode cX9_tellsApart 60 = .ok (.if_icmp .ge 7, 3) := by decide +kernel
theorem dX9_tellsApart_63 : decode cX9_tellsApart 63 = .ok (.iconst 1, 1) := by decide +kernel
theorem dX9_tellsApart_64 : decode cX9_tellsApart 64 = .ok (.goto 4, 3) := by decide +kernel
theorem dX9_tellsApart_67 : decode cX9_tellsApart 67 = .ok (.iconst 0, 1) := by decide +kernel
theorem dX9_tellsApart_68 : decode cX9_tellsApart 68 = .ok (.istore 4, 2) := by decide +kernel
theorem dX9_tellsApart_70 : decode cX9_tellsApart 70 = .ok (.iinc 5 1, 3) := by decide +kernel
theorem dX9_tellsApart_73 : decode cX9_tellsApart 73 = .ok (.goto (-56), 3) := by decide +kernel
theorem dX9_tellsApart_76 : decode cX9_tellsApart 76 = .ok (.aload_n 0, 1) := by decide +kernel
theorem dX9_tellsApart_77 : decode cX9_tellsApart 77 = .ok (.getfield 96, 3) := by decide +kernel
theorem dX9_tellsApart_80 : decode cX9_tellsApart 80 = .ok (.sipush 202, 3) := by decide +kernel
theorem dX9_tellsApart_83 : decode cX9_tellsApart 83 = .ok (.iload_n 1, 1) := by decide +kernel
theorem dX9_tellsApart_84 : decode cX9_tellsApart 84 = .ok (.imul, 1) := by decide +kernel
theorem dX9_tellsApart_85 : decode cX9_tellsApart 85 = .ok (.iload_n 2, 1) := by decide +kernel
theorem dX9_tellsApart_86 : decode cX9_tellsApart 86 = .ok (.iadd, 1) := by decide +kernel
theorem dX9_tellsApart_87 : decode cX9_tellsApart 87 = .ok (.iload 4, 2) := by decide +kernel
theorem dX9_tellsApart_89 : decode cX9_tellsApart 89 = .ok (.ifCond .eq 7, 3) := by decide +kernel
theorem dX9_tellsApart_92 : decode cX9_tellsApart 92 = .ok (.iload_n 3, 1) := by decide +kernel
theorem dX9_tellsApart_93 : decode cX9_tellsApart 93 = .ok (.goto 4, 3) := by decide +kernel
theorem dX9_tellsApart_96 : decode cX9_tellsApart 96 = .ok (.iconst 0, 1) := by decide +kernel
theorem dX9_tellsApart_97 : decode cX9_tellsApart 97 = .ok (.iastore, 1) := by decide +kernel
theorem dX9_tellsApart_98 : decode cX9_tellsApart 98 = .ok (.aload_n 0, 1) := by decide +kernel
theorem dX9_tellsApart_99 : decode cX9_tellsApart 99 = .ok (.getfield 96, 3) := by decide +kernel
theorem dX9_tellsApart_102 : decode cX9_tellsApart 102 = .ok (.sipush 202, 3) := by decide +kernel
theorem dX9_tellsApart_105 : decode cX9_tellsApart 105 = .ok (.iload_n 2, 1) := by decide +kernel
theorem dX9_tellsApart_106 : decode cX9_tellsApart 106 = .ok (.imul, 1) := by decide +kernel
theorem dX9_tellsApart_107 : decode cX9_tellsApart 107 = .ok (.iload_n 1, 1) := by decide +kernel
theorem dX9_tellsApart_108 : decode cX9_tellsApart 108 = .ok (.iadd, 1) := by decide +kernel
theorem dX9_tellsApart_109 : decode cX9_tellsApart 109 = .ok (.iload 4, 2) := by decide +kernel
theorem dX9_tellsApart_111 : decode cX9_tellsApart 111 = .ok (.ifCond .eq 7, 3) := by decide +kernel
theorem dX9_tellsApart_114 : decode cX9_tellsApart 114 = .ok (.iload_n 3, 1) := by decide +kernel
theorem dX9_tellsApart_115 : decode cX9_tellsApart 115 = .ok (.goto 4, 3) := by decide +kernel
theorem dX9_tellsApart_118 : decode cX9_tellsApart 118 = .ok (.iconst 0, 1) := by decide +kernel
theorem dX9_tellsApart_119 : decode cX9_tellsApart 119 = .ok (.iastore, 1) := by decide +kernel
theorem dX9_tellsApart_120 : decode cX9_tellsApart 120 = .ok (.iload 4, 2) := by decide +kernel
theorem dX9_tellsApart_122 : decode cX9_tellsApart 122 = .ok (.ireturn, 1) := by decide +kernel
theorem dX9_feed_0 : decode cX9_feed 0 = .ok (.aload_n 0, 1) := by decide +kernel
theorem dX9_feed_1 : decode cX9_feed 1 = .ok (.iload_n 1, 1) := by decide +kernel
theorem dX9_feed_2 : decode cX9_feed 2 = .ok (.iconst 1, 1) := by decide +kernel
theorem dX9_feed_3 : decode cX9_feed 3 = .ok (.if_icmp .lt 9, 3) := by decide +kernel
theorem dX9_feed_6 : decode cX9_feed 6 = .ok (.iload_n 1, 1) := by decide +kernel
theorem dX9_feed_7 : decode cX9_feed 7 = .ok (.bipush 8, 2) := by decide +kernel
theorem dX9_feed_9 : decode cX9_feed 9 = .ok (.if_icmp .le 7, 3) := by decide +kernel
theorem dX9_feed_12 : decode cX9_feed 12 = .ok (.iconst 1, 1) := by decide +kernel
theorem dX9_feed_13 : decode cX9_feed 13 = .ok (.goto 4, 3) := by decide +kernel
theorem dX9_feed_16 : decode cX9_feed 16 = .ok (.iconst 0, 1) := by decide +kernel
theorem dX9_feed_17 : decode cX9_feed 17 = .ok (.iconst 1, 1) := by decide +kernel
theorem dX9_feed_18 : decode cX9_feed 18 = .ok (.invokevirtual 233, 3) := by decide +kernel
theorem dX9_feed_21 : decode cX9_feed 21 = .ok (.ifCond .ne 28, 3) := by decide +kernel
theorem dX9_feed_24 : decode cX9_feed 24 = .ok (.aload_n 0, 1) := by decide +kernel
theorem dX9_feed_25 : decode cX9_feed 25 = .ok (.aload_n 0, 1) := by decide +kernel
theorem dX9_feed_26 : decode cX9_feed 26 = .ok (.getfield 131, 3) := by decide +kernel
theorem dX9_feed_29 : decode cX9_feed 29 = .ok (.iload_n 1, 1) := by decide +kernel
theorem dX9_feed_30 : decode cX9_feed 30 = .ok (.iadd, 1) := by decide +kernel
theorem dX9_feed_31 : decode cX9_feed 31 = .ok (.sipush 8192, 3) := by decide +kernel
theorem dX9_feed_34 : decode cX9_feed 34 = .ok (.if_icmp .le 7, 3) := by decide +kernel
theorem dX9_feed_37 : decode cX9_feed 37 = .ok (.iconst 1, 1) := by decide +kernel
theorem dX9_feed_38 : decode cX9_feed 38 = .ok (.goto 4, 3) := by decide +kernel
theorem dX9_feed_41 : decode cX9_feed 41 = .ok (.iconst 0, 1) := by decide +kernel
theorem dX9_feed_42 : decode cX9_feed 42 = .ok (.iconst 2, 1) := by decide +kernel
theorem dX9_feed_43 : decode cX9_feed 43 = .ok (.invokevirtual 233, 3) := by decide +kernel
theorem dX9_feed_46 : decode cX9_feed 46 = .ok (.ifCond .eq 5, 3) := by decide +kernel
theorem dX9_feed_49 : decode cX9_feed 49 = .ok (.iconst 0, 1) := by decide +kernel
theorem dX9_feed_50 : decode cX9_feed 50 = .ok (.ireturn, 1) := by decide +kernel
theorem dX9_feed_51 : decode cX9_feed 51 = .ok (.iconst 0, 1) := by decide +kernel
theorem dX9_feed_52 : decode cX9_feed 52 = .ok (.istore 4, 2) := by decide +kernel
theorem dX9_feed_54 : decode cX9_feed 54 = .ok (.iload 4, 2) := by decide +kernel
theorem dX9_feed_56 : decode cX9_feed 56 = .ok (.iload_n 1, 1) := by decide +kernel
theorem dX9_feed_57 : decode cX9_feed 57 = .ok (.if_icmp .ge 33, 3) := by decide +kernel
theorem dX9_feed_60 : decode cX9_feed 60 = .ok (.aload_n 0, 1) := by decide +kernel
theorem dX9_feed_61 : decode cX9_feed 61 = .ok (.getfield 7, 3) := by decide +kernel
theorem dX9_feed_64 : decode cX9_feed 64 = .ok (.aload_n 0, 1) := by decide +kernel
theorem dX9_feed_65 : decode cX9_feed 65 = .ok (.getfield 131, 3) := by decide +kernel
theorem dX9_feed_68 : decode cX9_feed 68 = .ok (.iload 4, 2) := by decide +kernel
theorem dX9_feed_70 : decode cX9_feed 70 = .ok (.iadd, 1) := by decide +kernel
theorem dX9_feed_71 : decode cX9_feed 71 = .ok (.lload_n 2, 1) := by decide +kernel
theorem dX9_feed_72 : decode cX9_feed 72 = .ok (.bipush 8, 2) := by decide +kernel
theorem dX9_feed_74 : decode cX9_feed 74 = .ok (.iload 4, 2) := by decide +kernel
theorem dX9_feed_76 : decode cX9_feed 76 = .ok (.imul, 1) := by decide +kernel
theorem dX9_feed_77 : decode cX9_feed 77 = .ok (.lshr, 1) := by decide +kernel
theorem dX9_feed_78 : decode cX9_feed 78 = .ok (.ldc2_w 237, 3) := by decide +kernel
theorem dX9_feed_81 : decode cX9_feed 81 = .ok (.land, 1) := by decide +kernel
theorem dX9_feed_82 : decode cX9_feed 82 = .ok (.l2i, 1) := by decide +kernel
theorem dX9_feed_83 : decode cX9_feed 83 = .ok (.iastore, 1) := by decide +kernel
theorem dX9_feed_84 : decode cX9_feed 84 = .ok (.iinc 4 1, 3) := by decide +kernel
theorem dX9_feed_87 : decode cX9_feed 87 = .ok (.goto (-33), 3) := by decide +kernel
theorem dX9_feed_90 : decode cX9_feed 90 = .ok (.aload_n 0, 1) := by decide +kernel
theorem dX9_feed_91 : decode cX9_feed 91 = .ok (.dup, 1) := by decide +kernel
theorem dX9_feed_92 : decode cX9_feed 92 = .ok (.getfield 131, 3) := by decide +kernel
theorem dX9_feed_95 : decode cX9_feed 95 = .ok (.iload_n 1, 1) := by decide +kernel
theorem dX9_feed_96 : decode cX9_feed 96 = .ok (.iadd, 1) := by decide +kernel
theorem dX9_feed_97 : decode cX9_feed 97 = .ok (.putfield 131, 3) := by decide +kernel
theorem dX9_feed_100 : decode cX9_feed 100 = .ok (.aload_n 0, 1) := by decide +kernel
theorem dX9_feed_101 : decode cX9_feed 101 = .ok (.getfield 131, 3) := by decide +kernel
theorem dX9_feed_104 : decode cX9_feed 104 = .ok (.ireturn, 1) := by decide +kernel
theorem dX9_size_0 : decode cX9_size 0 = .ok (.iconst 0, 1) := by decide +kernel
theorem dX9_size_1 : decode cX9_size 1 = .ok (.istore_n 2, 1) := by decide +kernel
theorem dX9_size_2 : decode cX9_size 2 = .ok (.aload_n 0, 1) := by decide +kernel
theorem dX9_size_3 : decode cX9_size 3 = .ok (.getfield 19, 3) := by decide +kernel
theorem dX9_size_6 : decode cX9_size 6 = .ok (.iload_n 1, 1) := by decide +kernel
theorem dX9_size_7 : decode cX9_size 7 = .ok (.iload_n 2, 1) := by decide +kernel
theorem dX9_size_8 : decode cX9_size 8 = .ok (.iadd, 1) := by decide +kernel
theorem dX9_size_9 : decode cX9_size 9 = .ok (.iaload, 1) := by decide +kernel
theorem dX9_size_10 : decode cX9_size 10 = .ok (.ifCond .eq 9, 3) := by decide +kernel
theorem dX9_size_13 : decode cX9_size 13 = .ok (.iinc 2 1, 3) := by decide +kernel
theorem dX9_size_16 : decode cX9_size 16 = .ok (.goto (-14), 3) := by decide +kernel
theorem dX9_size_19 : decode cX9_size 19 = .ok (.iload_n 2, 1) := by decide +kernel
theorem dX9_size_20 : decode cX9_size 20 = .ok (.ireturn, 1) := by decide +kernel
theorem dX9_type_0 : decode cX9_type 0 = .ok (.aload_n 0, 1) := by decide +kernel
theorem dX9_type_1 : decode cX9_type 1 = .ok (.iload_n 1, 1) := by decide +kernel
theorem dX9_type_2 : decode cX9_type 2 = .ok (.i2l, 1) := by decide +kernel
theorem dX9_type_3 : decode cX9_type 3 = .ok (.lconst 1, 1) := by decide +kernel
theorem dX9_type_4 : decode cX9_type 4 = .ok (.aload_n 0, 1) := by decide +kernel
theorem dX9_type_5 : decode cX9_type 5 = .ok (.getfield 203, 3) := by decide +kernel
theorem dX9_type_8 : decode cX9_type 8 = .ok (.i2l, 1) := by decide +kernel
theorem dX9_type_9 : decode cX9_type 9 = .ok (.invokestatic 174, 3) := by decide +kernel
theorem dX9_type_12 : decode cX9_type 12 = .ok (.ifCond .eq 15, 3) := by decide +kernel
theorem dX9_type_15 : decode cX9_type 15 = .ok (.iload_n 2, 1) := by decide +kernel
theorem dX9_type_16 : decode cX9_type 16 = .ok (.i2l, 1) := by decide +kernel
theorem dX9_type_17 : decode cX9_type 17 = .ok (.lconst 0, 1) := by decide +kernel
theorem dX9_type_18 : decode cX9_type 18 = .ok (.ldc2_w 172, 3) := by decide +kernel
theorem dX9_type_21 : decode cX9_type 21 = .ok (.invokestatic 174, 3) := by decide +kernel
theorem dX9_type_24 : decode cX9_type 24 = .ok (.ifCond .ne 7, 3) := by decide +kernel
theorem dX9_type_27 : decode cX9_type 27 = .ok (.iconst 1, 1) := by decide +kernel
theorem dX9_type_28 : decode cX9_type 28 = .ok (.goto 4, 3) := by decide +kernel
theorem dX9_type_31 : decode cX9_type 31 = .ok (.iconst 0, 1) := by decide +kernel
theorem dX9_type_32 : decode cX9_type 32 = .ok (.iconst 1, 1) := by decide +kernel
theorem dX9_type_33 : decode cX9_type 33 = .ok (.invokevirtual 233, 3) := by decide +kernel
theorem dX9_type_36 : decode cX9_type 36 = .ok (.ifCond .eq 5, 3) := by decide +kernel
theorem dX9_type_39 : decode cX9_type 39 = .ok (.lconst 0, 1) := by decide +kernel
theorem dX9_type_40 : decode cX9_type 40 = .ok (.lreturn, 1) := by decide +kernel
theorem dX9_type_41 : decode cX9_type 41 = .ok (.iload_n 2, 1) := by decide +kernel
theorem dX9_type_42 : decode cX9_type 42 = .ok (.tableswitch 100 0 6 #[42, 50, 58, 66, 73, 80, 92], 42) := by decide +kernel
theorem dX9_type_84 : decode cX9_type 84 = .ok (.aload_n 0, 1) := by decide +kernel
theorem dX9_type_85 : decode cX9_type 85 = .ok (.getfield 25, 3) := by decide +kernel
theorem dX9_type_88 : decode cX9_type 88 = .ok (.iload_n 1, 1) := by decide +kernel
theorem dX9_type_89 : decode cX9_type 89 = .ok (.iaload, 1) := by decide +kernel
theorem dX9_type_90 : decode cX9_type 90 = .ok (.i2l, 1) := by decide +kernel
theorem dX9_type_91 : decode cX9_type 91 = .ok (.lreturn, 1) := by decide +kernel
theorem dX9_type_92 : decode cX9_type 92 = .ok (.aload_n 0, 1) := by decide +kernel
theorem dX9_type_93 : decode cX9_type 93 = .ok (.getfield 28, 3) := by decide +kernel
theorem dX9_type_96 : decode cX9_type 96 = .ok (.iload_n 1, 1) := by decide +kernel
theorem dX9_type_97 : decode cX9_type 97 = .ok (.iaload, 1) := by decide +kernel
theorem dX9_type_98 : decode cX9_type 98 = .ok (.i2l, 1) := by decide +kernel
theorem dX9_type_99 : decode cX9_type 99 = .ok (.lreturn, 1) := by decide +kernel
theorem dX9_type_100 : decode cX9_type 100 = .ok (.aload_n 0, 1) := by decide +kernel
theorem dX9_type_101 : decode cX9_type 101 = .ok (.getfield 31, 3) := by decide +kernel
theorem dX9_type_104 : decode cX9_type 104 = .ok (.iload_n 1, 1) := by decide +kernel
theorem dX9_type_105 : decode cX9_type 105 = .ok (.iaload, 1) := by decide +kernel
theorem dX9_type_106 : decode cX9_type 106 = .ok (.i2l, 1) := by decide +kernel
theorem dX9_type_107 : decode cX9_type 107 = .ok (.lreturn, 1) := by decide +kernel
theorem dX9_type_108 : decode cX9_type 108 = .ok (.aload_n 0, 1) := by decide +kernel
theorem dX9_type_109 : decode cX9_type 109 = .ok (.getfield 34, 3) := by decide +kernel
theorem dX9_type_112 : decode cX9_type 112 = .ok (.iload_n 1, 1) := by decide +kernel
theorem dX9_type_113 : decode cX9_type 113 = .ok (.laload, 1) := by decide +kernel
theorem dX9_type_114 : decode cX9_type 114 = .ok (.lreturn, 1) := by decide +kernel
theorem dX9_type_115 : decode cX9_type 115 = .ok (.aload_n 0, 1) := by decide +kernel
theorem dX9_type_116 : decode cX9_type 116 = .ok (.iload_n 1, 1) := by decide +kernel
theorem dX9_type_117 : decode cX9_type 117 = .ok (.invokevirtual 226, 3) := by decide +kernel
theorem dX9_type_120 : decode cX9_type 120 = .ok (.i2l, 1) := by decide +kernel
theorem dX9_type_121 : decode cX9_type 121 = .ok (.lreturn, 1) := by decide +kernel
theorem dX9_type_122 : decode cX9_type 122 = .ok (.aload_n 0, 1) := by decide +kernel
theorem dX9_type_123 : decode cX9_type 123 = .ok (.aload_n 0, 1) := by decide +kernel
theorem dX9_type_124 : decode cX9_type 124 = .ok (.getfield 22, 3) := by decide +kernel
theorem dX9_type_127 : decode cX9_type 127 = .ok (.iload_n 1, 1) := by decide +kernel
theorem dX9_type_128 : decode cX9_type 128 = .ok (.iaload, 1) := by decide +kernel
theorem dX9_type_129 : decode cX9_type 129 = .ok (.invokevirtual 239, 3) := by decide +kernel
theorem dX9_type_132 : decode cX9_type 132 = .ok (.i2l, 1) := by decide +kernel
theorem dX9_type_133 : decode cX9_type 133 = .ok (.lreturn, 1) := by decide +kernel
theorem dX9_type_134 : decode cX9_type 134 = .ok (.aload_n 0, 1) := by decide +kernel
theorem dX9_type_135 : decode cX9_type 135 = .ok (.getfield 99, 3) := by decide +kernel
theorem dX9_type_138 : decode cX9_type 138 = .ok (.iload_n 1, 1) := by decide +kernel
theorem dX9_type_139 : decode cX9_type 139 = .ok (.iaload, 1) := by decide +kernel
theorem dX9_type_140 : decode cX9_type 140 = .ok (.i2l, 1) := by decide +kernel
theorem dX9_type_141 : decode cX9_type 141 = .ok (.lreturn, 1) := by decide +kernel
theorem dX9_type_142 : decode cX9_type 142 = .ok (.aload_n 0, 1) := by decide +kernel
theorem dX9_type_143 : decode cX9_type 143 = .ok (.getfield 102, 3) := by decide +kernel
theorem dX9_type_146 : decode cX9_type 146 = .ok (.iload_n 1, 1) := by decide +kernel
theorem dX9_type_147 : decode cX9_type 147 = .ok (.iaload, 1) := by decide +kernel
theorem dX9_type_148 : decode cX9_type 148 = .ok (.i2l, 1) := by decide +kernel
theorem dX9_type_149 : decode cX9_type 149 = .ok (.lreturn, 1) := by decide +kernel
theorem dX9_reference_0 : decode cX9_reference 0 = .ok (.iload_n 1, 1) := by decide +kernel
theorem dX9_reference_1 : decode cX9_reference 1 = .ok (.i2l, 1) := by decide +kernel
theorem dX9_reference_2 : decode cX9_reference 2 = .ok (.lconst 1, 1) := by decide +kernel
theorem dX9_reference_3 : decode cX9_reference 3 = .ok (.aload_n 0, 1) := by decide +kernel
theorem dX9_reference_4 : decode cX9_reference 4 = .ok (.getfield 203, 3) := by decide +kernel
theorem dX9_reference_7 : decode cX9_reference 7 = .ok (.i2l, 1) := by decide +kernel
theorem dX9_reference_8 : decode cX9_reference 8 = .ok (.invokestatic 174, 3) := by decide +kernel
theorem dX9_reference_11 : decode cX9_reference 11 = .ok (.ifCond .eq 38, 3) := by decide +kernel
theorem dX9_reference_14 : decode cX9_reference 14 = .ok (.iload_n 2, 1) := by decide +kernel
theorem dX9_reference_15 : decode cX9_reference 15 = .ok (.ifCond .lt 34, 3) := by decide +kernel
theorem dX9_reference_18 : decode cX9_reference 18 = .ok (.iload_n 2, 1) := by decide +kernel
theorem dX9_reference_19 : decode cX9_reference 19 = .ok (.aload_n 0, 1) := by decide +kernel
theorem dX9_reference_20 : decode cX9_reference 20 = .ok (.iload_n 1, 1) := by decide +kernel
theorem dX9_reference_21 : decode cX9_reference 21 = .ok (.i2l, 1) := by decide +kernel
theorem dX9_reference_22 : decode cX9_reference 22 = .ok (.lconst 1, 1) := by decide +kernel
theorem dX9_reference_23 : decode cX9_reference 23 = .ok (.aload_n 0, 1) := by decide +kernel
theorem dX9_reference_24 : decode cX9_reference 24 = .ok (.getfield 203, 3) := by decide +kernel
theorem dX9_reference_27 : decode cX9_reference 27 = .ok (.i2l, 1) := by decide +kernel
theorem dX9_reference_28 : decode cX9_reference 28 = .ok (.invokestatic 174, 3) := by decide +kernel
theorem dX9_reference_31 : decode cX9_reference 31 = .ok (.ifCond .eq 7, 3) := by decide +kernel
theorem dX9_reference_34 : decode cX9_reference 34 = .ok (.iload_n 1, 1) := by decide +kernel
theorem dX9_reference_35 : decode cX9_reference 35 = .ok (.goto 4, 3) := by decide +kernel
theorem dX9_reference_38 : decode cX9_reference 38 = .ok (.iconst 1, 1) := by decide +kernel
theorem dX9_reference_39 : decode cX9_reference 39 = .ok (.invokevirtual 226, 3) := by decide +kernel
theorem dX9_reference_42 : decode cX9_reference 42 = .ok (.if_icmp .ge 7, 3) := by decide +kernel
theorem dX9_reference_45 : decode cX9_reference 45 = .ok (.iconst 1, 1) := by decide +kernel
theorem dX9_reference_46 : decode cX9_reference 46 = .ok (.goto 4, 3) := by decide +kernel
theorem dX9_reference_49 : decode cX9_reference 49 = .ok (.iconst 0, 1) := by decide +kernel
theorem dX9_reference_50 : decode cX9_reference 50 = .ok (.istore_n 3, 1) := by decide +kernel
theorem dX9_reference_51 : decode cX9_reference 51 = .ok (.aload_n 0, 1) := by decide +kernel
theorem dX9_reference_52 : decode cX9_reference 52 = .ok (.iload_n 3, 1) := by decide +kernel
theorem dX9_reference_53 : decode cX9_reference 53 = .ok (.ifCond .ne 7, 3) := by decide +kernel
theorem dX9_reference_56 : decode cX9_reference 56 = .ok (.iconst 1, 1) := by decide +kernel
theorem dX9_reference_57 : decode cX9_reference 57 = .ok (.goto 4, 3) := by decide +kernel
theorem dX9_reference_60 : decode cX9_reference 60 = .ok (.iconst 0, 1) := by decide +kernel
theorem dX9_reference_61 : decode cX9_reference 61 = .ok (.iconst 1, 1) := by decide +kernel
theorem dX9_reference_62 : decode cX9_reference 62 = .ok (.invokevirtual 233, 3) := by decide +kernel
theorem dX9_reference_65 : decode cX9_reference 65 = .ok (.ifCond .eq 7, 3) := by decide +kernel
theorem dX9_reference_68 : decode cX9_reference 68 = .ok (.iconst 0, 1) := by decide +kernel
theorem dX9_reference_69 : decode cX9_reference 69 = .ok (.goto 9, 3) := by decide +kernel
theorem dX9_reference_72 : decode cX9_reference 72 = .ok (.aload_n 0, 1) := by decide +kernel
theorem dX9_reference_73 : decode cX9_reference 73 = .ok (.iload_n 1, 1) := by decide +kernel
theorem dX9_reference_74 : decode cX9_reference 74 = .ok (.iload_n 2, 1) := by decide +kernel
theorem dX9_reference_75 : decode cX9_reference 75 = .ok (.invokevirtual 230, 3) := by decide +kernel
theorem dX9_reference_78 : decode cX9_reference 78 = .ok (.ireturn, 1) := by decide +kernel
theorem dX9_apart_0 : decode cX9_apart 0 = .ok (.aload_n 0, 1) := by decide +kernel
theorem dX9_apart_1 : decode cX9_apart 1 = .ok (.iload_n 1, 1) := by decide +kernel
theorem dX9_apart_2 : decode cX9_apart 2 = .ok (.i2l, 1) := by decide +kernel
theorem dX9_apart_3 : decode cX9_apart 3 = .ok (.lconst 0, 1) := by decide +kernel
theorem dX9_apart_4 : decode cX9_apart 4 = .ok (.aload_n 0, 1) := by decide +kernel
theorem dX9_apart_5 : decode cX9_apart 5 = .ok (.getfield 203, 3) := by decide +kernel
theorem dX9_apart_8 : decode cX9_apart 8 = .ok (.i2l, 1) := by decide +kernel
theorem dX9_apart_9 : decode cX9_apart 9 = .ok (.invokestatic 174, 3) := by decide +kernel
theorem dX9_apart_12 : decode cX9_apart 12 = .ok (.ifCond .eq 17, 3) := by decide +kernel
theorem dX9_apart_15 : decode cX9_apart 15 = .ok (.iload_n 2, 1) := by decide +kernel
theorem dX9_apart_16 : decode cX9_apart 16 = .ok (.i2l, 1) := by decide +kernel
theorem dX9_apart_17 : decode cX9_apart 17 = .ok (.lconst 0, 1) := by decide +kernel
theorem dX9_apart_18 : decode cX9_apart 18 = .ok (.aload_n 0, 1) := by decide +kernel
theorem dX9_apart_19 : decode cX9_apart 19 = .ok (.getfield 203, 3) := by decide +kernel
theorem dX9_apart_22 : decode cX9_apart 22 = .ok (.i2l, 1) := by decide +kernel
theorem dX9_apart_23 : decode cX9_apart 23 = .ok (.invokestatic 174, 3) := by decide +kernel
theorem dX9_apart_26 : decode cX9_apart 26 = .ok (.ifCond .ne 7, 3) := by decide +kernel
theorem dX9_apart_29 : decode cX9_apart 29 = .ok (.iconst 1, 1) := by decide +kernel
theorem dX9_apart_30 : decode cX9_apart 30 = .ok (.goto 4, 3) := by decide +kernel
theorem dX9_apart_33 : decode cX9_apart 33 = .ok (.iconst 0, 1) := by decide +kernel
theorem dX9_apart_34 : decode cX9_apart 34 = .ok (.iconst 1, 1) := by decide +kernel
theorem dX9_apart_35 : decode cX9_apart 35 = .ok (.invokevirtual 233, 3) := by decide +kernel
theorem dX9_apart_38 : decode cX9_apart 38 = .ok (.ifCond .eq 7, 3) := by decide +kernel
theorem dX9_apart_41 : decode cX9_apart 41 = .ok (.iconst 0, 1) := by decide +kernel
theorem dX9_apart_42 : decode cX9_apart 42 = .ok (.goto 9, 3) := by decide +kernel
theorem dX9_apart_45 : decode cX9_apart 45 = .ok (.aload_n 0, 1) := by decide +kernel
theorem dX9_apart_46 : decode cX9_apart 46 = .ok (.iload_n 1, 1) := by decide +kernel
theorem dX9_apart_47 : decode cX9_apart 47 = .ok (.iload_n 2, 1) := by decide +kernel
theorem dX9_apart_48 : decode cX9_apart 48 = .ok (.invokevirtual 212, 3) := by decide +kernel
theorem dX9_apart_51 : decode cX9_apart 51 = .ok (.ireturn, 1) := by decide +kernel
theorem dX9_bytes_0 : decode cX9_bytes 0 = .ok (.aload_n 0, 1) := by decide +kernel
theorem dX9_bytes_1 : decode cX9_bytes 1 = .ok (.iload_n 1, 1) := by decide +kernel
theorem dX9_bytes_2 : decode cX9_bytes 2 = .ok (.i2l, 1) := by decide +kernel
theorem dX9_bytes_3 : decode cX9_bytes 3 = .ok (.lconst 0, 1) := by decide +kernel
theorem dX9_bytes_4 : decode cX9_bytes 4 = .ok (.aload_n 0, 1) := by decide +kernel
theorem dX9_bytes_5 : decode cX9_bytes 5 = .ok (.getfield 203, 3) := by decide +kernel
theorem dX9_bytes_8 : decode cX9_bytes 8 = .ok (.i2l, 1) := by decide +kernel
theorem dX9_bytes_9 : decode cX9_bytes 9 = .ok (.invokestatic 174, 3) := by decide +kernel
theorem dX9_bytes_12 : decode cX9_bytes 12 = .ok (.ifCond .ne 7, 3) := by decide +kernel
theorem dX9_bytes_15 : decode cX9_bytes 15 = .ok (.iconst 1, 1) := by decide +kernel
theorem dX9_bytes_16 : decode cX9_bytes 16 = .ok (.goto 4, 3) := by decide +kernel
theorem dX9_bytes_19 : decode cX9_bytes 19 = .ok (.iconst 0, 1) := by decide +kernel
theorem dX9_bytes_20 : decode cX9_bytes 20 = .ok (.iconst 1, 1) := by decide +kernel
theorem dX9_bytes_21 : decode cX9_bytes 21 = .ok (.invokevirtual 233, 3) := by decide +kernel
theorem dX9_bytes_24 : decode cX9_bytes 24 = .ok (.ifCond .eq 5, 3) := by decide +kernel
theorem dX9_bytes_27 : decode cX9_bytes 27 = .ok (.lconst 0, 1) := by decide +kernel
theorem dX9_bytes_28 : decode cX9_bytes 28 = .ok (.lreturn, 1) := by decide +kernel
theorem dX9_bytes_29 : decode cX9_bytes 29 = .ok (.aload_n 0, 1) := by decide +kernel
theorem dX9_bytes_30 : decode cX9_bytes 30 = .ok (.iload_n 1, 1) := by decide +kernel
theorem dX9_bytes_31 : decode cX9_bytes 31 = .ok (.invokevirtual 242, 3) := by decide +kernel
theorem dX9_bytes_34 : decode cX9_bytes 34 = .ok (.lreturn, 1) := by decide +kernel
theorem dX9_sized_0 : decode cX9_sized 0 = .ok (.iconst 0, 1) := by decide +kernel
theorem dX9_sized_1 : decode cX9_sized 1 = .ok (.istore_n 2, 1) := by decide +kernel
theorem dX9_sized_2 : decode cX9_sized 2 = .ok (.iload_n 1, 1) := by decide +kernel
theorem dX9_sized_3 : decode cX9_sized 3 = .ok (.istore_n 3, 1) := by decide +kernel
theorem dX9_sized_4 : decode cX9_sized 4 = .ok (.iload_n 2, 1) := by decide +kernel
theorem dX9_sized_5 : decode cX9_sized 5 = .ok (.aload_n 0, 1) := by decide +kernel
theorem dX9_sized_6 : decode cX9_sized 6 = .ok (.getfield 203, 3) := by decide +kernel
theorem dX9_sized_9 : decode cX9_sized 9 = .ok (.if_icmp .gt 56, 3) := by decide +kernel
theorem dX9_sized_12 : decode cX9_sized 12 = .ok (.iload_n 3, 1) := by decide +kernel
theorem dX9_sized_13 : decode cX9_sized 13 = .ok (.ifCond .le 52, 3) := by decide +kernel
theorem dX9_sized_16 : decode cX9_sized 16 = .ok (.aload_n 0, 1) := by decide +kernel
theorem dX9_sized_17 : decode cX9_sized 17 = .ok (.getfield 25, 3) := by decide +kernel
theorem dX9_sized_20 : decode cX9_sized 20 = .ok (.iload_n 3, 1) := by decide +kernel
theorem dX9_sized_21 : decode cX9_sized 21 = .ok (.iaload, 1) := by decide +kernel
theorem dX9_sized_22 : decode cX9_sized 22 = .ok (.iconst 3, 1) := by decide +kernel
theorem dX9_sized_23 : decode cX9_sized 23 = .ok (.if_icmp .eq 22, 3) := by decide +kernel
theorem dX9_sized_26 : decode cX9_sized 26 = .ok (.aload_n 0, 1) := by decide +kernel
theorem dX9_sized_27 : decode cX9_sized 27 = .ok (.getfield 25, 3) := by decide +kernel
theorem dX9_sized_30 : decode cX9_sized 30 = .ok (.iload_n 3, 1) := by decide +kernel
theorem dX9_sized_31 : decode cX9_sized 31 = .ok (.iaload, 1) := by decide +kernel
theorem dX9_sized_32 : decode cX9_sized 32 = .ok (.i2l, 1) := by decide +kernel
theorem dX9_sized_33 : decode cX9_sized 33 = .ok (.ldc2_w 168, 3) := by decide +kernel
theorem dX9_sized_36 : decode cX9_sized 36 = .ok (.ldc2_w 188, 3) := by decide +kernel
theorem dX9_sized_39 : decode cX9_sized 39 = .ok (.invokestatic 174, 3) := by decide +kernel
theorem dX9_sized_42 : decode cX9_sized 42 = .ok (.ifCond .eq 23, 3) := by decide +kernel
theorem dX9_sized_45 : decode cX9_sized 45 = .ok (.aload_n 0, 1) := by decide +kernel
theorem dX9_sized_46 : decode cX9_sized 46 = .ok (.getfield 105, 3) := by decide +kernel
theorem dX9_sized_49 : decode cX9_sized 49 = .ok (.iload_n 2, 1) := by decide +kernel
theorem dX9_sized_50 : decode cX9_sized 50 = .ok (.iload_n 3, 1) := by decide +kernel
theorem dX9_sized_51 : decode cX9_sized 51 = .ok (.iastore, 1) := by decide +kernel
theorem dX9_sized_52 : decode cX9_sized 52 = .ok (.iinc 2 1, 3) := by decide +kernel
theorem dX9_sized_55 : decode cX9_sized 55 = .ok (.aload_n 0, 1) := by decide +kernel
theorem dX9_sized_56 : decode cX9_sized 56 = .ok (.iload_n 3, 1) := by decide +kernel
theorem dX9_sized_57 : decode cX9_sized 57 = .ok (.iconst 0, 1) := by decide +kernel
theorem dX9_sized_58 : decode cX9_sized 58 = .ok (.invokevirtual 230, 3) := by decide +kernel
theorem dX9_sized_61 : decode cX9_sized 61 = .ok (.istore_n 3, 1) := by decide +kernel
theorem dX9_sized_62 : decode cX9_sized 62 = .ok (.goto (-58), 3) := by decide +kernel
theorem dX9_sized_65 : decode cX9_sized 65 = .ok (.iload_n 2, 1) := by decide +kernel
theorem dX9_sized_66 : decode cX9_sized 66 = .ok (.aload_n 0, 1) := by decide +kernel
theorem dX9_sized_67 : decode cX9_sized 67 = .ok (.getfield 203, 3) := by decide +kernel
theorem dX9_sized_70 : decode cX9_sized 70 = .ok (.if_icmp .gt 7, 3) := by decide +kernel
theorem dX9_sized_73 : decode cX9_sized 73 = .ok (.iload_n 3, 1) := by decide +kernel
theorem dX9_sized_74 : decode cX9_sized 74 = .ok (.ifCond .ne 7, 3) := by decide +kernel
theorem dX9_sized_77 : decode cX9_sized 77 = .ok (.ldc2_w 246, 3) := by decide +kernel
theorem dX9_sized_80 : decode cX9_sized 80 = .ok (.lreturn, 1) := by decide +kernel
theorem dX9_sized_81 : decode cX9_sized 81 = .ok (.aload_n 0, 1) := by decide +kernel
theorem dX9_sized_82 : decode cX9_sized 82 = .ok (.getfield 25, 3) := by decide +kernel
theorem dX9_sized_85 : decode cX9_sized 85 = .ok (.iload_n 3, 1) := by decide +kernel
theorem dX9_sized_86 : decode cX9_sized 86 = .ok (.iaload, 1) := by decide +kernel
theorem dX9_sized_87 : decode cX9_sized 87 = .ok (.iconst 1, 1) := by decide +kernel
theorem dX9_sized_88 : decode cX9_sized 88 = .ok (.if_icmp .eq 32, 3) := by decide +kernel
theorem dX9_sized_91 : decode cX9_sized 91 = .ok (.aload_n 0, 1) := by decide +kernel
theorem dX9_sized_92 : decode cX9_sized 92 = .ok (.getfield 25, 3) := by decide +kernel
theorem dX9_sized_95 : decode cX9_sized 95 = .ok (.iload_n 3, 1) := by decide +kernel
theorem dX9_sized_96 : decode cX9_sized 96 = .ok (.iaload, 1) := by decide +kernel
theorem dX9_sized_97 : decode cX9_sized 97 = .ok (.iconst 2, 1) := by decide +kernel
theorem dX9_sized_98 : decode cX9_sized 98 = .ok (.if_icmp .eq 22, 3) := by decide +kernel
theorem dX9_sized_101 : decode cX9_sized 101 = .ok (.aload_n 0, 1) := by decide +kernel
theorem dX9_sized_102 : decode cX9_sized 102 = .ok (.getfield 25, 3) := by decide +kernel
theorem dX9_sized_105 : decode cX9_sized 105 = .ok (.iload_n 3, 1) := by decide +kernel
theorem dX9_sized_106 : decode cX9_sized 106 = .ok (.iaload, 1) := by decide +kernel
theorem dX9_sized_107 : decode cX9_sized 107 = .ok (.i2l, 1) := by decide +kernel
theorem dX9_sized_108 : decode cX9_sized 108 = .ok (.ldc2_w 166, 3) := by decide +kernel
theorem dX9_sized_111 : decode cX9_sized 111 = .ok (.ldc2_w 248, 3) := by decide +kernel
theorem dX9_sized_114 : decode cX9_sized 114 = .ok (.invokestatic 174, 3) := by decide +kernel
theorem dX9_sized_117 : decode cX9_sized 117 = .ok (.ifCond .eq 7, 3) := by decide +kernel
theorem dX9_sized_120 : decode cX9_sized 120 = .ok (.iconst 1, 1) := by decide +kernel
theorem dX9_sized_121 : decode cX9_sized 121 = .ok (.goto 4, 3) := by decide +kernel
theorem dX9_sized_124 : decode cX9_sized 124 = .ok (.iconst 0, 1) := by decide +kernel
theorem dX9_sized_125 : decode cX9_sized 125 = .ok (.istore 4, 2) := by decide +kernel
theorem dX9_sized_127 : decode cX9_sized 127 = .ok (.iload 4, 2) := by decide +kernel
theorem dX9_sized_129 : decode cX9_sized 129 = .ok (.ifCond .ne 7, 3) := by decide +kernel
theorem dX9_sized_132 : decode cX9_sized 132 = .ok (.ldc2_w 246, 3) := by decide +kernel
theorem dX9_sized_135 : decode cX9_sized 135 = .ok (.lreturn, 1) := by decide +kernel
theorem dX9_sized_136 : decode cX9_sized 136 = .ok (.aload_n 0, 1) := by decide +kernel
theorem dX9_sized_137 : decode cX9_sized 137 = .ok (.getfield 25, 3) := by decide +kernel
theorem dX9_sized_140 : decode cX9_sized 140 = .ok (.iload_n 3, 1) := by decide +kernel
theorem dX9_sized_141 : decode cX9_sized 141 = .ok (.iaload, 1) := by decide +kernel
theorem dX9_sized_142 : decode cX9_sized 142 = .ok (.iconst 2, 1) := by decide +kernel
theorem dX9_sized_143 : decode cX9_sized 143 = .ok (.if_icmp .ne 9, 3) := by decide +kernel
theorem dX9_sized_146 : decode cX9_sized 146 = .ok (.ldc2_w 168, 3) := by decide +kernel
theorem dX9_sized_149 : decode cX9_sized 149 = .ok (.goto 9, 3) := by decide +kernel
theorem dX9_sized_152 : decode cX9_sized 152 = .ok (.aload_n 0, 1) := by decide +kernel
theorem dX9_sized_153 : decode cX9_sized 153 = .ok (.getfield 34, 3) := by decide +kernel
theorem dX9_sized_156 : decode cX9_sized 156 = .ok (.iload_n 3, 1) := by decide +kernel
theorem dX9_sized_157 : decode cX9_sized 157 = .ok (.laload, 1) := by decide +kernel
theorem dX9_sized_158 : decode cX9_sized 158 = .ok (.lstore 5, 2) := by decide +kernel
theorem dX9_sized_160 : decode cX9_sized 160 = .ok (.iload_n 2, 1) := by decide +kernel
theorem dX9_sized_161 : decode cX9_sized 161 = .ok (.iconst 1, 1) := by decide +kernel
theorem dX9_sized_162 : decode cX9_sized 162 = .ok (.isub, 1) := by decide +kernel
theorem dX9_sized_163 : decode cX9_sized 163 = .ok (.istore 7, 2) := by decide +kernel
theorem dX9_sized_165 : decode cX9_sized 165 = .ok (.iload 7, 2) := by decide +kernel
theorem dX9_sized_167 : decode cX9_sized 167 = .ok (.ifCond .lt 72, 3) := by decide +kernel
theorem dX9_sized_170 : decode cX9_sized 170 = .ok (.aload_n 0, 1) := by decide +kernel
theorem dX9_sized_171 : decode cX9_sized 171 = .ok (.getfield 25, 3) := by decide +kernel
theorem dX9_sized_174 : decode cX9_sized 174 = .ok (.aload_n 0, 1) := by decide +kernel
theorem dX9_sized_175 : decode cX9_sized 175 = .ok (.getfield 105, 3) := by decide +kernel
theorem dX9_sized_178 : decode cX9_sized 178 = .ok (.iload 7, 2) := by decide +kernel
theorem dX9_sized_180 : decode cX9_sized 180 = .ok (.iaload, 1) := by decide +kernel
theorem dX9_sized_181 : decode cX9_sized 181 = .ok (.iaload, 1) := by decide +kernel
theorem dX9_sized_182 : decode cX9_sized 182 = .ok (.iconst 3, 1) := by decide +kernel
theorem dX9_sized_183 : decode cX9_sized 183 = .ok (.if_icmp .eq 6, 3) := by decide +kernel
theorem dX9_sized_186 : decode cX9_sized 186 = .ok (.goto 47, 3) := by decide +kernel
theorem dX9_sized_189 : decode cX9_sized 189 = .ok (.aload_n 0, 1) := by decide +kernel
theorem dX9_sized_190 : decode cX9_sized 190 = .ok (.getfield 38, 3) := by decide +kernel
theorem dX9_sized_193 : decode cX9_sized 193 = .ok (.aload_n 0, 1) := by decide +kernel
theorem dX9_sized_194 : decode cX9_sized 194 = .ok (.getfield 105, 3) := by decide +kernel
theorem dX9_sized_197 : decode cX9_sized 197 = .ok (.iload 7, 2) := by decide +kernel
theorem dX9_sized_199 : decode cX9_sized 199 = .ok (.iaload, 1) := by decide +kernel
theorem dX9_sized_200 : decode cX9_sized 200 = .ok (.laload, 1) := by decide +kernel
theorem dX9_sized_201 : decode cX9_sized 201 = .ok (.lstore 8, 2) := by decide +kernel
theorem dX9_sized_203 : decode cX9_sized 203 = .ok (.lload 8, 2) := by decide +kernel
theorem dX9_sized_205 : decode cX9_sized 205 = .ok (.lconst 0, 1) := by decide +kernel
theorem dX9_sized_206 : decode cX9_sized 206 = .ok (.lcmp, 1) := by decide +kernel
theorem dX9_sized_207 : decode cX9_sized 207 = .ok (.ifCond .le 19, 3) := by decide +kernel
theorem dX9_sized_210 : decode cX9_sized 210 = .ok (.lload 5, 2) := by decide +kernel
theorem dX9_sized_212 : decode cX9_sized 212 = .ok (.ldc2_w 250, 3) := by decide +kernel
theorem dX9_sized_215 : decode cX9_sized 215 = .ok (.lload 8, 2) := by decide +kernel
theorem dX9_sized_217 : decode cX9_sized 217 = .ok (.ldiv, 1) := by decide +kernel
theorem dX9_sized_218 : decode cX9_sized 218 = .ok (.lcmp, 1) := by decide +kernel
theorem dX9_sized_219 : decode cX9_sized 219 = .ok (.ifCond .le 7, 3) := by decide +kernel
theorem dX9_sized_222 : decode cX9_sized 222 = .ok (.ldc2_w 246, 3) := by decide +kernel
theorem dX9_sized_225 : decode cX9_sized 225 = .ok (.lreturn, 1) := by decide +kernel
theorem dX9_sized_226 : decode cX9_sized 226 = .ok (.lload 5, 2) := by decide +kernel
theorem dX9_sized_228 : decode cX9_sized 228 = .ok (.lload 8, 2) := by decide +kernel
theorem dX9_sized_230 : decode cX9_sized 230 = .ok (.lmul, 1) := by decide +kernel
theorem dX9_sized_231 : decode cX9_sized 231 = .ok (.lstore 5, 2) := by decide +kernel
theorem dX9_sized_233 : decode cX9_sized 233 = .ok (.iinc 7 (-1), 3) := by decide +kernel
theorem dX9_sized_236 : decode cX9_sized 236 = .ok (.goto (-71), 3) := by decide +kernel
theorem dX9_sized_239 : decode cX9_sized 239 = .ok (.lload 5, 2) := by decide +kernel
theorem dX9_sized_241 : decode cX9_sized 241 = .ok (.lreturn, 1) := by decide +kernel
theorem dX9_find_0 : decode cX9_find 0 = .ok (.aload_n 0, 1) := by decide +kernel
theorem dX9_find_1 : decode cX9_find 1 = .ok (.iload_n 1, 1) := by decide +kernel
theorem dX9_find_2 : decode cX9_find 2 = .ok (.i2l, 1) := by decide +kernel
theorem dX9_find_3 : decode cX9_find 3 = .ok (.lconst 0, 1) := by decide +kernel
theorem dX9_find_4 : decode cX9_find 4 = .ok (.ldc2_w 252, 3) := by decide +kernel
theorem dX9_find_7 : decode cX9_find 7 = .ok (.invokestatic 174, 3) := by decide +kernel
theorem dX9_find_10 : decode cX9_find 10 = .ok (.ifCond .eq 8, 3) := by decide +kernel
theorem dX9_find_13 : decode cX9_find 13 = .ok (.iload_n 2, 1) := by decide +kernel
theorem dX9_find_14 : decode cX9_find 14 = .ok (.iconst 1, 1) := by decide +kernel
theorem dX9_find_15 : decode cX9_find 15 = .ok (.if_icmp .ge 7, 3) := by decide +kernel
theorem dX9_find_18 : decode cX9_find 18 = .ok (.iconst 1, 1) := by decide +kernel
theorem dX9_find_19 : decode cX9_find 19 = .ok (.goto 4, 3) := by decide +kernel
theorem dX9_find_22 : decode cX9_find 22 = .ok (.iconst 0, 1) := by decide +kernel
theorem dX9_find_23 : decode cX9_find 23 = .ok (.iconst 1, 1) := by decide +kernel
theorem dX9_find_24 : decode cX9_find 24 = .ok (.invokevirtual 233, 3) := by decide +kernel
theorem dX9_find_27 : decode cX9_find 27 = .ok (.ifCond .eq 5, 3) := by decide +kernel
theorem dX9_find_30 : decode cX9_find 30 = .ok (.iconst 0, 1) := by decide +kernel
theorem dX9_find_31 : decode cX9_find 31 = .ok (.ireturn, 1) := by decide +kernel
theorem dX9_find_32 : decode cX9_find 32 = .ok (.iconst 0, 1) := by decide +kernel
theorem dX9_find_33 : decode cX9_find 33 = .ok (.istore_n 3, 1) := by decide +kernel
theorem dX9_find_34 : decode cX9_find 34 = .ok (.iload_n 2, 1) := by decide +kernel
theorem dX9_find_35 : decode cX9_find 35 = .ok (.istore 4, 2) := by decide +kernel
theorem dX9_find_37 : decode cX9_find 37 = .ok (.iload 4, 2) := by decide +kernel
theorem dX9_find_39 : decode cX9_find 39 = .ok (.aload_n 0, 1) := by decide +kernel
theorem dX9_find_40 : decode cX9_find 40 = .ok (.getfield 203, 3) := by decide +kernel
theorem dX9_find_43 : decode cX9_find 43 = .ok (.if_icmp .gt 49, 3) := by decide +kernel
theorem dX9_find_46 : decode cX9_find 46 = .ok (.iload_n 3, 1) := by decide +kernel
theorem dX9_find_47 : decode cX9_find 47 = .ok (.ifCond .ne 45, 3) := by decide +kernel
theorem dX9_find_50 : decode cX9_find 50 = .ok (.iload_n 1, 1) := by decide +kernel
theorem dX9_find_51 : decode cX9_find 51 = .ok (.ifCond .eq 14, 3) := by decide +kernel
theorem dX9_find_54 : decode cX9_find 54 = .ok (.aload_n 0, 1) := by decide +kernel
theorem dX9_find_55 : decode cX9_find 55 = .ok (.getfield 25, 3) := by decide +kernel
theorem dX9_find_58 : decode cX9_find 58 = .ok (.iload 4, 2) := by decide +kernel
theorem dX9_find_60 : decode cX9_find 60 = .ok (.iaload, 1) := by decide +kernel
theorem dX9_find_61 : decode cX9_find 61 = .ok (.iload_n 1, 1) := by decide +kernel
theorem dX9_find_62 : decode cX9_find 62 = .ok (.if_icmp .ne 22, 3) := by decide +kernel
theorem dX9_find_65 : decode cX9_find 65 = .ok (.aload_n 0, 1) := by decide +kernel
theorem dX9_find_66 : decode cX9_find 66 = .ok (.aload_n 0, 1) := by decide +kernel
theorem dX9_find_67 : decode cX9_find 67 = .ok (.getfield 22, 3) := by decide +kernel
theorem dX9_find_70 : decode cX9_find 70 = .ok (.iload 4, 2) := by decide +kernel
theorem dX9_find_72 : decode cX9_find 72 = .ok (.iaload, 1) := by decide +kernel
theorem dX9_find_73 : decode cX9_find 73 = .ok (.invokevirtual 254, 3) := by decide +kernel
theorem dX9_find_76 : decode cX9_find 76 = .ok (.ifCond .eq 8, 3) := by decide +kernel
theorem dX9_find_79 : decode cX9_find 79 = .ok (.iload 4, 2) := by decide +kernel
theorem dX9_find_81 : decode cX9_find 81 = .ok (.goto 4, 3) := by decide +kernel
theorem dX9_find_84 : decode cX9_find 84 = .ok (.iconst 0, 1) := by decide +kernel
theorem dX9_find_85 : decode cX9_find 85 = .ok (.istore_n 3, 1) := by decide +kernel
theorem dX9_find_86 : decode cX9_find 86 = .ok (.iinc 4 1, 3) := by decide +kernel
theorem dX9_find_89 : decode cX9_find 89 = .ok (.goto (-52), 3) := by decide +kernel
theorem dX9_find_92 : decode cX9_find 92 = .ok (.aload_n 0, 1) := by decide +kernel
theorem dX9_find_93 : decode cX9_find 93 = .ok (.iconst 0, 1) := by decide +kernel
theorem dX9_find_94 : decode cX9_find 94 = .ok (.putfield 131, 3) := by decide +kernel
theorem dX9_find_97 : decode cX9_find 97 = .ok (.iload_n 3, 1) := by decide +kernel
theorem dX9_find_98 : decode cX9_find 98 = .ok (.ireturn, 1) := by decide +kernel
theorem dX9_isTape_0 : decode cX9_isTape 0 = .ok (.aload_n 0, 1) := by decide +kernel
theorem dX9_isTape_1 : decode cX9_isTape 1 = .ok (.iload_n 1, 1) := by decide +kernel
theorem dX9_isTape_2 : decode cX9_isTape 2 = .ok (.invokevirtual 239, 3) := by decide +kernel
theorem dX9_isTape_5 : decode cX9_isTape 5 = .ok (.aload_n 0, 1) := by decide +kernel
theorem dX9_isTape_6 : decode cX9_isTape 6 = .ok (.getfield 131, 3) := by decide +kernel
theorem dX9_isTape_9 : decode cX9_isTape 9 = .ok (.if_icmp .ne 7, 3) := by decide +kernel
theorem dX9_isTape_12 : decode cX9_isTape 12 = .ok (.iconst 1, 1) := by decide +kernel
theorem dX9_isTape_13 : decode cX9_isTape 13 = .ok (.goto 4, 3) := by decide +kernel
theorem dX9_isTape_16 : decode cX9_isTape 16 = .ok (.iconst 0, 1) := by decide +kernel
theorem dX9_isTape_17 : decode cX9_isTape 17 = .ok (.istore_n 2, 1) := by decide +kernel
theorem dX9_isTape_18 : decode cX9_isTape 18 = .ok (.iconst 0, 1) := by decide +kernel
theorem dX9_isTape_19 : decode cX9_isTape 19 = .ok (.istore_n 3, 1) := by decide +kernel
theorem dX9_isTape_20 : decode cX9_isTape 20 = .ok (.iload_n 3, 1) := by decide +kernel
theorem dX9_isTape_21 : decode cX9_isTape 21 = .ok (.aload_n 0, 1) := by decide +kernel
theorem dX9_isTape_22 : decode cX9_isTape 22 = .ok (.getfield 131, 3) := by decide +kernel
theorem dX9_isTape_25 : decode cX9_isTape 25 = .ok (.if_icmp .ge 36, 3) := by decide +kernel
theorem dX9_isTape_28 : decode cX9_isTape 28 = .ok (.iload_n 2, 1) := by decide +kernel
theorem dX9_isTape_29 : decode cX9_isTape 29 = .ok (.ifCond .eq 32, 3) := by decide +kernel
theorem dX9_isTape_32 : decode cX9_isTape 32 = .ok (.aload_n 0, 1) := by decide +kernel
theorem dX9_isTape_33 : decode cX9_isTape 33 = .ok (.getfield 19, 3) := by decide +kernel
theorem dX9_isTape_36 : decode cX9_isTape 36 = .ok (.iload_n 1, 1) := by decide +kernel
theorem dX9_isTape_37 : decode cX9_isTape 37 = .ok (.iload_n 3, 1) := by decide +kernel
theorem dX9_isTape_38 : decode cX9_isTape 38 = .ok (.iadd, 1) := by decide +kernel
theorem dX9_isTape_39 : decode cX9_isTape 39 = .ok (.iaload, 1) := by decide +kernel
theorem dX9_isTape_40 : decode cX9_isTape 40 = .ok (.aload_n 0, 1) := by decide +kernel
theorem dX9_isTape_41 : decode cX9_isTape 41 = .ok (.getfield 7, 3) := by decide +kernel
theorem dX9_isTape_44 : decode cX9_isTape 44 = .ok (.iload_n 3, 1) := by decide +kernel
theorem dX9_isTape_45 : decode cX9_isTape 45 = .ok (.iaload, 1) := by decide +kernel
theorem dX9_isTape_46 : decode cX9_isTape 46 = .ok (.if_icmp .ne 7, 3) := by decide +kernel
theorem dX9_isTape_49 : decode cX9_isTape 49 = .ok (.iconst 1, 1) := by decide +kernel
theorem dX9_isTape_50 : decode cX9_isTape 50 = .ok (.goto 4, 3) := by decide +kernel
theorem dX9_isTape_53 : decode cX9_isTape 53 = .ok (.iconst 0, 1) := by decide +kernel
theorem dX9_isTape_54 : decode cX9_isTape 54 = .ok (.istore_n 2, 1) := by decide +kernel
theorem dX9_isTape_55 : decode cX9_isTape 55 = .ok (.iinc 3 1, 3) := by decide +kernel
theorem dX9_isTape_58 : decode cX9_isTape 58 = .ok (.goto (-38), 3) := by decide +kernel
theorem dX9_isTape_61 : decode cX9_isTape 61 = .ok (.iload_n 2, 1) := by decide +kernel
theorem dX9_isTape_62 : decode cX9_isTape 62 = .ok (.ireturn, 1) := by decide +kernel
theorem dX9_reaches_0 : decode cX9_reaches 0 = .ok (.iconst 0, 1) := by decide +kernel
theorem dX9_reaches_1 : decode cX9_reaches 1 = .ok (.istore_n 3, 1) := by decide +kernel
theorem dX9_reaches_2 : decode cX9_reaches 2 = .ok (.iload_n 3, 1) := by decide +kernel
theorem dX9_reaches_3 : decode cX9_reaches 3 = .ok (.sipush 202, 3) := by decide +kernel
theorem dX9_reaches_6 : decode cX9_reaches 6 = .ok (.if_icmp .ge 16, 3) := by decide +kernel
theorem dX9_reaches_9 : decode cX9_reaches 9 = .ok (.aload_n 0, 1) := by decide +kernel
theorem dX9_reaches_10 : decode cX9_reaches 10 = .ok (.getfield 108, 3) := by decide +kernel
theorem dX9_reaches_13 : decode cX9_reaches 13 = .ok (.iload_n 3, 1) := by decide +kernel
theorem dX9_reaches_14 : decode cX9_reaches 14 = .ok (.iconst 0, 1) := by decide +kernel
theorem dX9_reaches_15 : decode cX9_reaches 15 = .ok (.bastore, 1) := by decide +kernel
theorem dX9_reaches_16 : decode cX9_reaches 16 = .ok (.iinc 3 1, 3) := by decide +kernel
theorem dX9_reaches_19 : decode cX9_reaches 19 = .ok (.goto (-17), 3) := by decide +kernel
theorem dX9_reaches_22 : decode cX9_reaches 22 = .ok (.aload_n 0, 1) := by decide +kernel
theorem dX9_reaches_23 : decode cX9_reaches 23 = .ok (.getfield 108, 3) := by decide +kernel
theorem dX9_reaches_26 : decode cX9_reaches 26 = .ok (.iload_n 1, 1) := by decide +kernel
theorem dX9_reaches_27 : decode cX9_reaches 27 = .ok (.iconst 1, 1) := by decide +kernel
theorem dX9_reaches_28 : decode cX9_reaches 28 = .ok (.bastore, 1) := by decide +kernel
theorem dX9_reaches_29 : decode cX9_reaches 29 = .ok (.iconst 1, 1) := by decide +kernel
theorem dX9_reaches_30 : decode cX9_reaches 30 = .ok (.istore_n 3, 1) := by decide +kernel
theorem dX9_reaches_31 : decode cX9_reaches 31 = .ok (.iconst 0, 1) := by decide +kernel
theorem dX9_reaches_32 : decode cX9_reaches 32 = .ok (.istore 4, 2) := by decide +kernel
theorem dX9_reaches_34 : decode cX9_reaches 34 = .ok (.iload_n 3, 1) := by decide +kernel
theorem dX9_reaches_35 : decode cX9_reaches 35 = .ok (.ifCond .eq 117, 3) := by decide +kernel
theorem dX9_reaches_38 : decode cX9_reaches 38 = .ok (.iload 4, 2) := by decide +kernel
theorem dX9_reaches_40 : decode cX9_reaches 40 = .ok (.ifCond .ne 112, 3) := by decide +kernel
theorem dX9_reaches_43 : decode cX9_reaches 43 = .ok (.iconst 0, 1) := by decide +kernel
theorem dX9_reaches_44 : decode cX9_reaches 44 = .ok (.istore_n 3, 1) := by decide +kernel
theorem dX9_reaches_45 : decode cX9_reaches 45 = .ok (.iconst 1, 1) := by decide +kernel
theorem dX9_reaches_46 : decode cX9_reaches 46 = .ok (.istore 5, 2) := by decide +kernel
theorem dX9_reaches_48 : decode cX9_reaches 48 = .ok (.iload 5, 2) := by decide +kernel
theorem dX9_reaches_50 : decode cX9_reaches 50 = .ok (.aload_n 0, 1) := by decide +kernel
theorem dX9_reaches_51 : decode cX9_reaches 51 = .ok (.getfield 203, 3) := by decide +kernel
theorem dX9_reaches_54 : decode cX9_reaches 54 = .ok (.if_icmp .gt 95, 3) := by decide +kernel
theorem dX9_reaches_57 : decode cX9_reaches 57 = .ok (.iconst 0, 1) := by decide +kernel
theorem dX9_reaches_58 : decode cX9_reaches 58 = .ok (.istore 6, 2) := by decide +kernel
theorem dX9_reaches_60 : decode cX9_reaches 60 = .ok (.iload 6, 2) := by decide +kernel
theorem dX9_reaches_62 : decode cX9_reaches 62 = .ok (.aload_n 0, 1) := by decide +kernel
theorem dX9_reaches_63 : decode cX9_reaches 63 = .ok (.iload 5, 2) := by decide +kernel
theorem dX9_reaches_65 : decode cX9_reaches 65 = .ok (.invokevirtual 226, 3) := by decide +kernel
theorem dX9_reaches_68 : decode cX9_reaches 68 = .ok (.if_icmp .ge 75, 3) := by decide +kernel
theorem dX9_reaches_71 : decode cX9_reaches 71 = .ok (.aload_n 0, 1) := by decide +kernel
theorem dX9_reaches_72 : decode cX9_reaches 72 = .ok (.getfield 108, 3) := by decide +kernel
theorem dX9_reaches_75 : decode cX9_reaches 75 = .ok (.iload 5, 2) := by decide +kernel
theorem dX9_reaches_77 : decode cX9_reaches 77 = .ok (.baload, 1) := by decide +kernel
theorem dX9_reaches_78 : decode cX9_reaches 78 = .ok (.ifCond .eq 65, 3) := by decide +kernel
theorem dX9_reaches_81 : decode cX9_reaches 81 = .ok (.aload_n 0, 1) := by decide +kernel
theorem dX9_reaches_82 : decode cX9_reaches 82 = .ok (.iload 5, 2) := by decide +kernel
theorem dX9_reaches_84 : decode cX9_reaches 84 = .ok (.iload 6, 2) := by decide +kernel
theorem dX9_reaches_86 : decode cX9_reaches 86 = .ok (.invokevirtual 230, 3) := by decide +kernel
theorem dX9_reaches_89 : decode cX9_reaches 89 = .ok (.istore 7, 2) := by decide +kernel
theorem dX9_reaches_91 : decode cX9_reaches 91 = .ok (.iload 4, 2) := by decide +kernel
theorem dX9_reaches_93 : decode cX9_reaches 93 = .ok (.ifCond .ne 9, 3) := by decide +kernel
theorem dX9_reaches_96 : decode cX9_reaches 96 = .ok (.iload 7, 2) := by decide +kernel
theorem dX9_reaches_98 : decode cX9_reaches 98 = .ok (.iload_n 2, 1) := by decide +kernel
theorem dX9_reaches_99 : decode cX9_reaches 99 = .ok (.if_icmp .ne 7, 3) := by decide +kernel
theorem dX9_reaches_102 : decode cX9_reaches 102 = .ok (.iconst 1, 1) := by decide +kernel
theorem dX9_reaches_103 : decode cX9_reaches 103 = .ok (.goto 4, 3) := by decide +kernel
theorem dX9_reaches_106 : decode cX9_reaches 106 = .ok (.iconst 0, 1) := by decide +kernel
theorem dX9_reaches_107 : decode cX9_reaches 107 = .ok (.istore 4, 2) := by decide +kernel
theorem dX9_reaches_109 : decode cX9_reaches 109 = .ok (.iload_n 3, 1) := by decide +kernel
theorem dX9_reaches_110 : decode cX9_reaches 110 = .ok (.ifCond .ne 13, 3) := by decide +kernel
theorem dX9_reaches_113 : decode cX9_reaches 113 = .ok (.aload_n 0, 1) := by decide +kernel
theorem dX9_reaches_114 : decode cX9_reaches 114 = .ok (.getfield 108, 3) := by decide +kernel
theorem dX9_reaches_117 : decode cX9_reaches 117 = .ok (.iload 7, 2) := by decide +kernel
theorem dX9_reaches_119 : decode cX9_reaches 119 = .ok (.baload, 1) := by decide +kernel
theorem dX9_reaches_120 : decode cX9_reaches 120 = .ok (.ifCond .ne 7, 3) := by decide +kernel
theorem dX9_reaches_123 : decode cX9_reaches 123 = .ok (.iconst 1, 1) := by decide +kernel
theorem dX9_reaches_124 : decode cX9_reaches 124 = .ok (.goto 4, 3) := by decide +kernel
theorem dX9_reaches_127 : decode cX9_reaches 127 = .ok (.iconst 0, 1) := by decide +kernel
theorem dX9_reaches_128 : decode cX9_reaches 128 = .ok (.istore_n 3, 1) := by decide +kernel
theorem dX9_reaches_129 : decode cX9_reaches 129 = .ok (.aload_n 0, 1) := by decide +kernel
theorem dX9_reaches_130 : decode cX9_reaches 130 = .ok (.getfield 108, 3) := by decide +kernel
theorem dX9_reaches_133 : decode cX9_reaches 133 = .ok (.iload 7, 2) := by decide +kernel
theorem dX9_reaches_135 : decode cX9_reaches 135 = .ok (.iconst 1, 1) := by decide +kernel
theorem dX9_reaches_136 : decode cX9_reaches 136 = .ok (.bastore, 1) := by decide +kernel
theorem dX9_reaches_137 : decode cX9_reaches 137 = .ok (.iinc 6 1, 3) := by decide +kernel
theorem dX9_reaches_140 : decode cX9_reaches 140 = .ok (.goto (-80), 3) := by decide +kernel
theorem dX9_reaches_143 : decode cX9_reaches 143 = .ok (.iinc 5 1, 3) := by decide +kernel
theorem dX9_reaches_146 : decode cX9_reaches 146 = .ok (.goto (-98), 3) := by decide +kernel
theorem dX9_reaches_149 : decode cX9_reaches 149 = .ok (.goto (-115), 3) := by decide +kernel
theorem dX9_reaches_152 : decode cX9_reaches 152 = .ok (.iload 4, 2) := by decide +kernel
theorem dX9_reaches_154 : decode cX9_reaches 154 = .ok (.ireturn, 1) := by decide +kernel
theorem dX9_ring_0 : decode cX9_ring 0 = .ok (.aload_n 0, 1) := by decide +kernel
theorem dX9_ring_1 : decode cX9_ring 1 = .ok (.iload_n 1, 1) := by decide +kernel
theorem dX9_ring_2 : decode cX9_ring 2 = .ok (.i2l, 1) := by decide +kernel
theorem dX9_ring_3 : decode cX9_ring 3 = .ok (.lconst 1, 1) := by decide +kernel
theorem dX9_ring_4 : decode cX9_ring 4 = .ok (.aload_n 0, 1) := by decide +kernel
theorem dX9_ring_5 : decode cX9_ring 5 = .ok (.getfield 203, 3) := by decide +kernel
theorem dX9_ring_8 : decode cX9_ring 8 = .ok (.i2l, 1) := by decide +kernel
theorem dX9_ring_9 : decode cX9_ring 9 = .ok (.invokestatic 174, 3) := by decide +kernel
theorem dX9_ring_12 : decode cX9_ring 12 = .ok (.ifCond .ne 7, 3) := by decide +kernel
theorem dX9_ring_15 : decode cX9_ring 15 = .ok (.iconst 1, 1) := by decide +kernel
theorem dX9_ring_16 : decode cX9_ring 16 = .ok (.goto 4, 3) := by decide +kernel
theorem dX9_ring_19 : decode cX9_ring 19 = .ok (.iconst 0, 1) := by decide +kernel
theorem dX9_ring_20 : decode cX9_ring 20 = .ok (.iconst 1, 1) := by decide +kernel
theorem dX9_ring_21 : decode cX9_ring 21 = .ok (.invokevirtual 233, 3) := by decide +kernel
theorem dX9_ring_24 : decode cX9_ring 24 = .ok (.ifCond .eq 5, 3) := by decide +kernel
theorem dX9_ring_27 : decode cX9_ring 27 = .ok (.iconst 0, 1) := by decide +kernel
theorem dX9_ring_28 : decode cX9_ring 28 = .ok (.ireturn, 1) := by decide +kernel
theorem dX9_ring_29 : decode cX9_ring 29 = .ok (.iconst 1, 1) := by decide +kernel
theorem dX9_ring_30 : decode cX9_ring 30 = .ok (.istore_n 2, 1) := by decide +kernel
theorem dX9_ring_31 : decode cX9_ring 31 = .ok (.iconst 1, 1) := by decide +kernel
theorem dX9_ring_32 : decode cX9_ring 32 = .ok (.istore_n 3, 1) := by decide +kernel
theorem dX9_ring_33 : decode cX9_ring 33 = .ok (.iload_n 3, 1) := by decide +kernel
theorem dX9_ring_34 : decode cX9_ring 34 = .ok (.aload_n 0, 1) := by decide +kernel
theorem dX9_ring_35 : decode cX9_ring 35 = .ok (.getfield 203, 3) := by decide +kernel
theorem dX9_ring_38 : decode cX9_ring 38 = .ok (.if_icmp .gt 35, 3) := by decide +kernel
theorem dX9_ring_41 : decode cX9_ring 41 = .ok (.iload_n 3, 1) := by decide +kernel
theorem dX9_ring_42 : decode cX9_ring 42 = .ok (.iload_n 1, 1) := by decide +kernel
theorem dX9_ring_43 : decode cX9_ring 43 = .ok (.if_icmp .eq 24, 3) := by decide +kernel
theorem dX9_ring_46 : decode cX9_ring 46 = .ok (.aload_n 0, 1) := by decide +kernel
theorem dX9_ring_47 : decode cX9_ring 47 = .ok (.iload_n 1, 1) := by decide +kernel
theorem dX9_ring_48 : decode cX9_ring 48 = .ok (.iload_n 3, 1) := by decide +kernel
theorem dX9_ring_49 : decode cX9_ring 49 = .ok (.invokevirtual 257, 3) := by decide +kernel
theorem dX9_ring_52 : decode cX9_ring 52 = .ok (.ifCond .eq 15, 3) := by decide +kernel
theorem dX9_ring_55 : decode cX9_ring 55 = .ok (.aload_n 0, 1) := by decide +kernel
theorem dX9_ring_56 : decode cX9_ring 56 = .ok (.iload_n 3, 1) := by decide +kernel
theorem dX9_ring_57 : decode cX9_ring 57 = .ok (.iload_n 1, 1) := by decide +kernel
theorem dX9_ring_58 : decode cX9_ring 58 = .ok (.invokevirtual 257, 3) := by decide +kernel
theorem dX9_ring_61 : decode cX9_ring 61 = .ok (.ifCond .eq 6, 3) := by decide +kernel
theorem dX9_ring_64 : decode cX9_ring 64 = .ok (.iinc 2 1, 3) := by decide +kernel
theorem dX9_ring_67 : decode cX9_ring 67 = .ok (.iinc 3 1, 3) := by decide +kernel
theorem dX9_ring_70 : decode cX9_ring 70 = .ok (.goto (-37), 3) := by decide +kernel
theorem dX9_ring_73 : decode cX9_ring 73 = .ok (.iload_n 2, 1) := by decide +kernel
theorem dX9_ring_74 : decode cX9_ring 74 = .ok (.ireturn, 1) := by decide +kernel
theorem dX9_put_0 : decode cX9_put 0 = .ok (.iconst 0, 1) := by decide +kernel
theorem dX9_put_1 : decode cX9_put 1 = .ok (.istore 4, 2) := by decide +kernel
theorem dX9_put_3 : decode cX9_put 3 = .ok (.iload 4, 2) := by decide +kernel
theorem dX9_put_5 : decode cX9_put 5 = .ok (.iload_n 3, 1) := by decide +kernel
theorem dX9_put_6 : decode cX9_put 6 = .ok (.if_icmp .ge 50, 3) := by decide +kernel
theorem dX9_put_9 : decode cX9_put 9 = .ok (.aload_n 0, 1) := by decide +kernel
theorem dX9_put_10 : decode cX9_put 10 = .ok (.getfield 260, 3) := by decide +kernel
theorem dX9_put_13 : decode cX9_put 13 = .ok (.sipush 16384, 3) := by decide +kernel
theorem dX9_put_16 : decode cX9_put 16 = .ok (.if_icmp .ge 24, 3) := by decide +kernel
theorem dX9_put_19 : decode cX9_put 19 = .ok (.aload_n 0, 1) := by decide +kernel
theorem dX9_put_20 : decode cX9_put 20 = .ok (.getfield 16, 3) := by decide +kernel
theorem dX9_put_23 : decode cX9_put 23 = .ok (.aload_n 0, 1) := by decide +kernel
theorem dX9_put_24 : decode cX9_put 24 = .ok (.getfield 260, 3) := by decide +kernel
theorem dX9_put_27 : decode cX9_put 27 = .ok (.lload_n 1, 1) := by decide +kernel
theorem dX9_put_28 : decode cX9_put 28 = .ok (.bipush 8, 2) := by decide +kernel
theorem dX9_put_30 : decode cX9_put 30 = .ok (.iload 4, 2) := by decide +kernel
theorem dX9_put_32 : decode cX9_put 32 = .ok (.imul, 1) := by decide +kernel
theorem dX9_put_33 : decode cX9_put 33 = .ok (.lshr, 1) := by decide +kernel
theorem dX9_put_34 : decode cX9_put 34 = .ok (.ldc2_w 237, 3) := by decide +kernel
theorem dX9_put_37 : decode cX9_put 37 = .ok (.land, 1) := by decide +kernel
theorem dX9_put_38 : decode cX9_put 38 = .ok (.l2i, 1) := by decide +kernel
theorem dX9_put_39 : decode cX9_put 39 = .ok (.iastore, 1) := by decide +kernel
theorem dX9_put_40 : decode cX9_put 40 = .ok (.aload_n 0, 1) := by decide +kernel
theorem dX9_put_41 : decode cX9_put 41 = .ok (.dup, 1) := by decide +kernel
theorem dX9_put_42 : decode cX9_put 42 = .ok (.getfield 260, 3) := by decide +kernel
theorem dX9_put_45 : decode cX9_put 45 = .ok (.iconst 1, 1) := by decide +kernel
theorem dX9_put_46 : decode cX9_put 46 = .ok (.iadd, 1) := by decide +kernel
theorem dX9_put_47 : decode cX9_put 47 = .ok (.putfield 260, 3) := by decide +kernel
theorem dX9_put_50 : decode cX9_put 50 = .ok (.iinc 4 1, 3) := by decide +kernel
theorem dX9_put_53 : decode cX9_put 53 = .ok (.goto (-50), 3) := by decide +kernel
theorem dX9_put_56 : decode cX9_put 56 = .ok (.return_, 1) := by decide +kernel
theorem dX9_place_0 : decode cX9_place 0 = .ok (.aload_n 0, 1) := by decide +kernel
theorem dX9_place_1 : decode cX9_place 1 = .ok (.getfield 19, 3) := by decide +kernel
theorem dX9_place_4 : decode cX9_place 4 = .ok (.iload_n 1, 1) := by decide +kernel
theorem dX9_place_5 : decode cX9_place 5 = .ok (.iaload, 1) := by decide +kernel
theorem dX9_place_6 : decode cX9_place 6 = .ok (.ifCond .ne 5, 3) := by decide +kernel
theorem dX9_place_9 : decode cX9_place 9 = .ok (.iconst 0, 1) := by decide +kernel
theorem dX9_place_10 : decode cX9_place 10 = .ok (.ireturn, 1) := by decide +kernel
theorem dX9_place_11 : decode cX9_place 11 = .ok (.iconst 0, 1) := by decide +kernel
theorem dX9_place_12 : decode cX9_place 12 = .ok (.istore_n 2, 1) := by decide +kernel
theorem dX9_place_13 : decode cX9_place 13 = .ok (.iload_n 2, 1) := by decide +kernel
theorem dX9_place_14 : decode cX9_place 14 = .ok (.aload_n 0, 1) := by decide +kernel
theorem dX9_place_15 : decode cX9_place 15 = .ok (.getfield 263, 3) := by decide +kernel
theorem dX9_place_18 : decode cX9_place 18 = .ok (.if_icmp .ge 30, 3) := by decide +kernel
theorem dX9_place_21 : decode cX9_place 21 = .ok (.aload_n 0, 1) := by decide +kernel
theorem dX9_place_22 : decode cX9_place 22 = .ok (.aload_n 0, 1) := by decide +kernel
theorem dX9_place_23 : decode cX9_place 23 = .ok (.getfield 112, 3) := by decide +kernel
theorem dX9_place_26 : decode cX9_place 26 = .ok (.iload_n 2, 1) := by decide +kernel
theorem dX9_place_27 : decode cX9_place 27 = .ok (.iaload, 1) := by decide +kernel
theorem dX9_place_28 : decode cX9_place 28 = .ok (.iload_n 1, 1) := by decide +kernel
theorem dX9_place_29 : decode cX9_place 29 = .ok (.invokevirtual 215, 3) := by decide +kernel
theorem dX9_place_32 : decode cX9_place 32 = .ok (.ifCond .eq 10, 3) := by decide +kernel
theorem dX9_place_35 : decode cX9_place 35 = .ok (.aload_n 0, 1) := by decide +kernel
theorem dX9_place_36 : decode cX9_place 36 = .ok (.getfield 115, 3) := by decide +kernel
theorem dX9_place_39 : decode cX9_place 39 = .ok (.iload_n 2, 1) := by decide +kernel
theorem dX9_place_40 : decode cX9_place 40 = .ok (.iaload, 1) := by decide +kernel
theorem dX9_place_41 : decode cX9_place 41 = .ok (.ireturn, 1) := by decide +kernel
theorem dX9_place_42 : decode cX9_place 42 = .ok (.iinc 2 1, 3) := by decide +kernel
theorem dX9_place_45 : decode cX9_place 45 = .ok (.goto (-32), 3) := by decide +kernel
theorem dX9_place_48 : decode cX9_place 48 = .ok (.aload_n 0, 1) := by decide +kernel
theorem dX9_place_49 : decode cX9_place 49 = .ok (.getfield 112, 3) := by decide +kernel
theorem dX9_place_52 : decode cX9_place 52 = .ok (.aload_n 0, 1) := by decide +kernel
theorem dX9_place_53 : decode cX9_place 53 = .ok (.getfield 263, 3) := by decide +kernel
theorem dX9_place_56 : decode cX9_place 56 = .ok (.iload_n 1, 1) := by decide +kernel
theorem dX9_place_57 : decode cX9_place 57 = .ok (.iastore, 1) := by decide +kernel
theorem dX9_place_58 : decode cX9_place 58 = .ok (.aload_n 0, 1) := by decide +kernel
theorem dX9_place_59 : decode cX9_place 59 = .ok (.getfield 115, 3) := by decide +kernel
theorem dX9_place_62 : decode cX9_place 62 = .ok (.aload_n 0, 1) := by decide +kernel
theorem dX9_place_63 : decode cX9_place 63 = .ok (.getfield 263, 3) := by decide +kernel
theorem dX9_place_66 : decode cX9_place 66 = .ok (.aload_n 0, 1) := by decide +kernel
theorem dX9_place_67 : decode cX9_place 67 = .ok (.getfield 266, 3) := by decide +kernel
theorem dX9_place_70 : decode cX9_place 70 = .ok (.iastore, 1) := by decide +kernel
theorem dX9_place_71 : decode cX9_place 71 = .ok (.aload_n 0, 1) := by decide +kernel
theorem dX9_place_72 : decode cX9_place 72 = .ok (.dup, 1) := by decide +kernel
theorem dX9_place_73 : decode cX9_place 73 = .ok (.getfield 263, 3) := by decide +kernel
theorem dX9_place_76 : decode cX9_place 76 = .ok (.iconst 1, 1) := by decide +kernel
theorem dX9_place_77 : decode cX9_place 77 = .ok (.iadd, 1) := by decide +kernel
theorem dX9_place_78 : decode cX9_place 78 = .ok (.putfield 263, 3) := by decide +kernel
theorem dX9_place_81 : decode cX9_place 81 = .ok (.aload_n 0, 1) := by decide +kernel
theorem dX9_place_82 : decode cX9_place 82 = .ok (.dup, 1) := by decide +kernel
theorem dX9_place_83 : decode cX9_place 83 = .ok (.getfield 266, 3) := by decide +kernel
theorem dX9_place_86 : decode cX9_place 86 = .ok (.aload_n 0, 1) := by decide +kernel
theorem dX9_place_87 : decode cX9_place 87 = .ok (.iload_n 1, 1) := by decide +kernel
theorem dX9_place_88 : decode cX9_place 88 = .ok (.invokevirtual 239, 3) := by decide +kernel
theorem dX9_place_91 : decode cX9_place 91 = .ok (.iconst 1, 1) := by decide +kernel
theorem dX9_place_92 : decode cX9_place 92 = .ok (.iadd, 1) := by decide +kernel
theorem dX9_place_93 : decode cX9_place 93 = .ok (.iadd, 1) := by decide +kernel
theorem dX9_place_94 : decode cX9_place 94 = .ok (.putfield 266, 3) := by decide +kernel
theorem dX9_place_97 : decode cX9_place 97 = .ok (.aload_n 0, 1) := by decide +kernel
theorem dX9_place_98 : decode cX9_place 98 = .ok (.getfield 115, 3) := by decide +kernel
theorem dX9_place_101 : decode cX9_place 101 = .ok (.aload_n 0, 1) := by decide +kernel
theorem dX9_place_102 : decode cX9_place 102 = .ok (.getfield 263, 3) := by decide +kernel
theorem dX9_place_105 : decode cX9_place 105 = .ok (.iconst 1, 1) := by decide +kernel
theorem dX9_place_106 : decode cX9_place 106 = .ok (.isub, 1) := by decide +kernel
theorem dX9_place_107 : decode cX9_place 107 = .ok (.iaload, 1) := by decide +kernel
theorem dX9_place_108 : decode cX9_place 108 = .ok (.ireturn, 1) := by decide +kernel
theorem dX9_folded_0 : decode cX9_folded 0 = .ok (.lload_n 1, 1) := by decide +kernel
theorem dX9_folded_1 : decode cX9_folded 1 = .ok (.lconst 0, 1) := by decide +kernel
theorem dX9_folded_2 : decode cX9_folded 2 = .ok (.lcmp, 1) := by decide +kernel
theorem dX9_folded_3 : decode cX9_folded 3 = .ok (.ifCond .ne 7, 3) := by decide +kernel
theorem dX9_folded_6 : decode cX9_folded 6 = .ok (.lconst 0, 1) := by decide +kernel
theorem dX9_folded_7 : decode cX9_folded 7 = .ok (.goto 11, 3) := by decide +kernel
theorem dX9_folded_10 : decode cX9_folded 10 = .ok (.aload_n 0, 1) := by decide +kernel
theorem dX9_folded_11 : decode cX9_folded 11 = .ok (.getfield 102, 3) := by decide +kernel
theorem dX9_folded_14 : decode cX9_folded 14 = .ok (.lload_n 1, 1) := by decide +kernel
theorem dX9_folded_15 : decode cX9_folded 15 = .ok (.l2i, 1) := by decide +kernel
theorem dX9_folded_16 : decode cX9_folded 16 = .ok (.iaload, 1) := by decide +kernel
theorem dX9_folded_17 : decode cX9_folded 17 = .ok (.i2l, 1) := by decide +kernel
theorem dX9_folded_18 : decode cX9_folded 18 = .ok (.lreturn, 1) := by decide +kernel
theorem dX9_writes_0 : decode cX9_writes 0 = .ok (.aload_n 0, 1) := by decide +kernel
theorem dX9_writes_1 : decode cX9_writes 1 = .ok (.getfield 25, 3) := by decide +kernel
theorem dX9_writes_4 : decode cX9_writes 4 = .ok (.iload_n 1, 1) := by decide +kernel
theorem dX9_writes_5 : decode cX9_writes 5 = .ok (.iaload, 1) := by decide +kernel
theorem dX9_writes_6 : decode cX9_writes 6 = .ok (.istore_n 2, 1) := by decide +kernel
theorem dX9_writes_7 : decode cX9_writes 7 = .ok (.aload_n 0, 1) := by decide +kernel
theorem dX9_writes_8 : decode cX9_writes 8 = .ok (.aload_n 0, 1) := by decide +kernel
theorem dX9_writes_9 : decode cX9_writes 9 = .ok (.aload_n 0, 1) := by decide +kernel
theorem dX9_writes_10 : decode cX9_writes 10 = .ok (.getfield 22, 3) := by decide +kernel
theorem dX9_writes_13 : decode cX9_writes 13 = .ok (.iload_n 1, 1) := by decide +kernel
theorem dX9_writes_14 : decode cX9_writes 14 = .ok (.iaload, 1) := by decide +kernel
theorem dX9_writes_15 : decode cX9_writes 15 = .ok (.invokevirtual 269, 3) := by decide +kernel
theorem dX9_writes_18 : decode cX9_writes 18 = .ok (.i2l, 1) := by decide +kernel
theorem dX9_writes_19 : decode cX9_writes 19 = .ok (.iconst 4, 1) := by decide +kernel
theorem dX9_writes_20 : decode cX9_writes 20 = .ok (.invokevirtual 272, 3) := by decide +kernel
theorem dX9_writes_23 : decode cX9_writes 23 = .ok (.aload_n 0, 1) := by decide +kernel
theorem dX9_writes_24 : decode cX9_writes 24 = .ok (.aload_n 0, 1) := by decide +kernel
theorem dX9_writes_25 : decode cX9_writes 25 = .ok (.getfield 28, 3) := by decide +kernel
theorem dX9_writes_28 : decode cX9_writes 28 = .ok (.iload_n 1, 1) := by decide +kernel
theorem dX9_writes_29 : decode cX9_writes 29 = .ok (.iaload, 1) := by decide +kernel
theorem dX9_writes_30 : decode cX9_writes 30 = .ok (.i2l, 1) := by decide +kernel
theorem dX9_writes_31 : decode cX9_writes 31 = .ok (.iconst 2, 1) := by decide +kernel
theorem dX9_writes_32 : decode cX9_writes 32 = .ok (.invokevirtual 272, 3) := by decide +kernel
theorem dX9_writes_35 : decode cX9_writes 35 = .ok (.aload_n 0, 1) := by decide +kernel
theorem dX9_writes_36 : decode cX9_writes 36 = .ok (.lconst 0, 1) := by decide +kernel
theorem dX9_writes_37 : decode cX9_writes 37 = .ok (.iconst 1, 1) := by decide +kernel
theorem dX9_writes_38 : decode cX9_writes 38 = .ok (.invokevirtual 272, 3) := by decide +kernel
theorem dX9_writes_41 : decode cX9_writes 41 = .ok (.aload_n 0, 1) := by decide +kernel
theorem dX9_writes_42 : decode cX9_writes 42 = .ok (.sipush 128, 3) := by decide +kernel
theorem dX9_writes_45 : decode cX9_writes 45 = .ok (.aload_n 0, 1) := by decide +kernel
theorem dX9_writes_46 : decode cX9_writes 46 = .ok (.getfield 31, 3) := by decide +kernel
theorem dX9_writes_49 : decode cX9_writes 49 = .ok (.iload_n 1, 1) := by decide +kernel
theorem dX9_writes_50 : decode cX9_writes 50 = .ok (.iaload, 1) := by decide +kernel
theorem dX9_writes_51 : decode cX9_writes 51 = .ok (.imul, 1) := by decide +kernel
theorem dX9_writes_52 : decode cX9_writes 52 = .ok (.iload_n 2, 1) := by decide +kernel
theorem dX9_writes_53 : decode cX9_writes 53 = .ok (.iadd, 1) := by decide +kernel
theorem dX9_writes_54 : decode cX9_writes 54 = .ok (.i2l, 1) := by decide +kernel
theorem dX9_writes_55 : decode cX9_writes 55 = .ok (.iconst 1, 1) := by decide +kernel
theorem dX9_writes_56 : decode cX9_writes 56 = .ok (.invokevirtual 272, 3) := by decide +kernel
theorem dX9_writes_59 : decode cX9_writes 59 = .ok (.aload_n 0, 1) := by decide +kernel
theorem dX9_writes_60 : decode cX9_writes 60 = .ok (.iload_n 2, 1) := by decide +kernel
theorem dX9_writes_61 : decode cX9_writes 61 = .ok (.invokestatic 190, 3) := by decide +kernel
theorem dX9_writes_64 : decode cX9_writes 64 = .ok (.ifCond .eq 16, 3) := by decide +kernel
theorem dX9_writes_67 : decode cX9_writes 67 = .ok (.aload_n 0, 1) := by decide +kernel
theorem dX9_writes_68 : decode cX9_writes 68 = .ok (.aload_n 0, 1) := by decide +kernel
theorem dX9_writes_69 : decode cX9_writes 69 = .ok (.getfield 34, 3) := by decide +kernel
theorem dX9_writes_72 : decode cX9_writes 72 = .ok (.iload_n 1, 1) := by decide +kernel
theorem dX9_writes_73 : decode cX9_writes 73 = .ok (.laload, 1) := by decide +kernel
theorem dX9_writes_74 : decode cX9_writes 74 = .ok (.invokevirtual 276, 3) := by decide +kernel
theorem dX9_writes_77 : decode cX9_writes 77 = .ok (.goto 9, 3) := by decide +kernel
theorem dX9_writes_80 : decode cX9_writes 80 = .ok (.aload_n 0, 1) := by decide +kernel
theorem dX9_writes_81 : decode cX9_writes 81 = .ok (.getfield 34, 3) := by decide +kernel
theorem dX9_writes_84 : decode cX9_writes 84 = .ok (.iload_n 1, 1) := by decide +kernel
theorem dX9_writes_85 : decode cX9_writes 85 = .ok (.laload, 1) := by decide +kernel
theorem dX9_writes_86 : decode cX9_writes 86 = .ok (.iconst 4, 1) := by decide +kernel
theorem dX9_writes_87 : decode cX9_writes 87 = .ok (.invokevirtual 272, 3) := by decide +kernel
theorem dX9_writes_90 : decode cX9_writes 90 = .ok (.iload_n 2, 1) := by decide +kernel
theorem dX9_writes_91 : decode cX9_writes 91 = .ok (.iconst 1, 1) := by decide +kernel
theorem dX9_writes_92 : decode cX9_writes 92 = .ok (.if_icmp .ne 14, 3) := by decide +kernel
theorem dX9_writes_95 : decode cX9_writes 95 = .ok (.aload_n 0, 1) := by decide +kernel
theorem dX9_writes_96 : decode cX9_writes 96 = .ok (.aload_n 0, 1) := by decide +kernel
theorem dX9_writes_97 : decode cX9_writes 97 = .ok (.getfield 38, 3) := by decide +kernel
theorem dX9_writes_100 : decode cX9_writes 100 = .ok (.iload_n 1, 1) := by decide +kernel
theorem dX9_writes_101 : decode cX9_writes 101 = .ok (.laload, 1) := by decide +kernel
theorem dX9_writes_102 : decode cX9_writes 102 = .ok (.iconst 4, 1) := by decide +kernel
theorem dX9_writes_103 : decode cX9_writes 103 = .ok (.invokevirtual 272, 3) := by decide +kernel
theorem dX9_writes_106 : decode cX9_writes 106 = .ok (.iload_n 2, 1) := by decide +kernel
theorem dX9_writes_107 : decode cX9_writes 107 = .ok (.iconst 3, 1) := by decide +kernel
theorem dX9_writes_108 : decode cX9_writes 108 = .ok (.if_icmp .ne 44, 3) := by decide +kernel
theorem dX9_writes_111 : decode cX9_writes 111 = .ok (.aload_n 0, 1) := by decide +kernel
theorem dX9_writes_112 : decode cX9_writes 112 = .ok (.aload_n 0, 1) := by decide +kernel
theorem dX9_writes_113 : decode cX9_writes 113 = .ok (.aload_n 0, 1) := by decide +kernel
theorem dX9_writes_114 : decode cX9_writes 114 = .ok (.getfield 41, 3) := by decide +kernel
theorem dX9_writes_117 : decode cX9_writes 117 = .ok (.iload_n 1, 1) := by decide +kernel
theorem dX9_writes_118 : decode cX9_writes 118 = .ok (.laload, 1) := by decide +kernel
theorem dX9_writes_119 : decode cX9_writes 119 = .ok (.invokevirtual 276, 3) := by decide +kernel
theorem dX9_writes_122 : decode cX9_writes 122 = .ok (.iconst 4, 1) := by decide +kernel
theorem dX9_writes_123 : decode cX9_writes 123 = .ok (.invokevirtual 272, 3) := by decide +kernel
theorem dX9_writes_126 : decode cX9_writes 126 = .ok (.aload_n 0, 1) := by decide +kernel
theorem dX9_writes_127 : decode cX9_writes 127 = .ok (.aload_n 0, 1) := by decide +kernel
theorem dX9_writes_128 : decode cX9_writes 128 = .ok (.aload_n 0, 1) := by decide +kernel
theorem dX9_writes_129 : decode cX9_writes 129 = .ok (.getfield 44, 3) := by decide +kernel
theorem dX9_writes_132 : decode cX9_writes 132 = .ok (.iload_n 1, 1) := by decide +kernel
theorem dX9_writes_133 : decode cX9_writes 133 = .ok (.laload, 1) := by decide +kernel
theorem dX9_writes_134 : decode cX9_writes 134 = .ok (.invokevirtual 276, 3) := by decide +kernel
theorem dX9_writes_137 : decode cX9_writes 137 = .ok (.iconst 4, 1) := by decide +kernel
theorem dX9_writes_138 : decode cX9_writes 138 = .ok (.invokevirtual 272, 3) := by decide +kernel
theorem dX9_writes_141 : decode cX9_writes 141 = .ok (.aload_n 0, 1) := by decide +kernel
theorem dX9_writes_142 : decode cX9_writes 142 = .ok (.aload_n 0, 1) := by decide +kernel
theorem dX9_writes_143 : decode cX9_writes 143 = .ok (.getfield 38, 3) := by decide +kernel
theorem dX9_writes_146 : decode cX9_writes 146 = .ok (.iload_n 1, 1) := by decide +kernel
theorem dX9_writes_147 : decode cX9_writes 147 = .ok (.laload, 1) := by decide +kernel
theorem dX9_writes_148 : decode cX9_writes 148 = .ok (.iconst 4, 1) := by decide +kernel
theorem dX9_writes_149 : decode cX9_writes 149 = .ok (.invokevirtual 272, 3) := by decide +kernel
theorem dX9_writes_152 : decode cX9_writes 152 = .ok (.aload_n 0, 1) := by decide +kernel
theorem dX9_writes_153 : decode cX9_writes 153 = .ok (.getfield 47, 3) := by decide +kernel
theorem dX9_writes_156 : decode cX9_writes 156 = .ok (.iload_n 1, 1) := by decide +kernel
theorem dX9_writes_157 : decode cX9_writes 157 = .ok (.iaload, 1) := by decide +kernel
theorem dX9_writes_158 : decode cX9_writes 158 = .ok (.istore_n 3, 1) := by decide +kernel
theorem dX9_writes_159 : decode cX9_writes 159 = .ok (.iload_n 3, 1) := by decide +kernel
theorem dX9_writes_160 : decode cX9_writes 160 = .ok (.aload_n 0, 1) := by decide +kernel
theorem dX9_writes_161 : decode cX9_writes 161 = .ok (.getfield 47, 3) := by decide +kernel
theorem dX9_writes_164 : decode cX9_writes 164 = .ok (.iload_n 1, 1) := by decide +kernel
theorem dX9_writes_165 : decode cX9_writes 165 = .ok (.iconst 1, 1) := by decide +kernel
theorem dX9_writes_166 : decode cX9_writes 166 = .ok (.iadd, 1) := by decide +kernel
theorem dX9_writes_167 : decode cX9_writes 167 = .ok (.iaload, 1) := by decide +kernel
theorem dX9_writes_168 : decode cX9_writes 168 = .ok (.if_icmp .ge 63, 3) := by decide +kernel
theorem dX9_writes_171 : decode cX9_writes 171 = .ok (.aload_n 0, 1) := by decide +kernel
theorem dX9_writes_172 : decode cX9_writes 172 = .ok (.aload_n 0, 1) := by decide +kernel
theorem dX9_writes_173 : decode cX9_writes 173 = .ok (.aload_n 0, 1) := by decide +kernel
theorem dX9_writes_174 : decode cX9_writes 174 = .ok (.getfield 50, 3) := by decide +kernel
theorem dX9_writes_177 : decode cX9_writes 177 = .ok (.iload_n 3, 1) := by decide +kernel
theorem dX9_writes_178 : decode cX9_writes 178 = .ok (.iaload, 1) := by decide +kernel
theorem dX9_writes_179 : decode cX9_writes 179 = .ok (.invokevirtual 269, 3) := by decide +kernel
theorem dX9_writes_182 : decode cX9_writes 182 = .ok (.i2l, 1) := by decide +kernel
theorem dX9_writes_183 : decode cX9_writes 183 = .ok (.iconst 4, 1) := by decide +kernel
theorem dX9_writes_184 : decode cX9_writes 184 = .ok (.invokevirtual 272, 3) := by decide +kernel
theorem dX9_writes_187 : decode cX9_writes 187 = .ok (.iload_n 2, 1) := by decide +kernel
theorem dX9_writes_188 : decode cX9_writes 188 = .ok (.bipush 6, 2) := by decide +kernel
theorem dX9_writes_190 : decode cX9_writes 190 = .ok (.if_icmp .eq 18, 3) := by decide +kernel
theorem dX9_writes_193 : decode cX9_writes 193 = .ok (.aload_n 0, 1) := by decide +kernel
theorem dX9_writes_194 : decode cX9_writes 194 = .ok (.aload_n 0, 1) := by decide +kernel
theorem dX9_writes_195 : decode cX9_writes 195 = .ok (.aload_n 0, 1) := by decide +kernel
theorem dX9_writes_196 : decode cX9_writes 196 = .ok (.getfield 53, 3) := by decide +kernel
theorem dX9_writes_199 : decode cX9_writes 199 = .ok (.iload_n 3, 1) := by decide +kernel
theorem dX9_writes_200 : decode cX9_writes 200 = .ok (.laload, 1) := by decide +kernel
theorem dX9_writes_201 : decode cX9_writes 201 = .ok (.invokevirtual 276, 3) := by decide +kernel
theorem dX9_writes_204 : decode cX9_writes 204 = .ok (.iconst 4, 1) := by decide +kernel
theorem dX9_writes_205 : decode cX9_writes 205 = .ok (.invokevirtual 272, 3) := by decide +kernel
theorem dX9_writes_208 : decode cX9_writes 208 = .ok (.iload_n 2, 1) := by decide +kernel
theorem dX9_writes_209 : decode cX9_writes 209 = .ok (.bipush 13, 2) := by decide +kernel
theorem dX9_writes_211 : decode cX9_writes 211 = .ok (.if_icmp .eq 14, 3) := by decide +kernel
theorem dX9_writes_214 : decode cX9_writes 214 = .ok (.aload_n 0, 1) := by decide +kernel
theorem dX9_writes_215 : decode cX9_writes 215 = .ok (.aload_n 0, 1) := by decide +kernel
theorem dX9_writes_216 : decode cX9_writes 216 = .ok (.getfield 56, 3) := by decide +kernel
theorem dX9_writes_219 : decode cX9_writes 219 = .ok (.iload_n 3, 1) := by decide +kernel
theorem dX9_writes_220 : decode cX9_writes 220 = .ok (.laload, 1) := by decide +kernel
theorem dX9_writes_221 : decode cX9_writes 221 = .ok (.iconst 4, 1) := by decide +kernel
theorem dX9_writes_222 : decode cX9_writes 222 = .ok (.invokevirtual 272, 3) := by decide +kernel
theorem dX9_writes_225 : decode cX9_writes 225 = .ok (.iinc 3 1, 3) := by decide +kernel
theorem dX9_writes_228 : decode cX9_writes 228 = .ok (.goto (-69), 3) := by decide +kernel
theorem dX9_writes_231 : decode cX9_writes 231 = .ok (.return_, 1) := by decide +kernel
theorem dX9_write_0 : decode cX9_write 0 = .ok (.aload_n 0, 1) := by decide +kernel
theorem dX9_write_1 : decode cX9_write 1 = .ok (.aload_n 0, 1) := by decide +kernel
theorem dX9_write_2 : decode cX9_write 2 = .ok (.getfield 203, 3) := by decide +kernel
theorem dX9_write_5 : decode cX9_write 5 = .ok (.ifCond .ne 7, 3) := by decide +kernel
theorem dX9_write_8 : decode cX9_write 8 = .ok (.iconst 1, 1) := by decide +kernel
theorem dX9_write_9 : decode cX9_write 9 = .ok (.goto 4, 3) := by decide +kernel
theorem dX9_write_12 : decode cX9_write 12 = .ok (.iconst 0, 1) := by decide +kernel
theorem dX9_write_13 : decode cX9_write 13 = .ok (.iconst 1, 1) := by decide +kernel
theorem dX9_write_14 : decode cX9_write 14 = .ok (.invokevirtual 233, 3) := by decide +kernel
theorem dX9_write_17 : decode cX9_write 17 = .ok (.ifCond .eq 5, 3) := by decide +kernel
theorem dX9_write_20 : decode cX9_write 20 = .ok (.iconst 0, 1) := by decide +kernel
theorem dX9_write_21 : decode cX9_write 21 = .ok (.ireturn, 1) := by decide +kernel
theorem dX9_write_22 : decode cX9_write 22 = .ok (.aload_n 0, 1) := by decide +kernel
theorem dX9_write_23 : decode cX9_write 23 = .ok (.bipush 24, 2) := by decide +kernel
theorem dX9_write_25 : decode cX9_write 25 = .ok (.putfield 260, 3) := by decide +kernel
theorem dX9_write_28 : decode cX9_write 28 = .ok (.aload_n 0, 1) := by decide +kernel
theorem dX9_write_29 : decode cX9_write 29 = .ok (.iconst 0, 1) := by decide +kernel
theorem dX9_write_30 : decode cX9_write 30 = .ok (.putfield 263, 3) := by decide +kernel
theorem dX9_write_33 : decode cX9_write 33 = .ok (.aload_n 0, 1) := by decide +kernel
theorem dX9_write_34 : decode cX9_write 34 = .ok (.iconst 1, 1) := by decide +kernel
theorem dX9_write_35 : decode cX9_write 35 = .ok (.putfield 266, 3) := by decide +kernel
theorem dX9_write_38 : decode cX9_write 38 = .ok (.iconst 1, 1) := by decide +kernel
theorem dX9_write_39 : decode cX9_write 39 = .ok (.istore_n 1, 1) := by decide +kernel
theorem dX9_write_40 : decode cX9_write 40 = .ok (.iload_n 1, 1) := by decide +kernel
theorem dX9_write_41 : decode cX9_write 41 = .ok (.aload_n 0, 1) := by decide +kernel
theorem dX9_write_42 : decode cX9_write 42 = .ok (.getfield 203, 3) := by decide +kernel
theorem dX9_write_45 : decode cX9_write 45 = .ok (.if_icmp .gt 24, 3) := by decide +kernel
theorem dX9_write_48 : decode cX9_write 48 = .ok (.aload_n 0, 1) := by decide +kernel
theorem dX9_write_49 : decode cX9_write 49 = .ok (.getfield 99, 3) := by decide +kernel
theorem dX9_write_52 : decode cX9_write 52 = .ok (.iload_n 1, 1) := by decide +kernel
theorem dX9_write_53 : decode cX9_write 53 = .ok (.iaload, 1) := by decide +kernel
theorem dX9_write_54 : decode cX9_write 54 = .ok (.iload_n 1, 1) := by decide +kernel
theorem dX9_write_55 : decode cX9_write 55 = .ok (.if_icmp .ne 8, 3) := by decide +kernel
theorem dX9_write_58 : decode cX9_write 58 = .ok (.aload_n 0, 1) := by decide +kernel
theorem dX9_write_59 : decode cX9_write 59 = .ok (.iload_n 1, 1) := by decide +kernel
theorem dX9_write_60 : decode cX9_write 60 = .ok (.invokevirtual 280, 3) := by decide +kernel
theorem dX9_write_63 : decode cX9_write 63 = .ok (.iinc 1 1, 3) := by decide +kernel
theorem dX9_write_66 : decode cX9_write 66 = .ok (.goto (-26), 3) := by decide +kernel
theorem dX9_write_69 : decode cX9_write 69 = .ok (.aload_n 0, 1) := by decide +kernel
theorem dX9_write_70 : decode cX9_write 70 = .ok (.getfield 260, 3) := by decide +kernel
theorem dX9_write_73 : decode cX9_write 73 = .ok (.bipush 24, 2) := by decide +kernel
theorem dX9_write_75 : decode cX9_write 75 = .ok (.isub, 1) := by decide +kernel
theorem dX9_write_76 : decode cX9_write 76 = .ok (.istore_n 1, 1) := by decide +kernel
theorem dX9_write_77 : decode cX9_write 77 = .ok (.aload_n 0, 1) := by decide +kernel
theorem dX9_write_78 : decode cX9_write 78 = .ok (.lconst 0, 1) := by decide +kernel
theorem dX9_write_79 : decode cX9_write 79 = .ok (.iconst 1, 1) := by decide +kernel
theorem dX9_write_80 : decode cX9_write 80 = .ok (.invokevirtual 272, 3) := by decide +kernel
theorem dX9_write_83 : decode cX9_write 83 = .ok (.iconst 0, 1) := by decide +kernel
theorem dX9_write_84 : decode cX9_write 84 = .ok (.istore_n 2, 1) := by decide +kernel
theorem dX9_write_85 : decode cX9_write 85 = .ok (.iload_n 2, 1) := by decide +kernel
theorem dX9_write_86 : decode cX9_write 86 = .ok (.aload_n 0, 1) := by decide +kernel
theorem dX9_write_87 : decode cX9_write 87 = .ok (.getfield 263, 3) := by decide +kernel
theorem dX9_write_90 : decode cX9_write 90 = .ok (.if_icmp .ge 58, 3) := by decide +kernel
theorem dX9_write_93 : decode cX9_write 93 = .ok (.iconst 0, 1) := by decide +kernel
theorem dX9_write_94 : decode cX9_write 94 = .ok (.istore_n 3, 1) := by decide +kernel
theorem dX9_write_95 : decode cX9_write 95 = .ok (.aload_n 0, 1) := by decide +kernel
theorem dX9_write_96 : decode cX9_write 96 = .ok (.getfield 19, 3) := by decide +kernel
theorem dX9_write_99 : decode cX9_write 99 = .ok (.aload_n 0, 1) := by decide +kernel
theorem dX9_write_100 : decode cX9_write 100 = .ok (.getfield 112, 3) := by decide +kernel
theorem dX9_write_103 : decode cX9_write 103 = .ok (.iload_n 2, 1) := by decide +kernel
theorem dX9_write_104 : decode cX9_write 104 = .ok (.iaload, 1) := by decide +kernel
theorem dX9_write_105 : decode cX9_write 105 = .ok (.iload_n 3, 1) := by decide +kernel
theorem dX9_write_106 : decode cX9_write 106 = .ok (.iadd, 1) := by decide +kernel
theorem dX9_write_107 : decode cX9_write 107 = .ok (.iaload, 1) := by decide +kernel
theorem dX9_write_108 : decode cX9_write 108 = .ok (.ifCond .eq 28, 3) := by decide +kernel
theorem dX9_write_111 : decode cX9_write 111 = .ok (.aload_n 0, 1) := by decide +kernel
theorem dX9_write_112 : decode cX9_write 112 = .ok (.aload_n 0, 1) := by decide +kernel
theorem dX9_write_113 : decode cX9_write 113 = .ok (.getfield 19, 3) := by decide +kernel
theorem dX9_write_116 : decode cX9_write 116 = .ok (.aload_n 0, 1) := by decide +kernel
theorem dX9_write_117 : decode cX9_write 117 = .ok (.getfield 112, 3) := by decide +kernel
theorem dX9_write_120 : decode cX9_write 120 = .ok (.iload_n 2, 1) := by decide +kernel
theorem dX9_write_121 : decode cX9_write 121 = .ok (.iaload, 1) := by decide +kernel
theorem dX9_write_122 : decode cX9_write 122 = .ok (.iload_n 3, 1) := by decide +kernel
theorem dX9_write_123 : decode cX9_write 123 = .ok (.iadd, 1) := by decide +kernel
theorem dX9_write_124 : decode cX9_write 124 = .ok (.iaload, 1) := by decide +kernel
theorem dX9_write_125 : decode cX9_write 125 = .ok (.i2l, 1) := by decide +kernel
theorem dX9_write_126 : decode cX9_write 126 = .ok (.iconst 1, 1) := by decide +kernel
theorem dX9_write_127 : decode cX9_write 127 = .ok (.invokevirtual 272, 3) := by decide +kernel
theorem dX9_write_130 : decode cX9_write 130 = .ok (.iinc 3 1, 3) := by decide +kernel
theorem dX9_write_133 : decode cX9_write 133 = .ok (.goto (-38), 3) := by decide +kernel
theorem dX9_write_136 : decode cX9_write 136 = .ok (.aload_n 0, 1) := by decide +kernel
theorem dX9_write_137 : decode cX9_write 137 = .ok (.lconst 0, 1) := by decide +kernel
theorem dX9_write_138 : decode cX9_write 138 = .ok (.iconst 1, 1) := by decide +kernel
theorem dX9_write_139 : decode cX9_write 139 = .ok (.invokevirtual 272, 3) := by decide +kernel
theorem dX9_write_142 : decode cX9_write 142 = .ok (.iinc 2 1, 3) := by decide +kernel
theorem dX9_write_145 : decode cX9_write 145 = .ok (.goto (-60), 3) := by decide +kernel
theorem dX9_write_148 : decode cX9_write 148 = .ok (.aload_n 0, 1) := by decide +kernel
theorem dX9_write_149 : decode cX9_write 149 = .ok (.getfield 260, 3) := by decide +kernel
theorem dX9_write_152 : decode cX9_write 152 = .ok (.istore_n 2, 1) := by decide +kernel
theorem dX9_write_153 : decode cX9_write 153 = .ok (.iload_n 2, 1) := by decide +kernel
theorem dX9_write_154 : decode cX9_write 154 = .ok (.sipush 16384, 3) := by decide +kernel
theorem dX9_write_157 : decode cX9_write 157 = .ok (.if_icmp .le 5, 3) := by decide +kernel
theorem dX9_write_160 : decode cX9_write 160 = .ok (.iconst (-1), 1) := by decide +kernel
theorem dX9_write_161 : decode cX9_write 161 = .ok (.ireturn, 1) := by decide +kernel
theorem dX9_write_162 : decode cX9_write 162 = .ok (.aload_n 0, 1) := by decide +kernel
theorem dX9_write_163 : decode cX9_write 163 = .ok (.iconst 0, 1) := by decide +kernel
theorem dX9_write_164 : decode cX9_write 164 = .ok (.putfield 260, 3) := by decide +kernel
theorem dX9_write_167 : decode cX9_write 167 = .ok (.aload_n 0, 1) := by decide +kernel
theorem dX9_write_168 : decode cX9_write 168 = .ok (.ldc2_w 138, 3) := by decide +kernel
theorem dX9_write_171 : decode cX9_write 171 = .ok (.iconst 2, 1) := by decide +kernel
theorem dX9_write_172 : decode cX9_write 172 = .ok (.invokevirtual 272, 3) := by decide +kernel
theorem dX9_write_175 : decode cX9_write 175 = .ok (.aload_n 0, 1) := by decide +kernel
theorem dX9_write_176 : decode cX9_write 176 = .ok (.lconst 1, 1) := by decide +kernel
theorem dX9_write_177 : decode cX9_write 177 = .ok (.iconst 2, 1) := by decide +kernel
theorem dX9_write_178 : decode cX9_write 178 = .ok (.invokevirtual 272, 3) := by decide +kernel
theorem dX9_write_181 : decode cX9_write 181 = .ok (.aload_n 0, 1) := by decide +kernel
theorem dX9_write_182 : decode cX9_write 182 = .ok (.ldc2_w 140, 3) := by decide +kernel
theorem dX9_write_185 : decode cX9_write 185 = .ok (.iconst 4, 1) := by decide +kernel
theorem dX9_write_186 : decode cX9_write 186 = .ok (.invokevirtual 272, 3) := by decide +kernel
theorem dX9_write_189 : decode cX9_write 189 = .ok (.aload_n 0, 1) := by decide +kernel
theorem dX9_write_190 : decode cX9_write 190 = .ok (.lconst 0, 1) := by decide +kernel
theorem dX9_write_191 : decode cX9_write 191 = .ok (.iconst 4, 1) := by decide +kernel
theorem dX9_write_192 : decode cX9_write 192 = .ok (.invokevirtual 272, 3) := by decide +kernel
theorem dX9_write_195 : decode cX9_write 195 = .ok (.aload_n 0, 1) := by decide +kernel
theorem dX9_write_196 : decode cX9_write 196 = .ok (.iload_n 1, 1) := by decide +kernel
theorem dX9_write_197 : decode cX9_write 197 = .ok (.i2l, 1) := by decide +kernel
theorem dX9_write_198 : decode cX9_write 198 = .ok (.iconst 4, 1) := by decide +kernel
theorem dX9_write_199 : decode cX9_write 199 = .ok (.invokevirtual 272, 3) := by decide +kernel
theorem dX9_write_202 : decode cX9_write 202 = .ok (.aload_n 0, 1) := by decide +kernel
theorem dX9_write_203 : decode cX9_write 203 = .ok (.iload_n 1, 1) := by decide +kernel
theorem dX9_write_204 : decode cX9_write 204 = .ok (.i2l, 1) := by decide +kernel
theorem dX9_write_205 : decode cX9_write 205 = .ok (.iconst 4, 1) := by decide +kernel
theorem dX9_write_206 : decode cX9_write 206 = .ok (.invokevirtual 272, 3) := by decide +kernel
theorem dX9_write_209 : decode cX9_write 209 = .ok (.aload_n 0, 1) := by decide +kernel
theorem dX9_write_210 : decode cX9_write 210 = .ok (.aload_n 0, 1) := by decide +kernel
theorem dX9_write_211 : decode cX9_write 211 = .ok (.getfield 266, 3) := by decide +kernel
theorem dX9_write_214 : decode cX9_write 214 = .ok (.i2l, 1) := by decide +kernel
theorem dX9_write_215 : decode cX9_write 215 = .ok (.iconst 4, 1) := by decide +kernel
theorem dX9_write_216 : decode cX9_write 216 = .ok (.invokevirtual 272, 3) := by decide +kernel
theorem dX9_write_219 : decode cX9_write 219 = .ok (.iconst 0, 1) := by decide +kernel
theorem dX9_write_220 : decode cX9_write 220 = .ok (.istore_n 3, 1) := by decide +kernel
theorem dX9_write_221 : decode cX9_write 221 = .ok (.iload_n 3, 1) := by decide +kernel
theorem dX9_write_222 : decode cX9_write 222 = .ok (.iload_n 2, 1) := by decide +kernel
theorem dX9_write_223 : decode cX9_write 223 = .ok (.if_icmp .ge 21, 3) := by decide +kernel
theorem dX9_write_226 : decode cX9_write 226 = .ok (.aload_n 0, 1) := by decide +kernel
theorem dX9_write_227 : decode cX9_write 227 = .ok (.getfield 13, 3) := by decide +kernel
theorem dX9_write_230 : decode cX9_write 230 = .ok (.iload_n 3, 1) := by decide +kernel
theorem dX9_write_231 : decode cX9_write 231 = .ok (.aload_n 0, 1) := by decide +kernel
theorem dX9_write_232 : decode cX9_write 232 = .ok (.getfield 16, 3) := by decide +kernel
theorem dX9_write_235 : decode cX9_write 235 = .ok (.iload_n 3, 1) := by decide +kernel
theorem dX9_write_236 : decode cX9_write 236 = .ok (.iaload, 1) := by decide +kernel
theorem dX9_write_237 : decode cX9_write 237 = .ok (.iastore, 1) := by decide +kernel
theorem dX9_write_238 : decode cX9_write 238 = .ok (.iinc 3 1, 3) := by decide +kernel
theorem dX9_write_241 : decode cX9_write 241 = .ok (.goto (-20), 3) := by decide +kernel
theorem dX9_write_244 : decode cX9_write 244 = .ok (.aload_n 0, 1) := by decide +kernel
theorem dX9_write_245 : decode cX9_write 245 = .ok (.iload_n 2, 1) := by decide +kernel
theorem dX9_write_246 : decode cX9_write 246 = .ok (.putfield 284, 3) := by decide +kernel
theorem dX9_write_249 : decode cX9_write 249 = .ok (.iload_n 2, 1) := by decide +kernel
theorem dX9_write_250 : decode cX9_write 250 = .ok (.ireturn, 1) := by decide +kernel
theorem dX9_name_0 : decode cX9_name 0 = .ok (.aload_n 0, 1) := by decide +kernel
theorem dX9_name_1 : decode cX9_name 1 = .ok (.iload_n 1, 1) := by decide +kernel
theorem dX9_name_2 : decode cX9_name 2 = .ok (.i2l, 1) := by decide +kernel
theorem dX9_name_3 : decode cX9_name 3 = .ok (.lconst 1, 1) := by decide +kernel
theorem dX9_name_4 : decode cX9_name 4 = .ok (.aload_n 0, 1) := by decide +kernel
theorem dX9_name_5 : decode cX9_name 5 = .ok (.getfield 203, 3) := by decide +kernel
theorem dX9_name_8 : decode cX9_name 8 = .ok (.i2l, 1) := by decide +kernel
theorem dX9_name_9 : decode cX9_name 9 = .ok (.invokestatic 174, 3) := by decide +kernel
theorem dX9_name_12 : decode cX9_name 12 = .ok (.ifCond .ne 7, 3) := by decide +kernel
theorem dX9_name_15 : decode cX9_name 15 = .ok (.iconst 1, 1) := by decide +kernel
theorem dX9_name_16 : decode cX9_name 16 = .ok (.goto 4, 3) := by decide +kernel
theorem dX9_name_19 : decode cX9_name 19 = .ok (.iconst 0, 1) := by decide +kernel
theorem dX9_name_20 : decode cX9_name 20 = .ok (.iconst 1, 1) := by decide +kernel
theorem dX9_name_21 : decode cX9_name 21 = .ok (.invokevirtual 233, 3) := by decide +kernel
theorem dX9_name_24 : decode cX9_name 24 = .ok (.ifCond .eq 5, 3) := by decide +kernel
theorem dX9_name_27 : decode cX9_name 27 = .ok (.iconst 0, 1) := by decide +kernel
theorem dX9_name_28 : decode cX9_name 28 = .ok (.ireturn, 1) := by decide +kernel
theorem dX9_name_29 : decode cX9_name 29 = .ok (.aload_n 0, 1) := by decide +kernel
theorem dX9_name_30 : decode cX9_name 30 = .ok (.aload_n 0, 1) := by decide +kernel
theorem dX9_name_31 : decode cX9_name 31 = .ok (.aload_n 0, 1) := by decide +kernel
theorem dX9_name_32 : decode cX9_name 32 = .ok (.getfield 22, 3) := by decide +kernel
theorem dX9_name_35 : decode cX9_name 35 = .ok (.iload_n 1, 1) := by decide +kernel
theorem dX9_name_36 : decode cX9_name 36 = .ok (.iaload, 1) := by decide +kernel
theorem dX9_name_37 : decode cX9_name 37 = .ok (.invokevirtual 239, 3) := by decide +kernel
theorem dX9_name_40 : decode cX9_name 40 = .ok (.putfield 284, 3) := by decide +kernel
theorem dX9_name_43 : decode cX9_name 43 = .ok (.iconst 0, 1) := by decide +kernel
theorem dX9_name_44 : decode cX9_name 44 = .ok (.istore_n 2, 1) := by decide +kernel
theorem dX9_name_45 : decode cX9_name 45 = .ok (.iload_n 2, 1) := by decide +kernel
theorem dX9_name_46 : decode cX9_name 46 = .ok (.aload_n 0, 1) := by decide +kernel
theorem dX9_name_47 : decode cX9_name 47 = .ok (.getfield 284, 3) := by decide +kernel
theorem dX9_name_50 : decode cX9_name 50 = .ok (.if_icmp .ge 28, 3) := by decide +kernel
theorem dX9_name_53 : decode cX9_name 53 = .ok (.aload_n 0, 1) := by decide +kernel
theorem dX9_name_54 : decode cX9_name 54 = .ok (.getfield 13, 3) := by decide +kernel
theorem dX9_name_57 : decode cX9_name 57 = .ok (.iload_n 2, 1) := by decide +kernel
theorem dX9_name_58 : decode cX9_name 58 = .ok (.aload_n 0, 1) := by decide +kernel
theorem dX9_name_59 : decode cX9_name 59 = .ok (.getfield 19, 3) := by decide +kernel
theorem dX9_name_62 : decode cX9_name 62 = .ok (.aload_n 0, 1) := by decide +kernel
theorem dX9_name_63 : decode cX9_name 63 = .ok (.getfield 22, 3) := by decide +kernel
theorem dX9_name_66 : decode cX9_name 66 = .ok (.iload_n 1, 1) := by decide +kernel
theorem dX9_name_67 : decode cX9_name 67 = .ok (.iaload, 1) := by decide +kernel
theorem dX9_name_68 : decode cX9_name 68 = .ok (.iload_n 2, 1) := by decide +kernel
theorem dX9_name_69 : decode cX9_name 69 = .ok (.iadd, 1) := by decide +kernel
theorem dX9_name_70 : decode cX9_name 70 = .ok (.iaload, 1) := by decide +kernel
theorem dX9_name_71 : decode cX9_name 71 = .ok (.iastore, 1) := by decide +kernel
theorem dX9_name_72 : decode cX9_name 72 = .ok (.iinc 2 1, 3) := by decide +kernel
theorem dX9_name_75 : decode cX9_name 75 = .ok (.goto (-30), 3) := by decide +kernel
theorem dX9_name_78 : decode cX9_name 78 = .ok (.aload_n 0, 1) := by decide +kernel
theorem dX9_name_79 : decode cX9_name 79 = .ok (.getfield 284, 3) := by decide +kernel
theorem dX9_name_82 : decode cX9_name 82 = .ok (.ireturn, 1) := by decide +kernel
theorem dX9_out_0 : decode cX9_out 0 = .ok (.aload_n 0, 1) := by decide +kernel
theorem dX9_out_1 : decode cX9_out 1 = .ok (.iload_n 1, 1) := by decide +kernel
theorem dX9_out_2 : decode cX9_out 2 = .ok (.ifCond .lt 11, 3) := by decide +kernel
theorem dX9_out_5 : decode cX9_out 5 = .ok (.iload_n 1, 1) := by decide +kernel
theorem dX9_out_6 : decode cX9_out 6 = .ok (.aload_n 0, 1) := by decide +kernel
theorem dX9_out_7 : decode cX9_out 7 = .ok (.getfield 284, 3) := by decide +kernel
theorem dX9_out_10 : decode cX9_out 10 = .ok (.if_icmp .lt 7, 3) := by decide +kernel
theorem dX9_out_13 : decode cX9_out 13 = .ok (.iconst 1, 1) := by decide +kernel
theorem dX9_out_14 : decode cX9_out 14 = .ok (.goto 4, 3) := by decide +kernel
theorem dX9_out_17 : decode cX9_out 17 = .ok (.iconst 0, 1) := by decide +kernel
theorem dX9_out_18 : decode cX9_out 18 = .ok (.iconst 1, 1) := by decide +kernel
theorem dX9_out_19 : decode cX9_out 19 = .ok (.invokevirtual 233, 3) := by decide +kernel
theorem dX9_out_22 : decode cX9_out 22 = .ok (.ifCond .eq 5, 3) := by decide +kernel
theorem dX9_out_25 : decode cX9_out 25 = .ok (.lconst 0, 1) := by decide +kernel
theorem dX9_out_26 : decode cX9_out 26 = .ok (.lreturn, 1) := by decide +kernel
theorem dX9_out_27 : decode cX9_out 27 = .ok (.lconst 0, 1) := by decide +kernel
theorem dX9_out_28 : decode cX9_out 28 = .ok (.lstore_n 2, 1) := by decide +kernel
theorem dX9_out_29 : decode cX9_out 29 = .ok (.iconst 0, 1) := by decide +kernel
theorem dX9_out_30 : decode cX9_out 30 = .ok (.istore 4, 2) := by decide +kernel
theorem dX9_out_32 : decode cX9_out 32 = .ok (.iload 4, 2) := by decide +kernel
theorem dX9_out_34 : decode cX9_out 34 = .ok (.bipush 8, 2) := by decide +kernel
theorem dX9_out_36 : decode cX9_out 36 = .ok (.if_icmp .ge 39, 3) := by decide +kernel
theorem dX9_out_39 : decode cX9_out 39 = .ok (.iload_n 1, 1) := by decide +kernel
theorem dX9_out_40 : decode cX9_out 40 = .ok (.iload 4, 2) := by decide +kernel
theorem dX9_out_42 : decode cX9_out 42 = .ok (.iadd, 1) := by decide +kernel
theorem dX9_out_43 : decode cX9_out 43 = .ok (.aload_n 0, 1) := by decide +kernel
theorem dX9_out_44 : decode cX9_out 44 = .ok (.getfield 284, 3) := by decide +kernel
theorem dX9_out_47 : decode cX9_out 47 = .ok (.if_icmp .ge 28, 3) := by decide +kernel
theorem dX9_out_50 : decode cX9_out 50 = .ok (.lload_n 2, 1) := by decide +kernel
theorem dX9_out_51 : decode cX9_out 51 = .ok (.aload_n 0, 1) := by decide +kernel
theorem dX9_out_52 : decode cX9_out 52 = .ok (.getfield 13, 3) := by decide +kernel
theorem dX9_out_55 : decode cX9_out 55 = .ok (.iload_n 1, 1) := by decide +kernel
theorem dX9_out_56 : decode cX9_out 56 = .ok (.iload 4, 2) := by decide +kernel
theorem dX9_out_58 : decode cX9_out 58 = .ok (.iadd, 1) := by decide +kernel
theorem dX9_out_59 : decode cX9_out 59 = .ok (.iaload, 1) := by decide +kernel
theorem dX9_out_60 : decode cX9_out 60 = .ok (.i2l, 1) := by decide +kernel
theorem dX9_out_61 : decode cX9_out 61 = .ok (.bipush 8, 2) := by decide +kernel
theorem dX9_out_63 : decode cX9_out 63 = .ok (.iload 4, 2) := by decide +kernel
theorem dX9_out_65 : decode cX9_out 65 = .ok (.imul, 1) := by decide +kernel
theorem dX9_out_66 : decode cX9_out 66 = .ok (.lshl, 1) := by decide +kernel
theorem dX9_out_67 : decode cX9_out 67 = .ok (.lor, 1) := by decide +kernel
theorem dX9_out_68 : decode cX9_out 68 = .ok (.lstore_n 2, 1) := by decide +kernel
theorem dX9_out_69 : decode cX9_out 69 = .ok (.iinc 4 1, 3) := by decide +kernel
theorem dX9_out_72 : decode cX9_out 72 = .ok (.goto (-40), 3) := by decide +kernel
theorem dX9_out_75 : decode cX9_out 75 = .ok (.lload_n 2, 1) := by decide +kernel
theorem dX9_out_76 : decode cX9_out 76 = .ok (.lreturn, 1) := by decide +kernel
theorem dX9_deepest_0 : decode cX9_deepest 0 = .ok (.iconst 1, 1) := by decide +kernel
theorem dX9_deepest_1 : decode cX9_deepest 1 = .ok (.istore_n 1, 1) := by decide +kernel
theorem dX9_deepest_2 : decode cX9_deepest 2 = .ok (.iconst 0, 1) := by decide +kernel
theorem dX9_deepest_3 : decode cX9_deepest 3 = .ok (.istore_n 2, 1) := by decide +kernel
theorem dX9_deepest_4 : decode cX9_deepest 4 = .ok (.iload_n 2, 1) := by decide +kernel
theorem dX9_deepest_5 : decode cX9_deepest 5 = .ok (.aload_n 0, 1) := by decide +kernel
theorem dX9_deepest_6 : decode cX9_deepest 6 = .ok (.getfield 203, 3) := by decide +kernel
theorem dX9_deepest_9 : decode cX9_deepest 9 = .ok (.if_icmp .gt 43, 3) := by decide +kernel
theorem dX9_deepest_12 : decode cX9_deepest 12 = .ok (.iconst 0, 1) := by decide +kernel
theorem dX9_deepest_13 : decode cX9_deepest 13 = .ok (.istore_n 3, 1) := by decide +kernel
theorem dX9_deepest_14 : decode cX9_deepest 14 = .ok (.iload_n 3, 1) := by decide +kernel
theorem dX9_deepest_15 : decode cX9_deepest 15 = .ok (.iload_n 2, 1) := by decide +kernel
theorem dX9_deepest_16 : decode cX9_deepest 16 = .ok (.if_icmp .ge 30, 3) := by decide +kernel
theorem dX9_deepest_19 : decode cX9_deepest 19 = .ok (.aload_n 0, 1) := by decide +kernel
theorem dX9_deepest_20 : decode cX9_deepest 20 = .ok (.iload_n 2, 1) := by decide +kernel
theorem dX9_deepest_21 : decode cX9_deepest 21 = .ok (.iload_n 3, 1) := by decide +kernel
theorem dX9_deepest_22 : decode cX9_deepest 22 = .ok (.invokevirtual 212, 3) := by decide +kernel
theorem dX9_deepest_25 : decode cX9_deepest 25 = .ok (.iload_n 1, 1) := by decide +kernel
theorem dX9_deepest_26 : decode cX9_deepest 26 = .ok (.if_icmp .le 12, 3) := by decide +kernel
theorem dX9_deepest_29 : decode cX9_deepest 29 = .ok (.aload_n 0, 1) := by decide +kernel
theorem dX9_deepest_30 : decode cX9_deepest 30 = .ok (.iload_n 2, 1) := by decide +kernel
theorem dX9_deepest_31 : decode cX9_deepest 31 = .ok (.iload_n 3, 1) := by decide +kernel
theorem dX9_deepest_32 : decode cX9_deepest 32 = .ok (.invokevirtual 212, 3) := by decide +kernel
theorem dX9_deepest_35 : decode cX9_deepest 35 = .ok (.goto 4, 3) := by decide +kernel
theorem dX9_deepest_38 : decode cX9_deepest 38 = .ok (.iload_n 1, 1) := by decide +kernel
theorem dX9_deepest_39 : decode cX9_deepest 39 = .ok (.istore_n 1, 1) := by decide +kernel
theorem dX9_deepest_40 : decode cX9_deepest 40 = .ok (.iinc 3 1, 3) := by decide +kernel
theorem dX9_deepest_43 : decode cX9_deepest 43 = .ok (.goto (-29), 3) := by decide +kernel
theorem dX9_deepest_46 : decode cX9_deepest 46 = .ok (.iinc 2 1, 3) := by decide +kernel
theorem dX9_deepest_49 : decode cX9_deepest 49 = .ok (.goto (-45), 3) := by decide +kernel
theorem dX9_deepest_52 : decode cX9_deepest 52 = .ok (.iload_n 1, 1) := by decide +kernel
theorem dX9_deepest_53 : decode cX9_deepest 53 = .ok (.iconst 1, 1) := by decide +kernel
theorem dX9_deepest_54 : decode cX9_deepest 54 = .ok (.isub, 1) := by decide +kernel
theorem dX9_deepest_55 : decode cX9_deepest 55 = .ok (.ireturn, 1) := by decide +kernel
theorem dX9_look_0 : decode cX9_look 0 = .ok (.aload_n 0, 1) := by decide +kernel
theorem dX9_look_1 : decode cX9_look 1 = .ok (.iload_n 1, 1) := by decide +kernel
theorem dX9_look_2 : decode cX9_look 2 = .ok (.i2l, 1) := by decide +kernel
theorem dX9_look_3 : decode cX9_look 3 = .ok (.lconst 0, 1) := by decide +kernel
theorem dX9_look_4 : decode cX9_look 4 = .ok (.ldc2_w 248, 3) := by decide +kernel
theorem dX9_look_7 : decode cX9_look 7 = .ok (.invokestatic 174, 3) := by decide +kernel
theorem dX9_look_10 : decode cX9_look 10 = .ok (.ifCond .ne 7, 3) := by decide +kernel
theorem dX9_look_13 : decode cX9_look 13 = .ok (.iconst 1, 1) := by decide +kernel
theorem dX9_look_14 : decode cX9_look 14 = .ok (.goto 4, 3) := by decide +kernel
theorem dX9_look_17 : decode cX9_look 17 = .ok (.iconst 0, 1) := by decide +kernel
theorem dX9_look_18 : decode cX9_look 18 = .ok (.iconst 1, 1) := by decide +kernel
theorem dX9_look_19 : decode cX9_look 19 = .ok (.invokevirtual 233, 3) := by decide +kernel
theorem dX9_look_22 : decode cX9_look 22 = .ok (.ifCond .eq 5, 3) := by decide +kernel
theorem dX9_look_25 : decode cX9_look 25 = .ok (.iconst 0, 1) := by decide +kernel
theorem dX9_look_26 : decode cX9_look 26 = .ok (.ireturn, 1) := by decide +kernel
theorem dX9_look_27 : decode cX9_look 27 = .ok (.iload_n 1, 1) := by decide +kernel
theorem dX9_look_28 : decode cX9_look 28 = .ok (.tableswitch 70 0 5 #[40, 45, 50, 55, 60, 65], 40) := by decide +kernel
theorem dX9_look_68 : decode cX9_look 68 = .ok (.aload_n 0, 1) := by decide +kernel
theorem dX9_look_69 : decode cX9_look 69 = .ok (.getfield 203, 3) := by decide +kernel
theorem dX9_look_72 : decode cX9_look 72 = .ok (.ireturn, 1) := by decide +kernel
theorem dX9_look_73 : decode cX9_look 73 = .ok (.aload_n 0, 1) := by decide +kernel
theorem dX9_look_74 : decode cX9_look 74 = .ok (.getfield 209, 3) := by decide +kernel
theorem dX9_look_77 : decode cX9_look 77 = .ok (.ireturn, 1) := by decide +kernel
theorem dX9_look_78 : decode cX9_look 78 = .ok (.aload_n 0, 1) := by decide +kernel
theorem dX9_look_79 : decode cX9_look 79 = .ok (.getfield 131, 3) := by decide +kernel
theorem dX9_look_82 : decode cX9_look 82 = .ok (.ireturn, 1) := by decide +kernel
theorem dX9_look_83 : decode cX9_look 83 = .ok (.aload_n 0, 1) := by decide +kernel
theorem dX9_look_84 : decode cX9_look 84 = .ok (.getfield 284, 3) := by decide +kernel
theorem dX9_look_87 : decode cX9_look 87 = .ok (.ireturn, 1) := by decide +kernel
theorem dX9_look_88 : decode cX9_look 88 = .ok (.aload_n 0, 1) := by decide +kernel
theorem dX9_look_89 : decode cX9_look 89 = .ok (.getfield 197, 3) := by decide +kernel
theorem dX9_look_92 : decode cX9_look 92 = .ok (.ireturn, 1) := by decide +kernel
theorem dX9_look_93 : decode cX9_look 93 = .ok (.aload_n 0, 1) := by decide +kernel
theorem dX9_look_94 : decode cX9_look 94 = .ok (.getfield 122, 3) := by decide +kernel
theorem dX9_look_97 : decode cX9_look 97 = .ok (.ireturn, 1) := by decide +kernel
theorem dX9_look_98 : decode cX9_look 98 = .ok (.aload_n 0, 1) := by decide +kernel
theorem dX9_look_99 : decode cX9_look 99 = .ok (.invokevirtual 287, 3) := by decide +kernel
theorem dX9_look_102 : decode cX9_look 102 = .ok (.ireturn, 1) := by decide +kernel
