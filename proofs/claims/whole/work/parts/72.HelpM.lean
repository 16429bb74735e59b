theorem mL_feed : Cond.codeWith yL_feed cL_feed 6 (some .int) [(0, 11, 14, 13), (0, 11, 18, 15)] ∈ gTbl ∧ Cond.initialized yL_feed.cls ∈ gTbl ∧ (yL_feed.cls ≠ "java/lang/invoke/MethodHandle" ∧ yL_feed.cls ≠ "java/lang/invoke/VarHandle" ∧ (parseMethodDescriptor yL_feed.desc).map (fun d => d.parameters.length) = some 4) ∧ 6 ≤ 15 := ⟨List.mem_filter.mpr ⟨by decide +kernel, rfl⟩, List.mem_filter.mpr ⟨by decide +kernel, rfl⟩, by decide +kernel, by decide⟩
theorem iL_feed : Cond.static yL_feed ∈ gTbl := List.mem_filter.mpr ⟨by decide +kernel, rfl⟩

theorem mL_type : Cond.codeWith yL_type cL_type 5 (some .int) [(0, 9, 12, 21)] ∈ gTbl ∧ Cond.initialized yL_type.cls ∈ gTbl ∧ (yL_type.cls ≠ "java/lang/invoke/MethodHandle" ∧ yL_type.cls ≠ "java/lang/invoke/VarHandle" ∧ (parseMethodDescriptor yL_type.desc).map (fun d => d.parameters.length) = some 4) ∧ 5 ≤ 15 := ⟨List.mem_filter.mpr ⟨by decide +kernel, rfl⟩, List.mem_filter.mpr ⟨by decide +kernel, rfl⟩, by decide +kernel, by decide⟩
theorem iL_type : Cond.static yL_type ∈ gTbl := List.mem_filter.mpr ⟨by decide +kernel, rfl⟩

theorem mL_reference : Cond.codeWith yL_reference cL_reference 5 (some .int) [(0, 10, 13, 21)] ∈ gTbl ∧ Cond.initialized yL_reference.cls ∈ gTbl ∧ (yL_reference.cls ≠ "java/lang/invoke/MethodHandle" ∧ yL_reference.cls ≠ "java/lang/invoke/VarHandle" ∧ (parseMethodDescriptor yL_reference.desc).map (fun d => d.parameters.length) = some 4) ∧ 5 ≤ 15 := ⟨List.mem_filter.mpr ⟨by decide +kernel, rfl⟩, List.mem_filter.mpr ⟨by decide +kernel, rfl⟩, by decide +kernel, by decide⟩
theorem iL_reference : Cond.static yL_reference ∈ gTbl := List.mem_filter.mpr ⟨by decide +kernel, rfl⟩

theorem mL_apart : Cond.codeWith yL_apart cL_apart 5 (some .int) [(0, 10, 13, 21)] ∈ gTbl ∧ Cond.initialized yL_apart.cls ∈ gTbl ∧ (yL_apart.cls ≠ "java/lang/invoke/MethodHandle" ∧ yL_apart.cls ≠ "java/lang/invoke/VarHandle" ∧ (parseMethodDescriptor yL_apart.desc).map (fun d => d.parameters.length) = some 4) ∧ 5 ≤ 15 := ⟨List.mem_filter.mpr ⟨by decide +kernel, rfl⟩, List.mem_filter.mpr ⟨by decide +kernel, rfl⟩, by decide +kernel, by decide⟩
theorem iL_apart : Cond.static yL_apart ∈ gTbl := List.mem_filter.mpr ⟨by decide +kernel, rfl⟩

theorem mL_bytes : Cond.codeWith yL_bytes cL_bytes 4 (some .int) [(0, 8, 11, 21)] ∈ gTbl ∧ Cond.initialized yL_bytes.cls ∈ gTbl ∧ (yL_bytes.cls ≠ "java/lang/invoke/MethodHandle" ∧ yL_bytes.cls ≠ "java/lang/invoke/VarHandle" ∧ (parseMethodDescriptor yL_bytes.desc).map (fun d => d.parameters.length) = some 3) ∧ 4 ≤ 15 := ⟨List.mem_filter.mpr ⟨by decide +kernel, rfl⟩, List.mem_filter.mpr ⟨by decide +kernel, rfl⟩, by decide +kernel, by decide⟩
theorem iL_bytes : Cond.static yL_bytes ∈ gTbl := List.mem_filter.mpr ⟨by decide +kernel, rfl⟩

theorem mL_find : Cond.codeWith yL_find cL_find 5 (some .int) [(0, 10, 13, 13)] ∈ gTbl ∧ Cond.initialized yL_find.cls ∈ gTbl ∧ (yL_find.cls ≠ "java/lang/invoke/MethodHandle" ∧ yL_find.cls ≠ "java/lang/invoke/VarHandle" ∧ (parseMethodDescriptor yL_find.desc).map (fun d => d.parameters.length) = some 4) ∧ 5 ≤ 15 := ⟨List.mem_filter.mpr ⟨by decide +kernel, rfl⟩, List.mem_filter.mpr ⟨by decide +kernel, rfl⟩, by decide +kernel, by decide⟩
theorem iL_find : Cond.static yL_find ∈ gTbl := List.mem_filter.mpr ⟨by decide +kernel, rfl⟩

theorem mL_ring : Cond.codeWith yL_ring cL_ring 4 (some .int) [(0, 9, 12, 21)] ∈ gTbl ∧ Cond.initialized yL_ring.cls ∈ gTbl ∧ (yL_ring.cls ≠ "java/lang/invoke/MethodHandle" ∧ yL_ring.cls ≠ "java/lang/invoke/VarHandle" ∧ (parseMethodDescriptor yL_ring.desc).map (fun d => d.parameters.length) = some 3) ∧ 4 ≤ 15 := ⟨List.mem_filter.mpr ⟨by decide +kernel, rfl⟩, List.mem_filter.mpr ⟨by decide +kernel, rfl⟩, by decide +kernel, by decide⟩
theorem iL_ring : Cond.static yL_ring ∈ gTbl := List.mem_filter.mpr ⟨by decide +kernel, rfl⟩

theorem mL_write : Cond.codeWith yL_write cL_write 3 (some .int) [(0, 8, 11, 15)] ∈ gTbl ∧ Cond.initialized yL_write.cls ∈ gTbl ∧ (yL_write.cls ≠ "java/lang/invoke/MethodHandle" ∧ yL_write.cls ≠ "java/lang/invoke/VarHandle" ∧ (parseMethodDescriptor yL_write.desc).map (fun d => d.parameters.length) = some 2) ∧ 3 ≤ 15 := ⟨List.mem_filter.mpr ⟨by decide +kernel, rfl⟩, List.mem_filter.mpr ⟨by decide +kernel, rfl⟩, by decide +kernel, by decide⟩
theorem iL_write : Cond.static yL_write ∈ gTbl := List.mem_filter.mpr ⟨by decide +kernel, rfl⟩

theorem mL_name : Cond.codeWith yL_name cL_name 4 (some .int) [(0, 9, 12, 21)] ∈ gTbl ∧ Cond.initialized yL_name.cls ∈ gTbl ∧ (yL_name.cls ≠ "java/lang/invoke/MethodHandle" ∧ yL_name.cls ≠ "java/lang/invoke/VarHandle" ∧ (parseMethodDescriptor yL_name.desc).map (fun d => d.parameters.length) = some 3) ∧ 4 ≤ 15 := ⟨List.mem_filter.mpr ⟨by decide +kernel, rfl⟩, List.mem_filter.mpr ⟨by decide +kernel, rfl⟩, by decide +kernel, by decide⟩
theorem iL_name : Cond.static yL_name ∈ gTbl := List.mem_filter.mpr ⟨by decide +kernel, rfl⟩

theorem mL_out : Cond.codeWith yL_out cL_out 4 (some .int) [(0, 8, 11, 21)] ∈ gTbl ∧ Cond.initialized yL_out.cls ∈ gTbl ∧ (yL_out.cls ≠ "java/lang/invoke/MethodHandle" ∧ yL_out.cls ≠ "java/lang/invoke/VarHandle" ∧ (parseMethodDescriptor yL_out.desc).map (fun d => d.parameters.length) = some 3) ∧ 4 ≤ 15 := ⟨List.mem_filter.mpr ⟨by decide +kernel, rfl⟩, List.mem_filter.mpr ⟨by decide +kernel, rfl⟩, by decide +kernel, by decide⟩
theorem iL_out : Cond.static yL_out ∈ gTbl := List.mem_filter.mpr ⟨by decide +kernel, rfl⟩

theorem mL_look : Cond.codeWith yL_look cL_look 4 (some .int) [(0, 9, 12, 13)] ∈ gTbl ∧ Cond.initialized yL_look.cls ∈ gTbl ∧ (yL_look.cls ≠ "java/lang/invoke/MethodHandle" ∧ yL_look.cls ≠ "java/lang/invoke/VarHandle" ∧ (parseMethodDescriptor yL_look.desc).map (fun d => d.parameters.length) = some 3) ∧ 4 ≤ 15 := ⟨List.mem_filter.mpr ⟨by decide +kernel, rfl⟩, List.mem_filter.mpr ⟨by decide +kernel, rfl⟩, by decide +kernel, by decide⟩
theorem iL_look : Cond.static yL_look ∈ gTbl := List.mem_filter.mpr ⟨by decide +kernel, rfl⟩
