/-! the words of this class's throws -/
theorem ti_IA : Cond.initialized xIA ∈ gTbl := List.mem_filter.mpr ⟨by decide +kernel, rfl⟩
theorem ti_IS : Cond.initialized xIS ∈ gTbl := List.mem_filter.mpr ⟨by decide +kernel, rfl⟩
theorem ti_NS : Cond.initialized xNS ∈ gTbl := List.mem_filter.mpr ⟨by decide +kernel, rfl⟩
theorem ta_IA : ∀ w ∈ (vx_at0 yX8_feed.cls 65 xIA ["java/lang/RuntimeException", "java/lang/Exception"]).filter goodWord, w ∈ gTbl := fun w h => List.mem_filter.mpr ⟨(by decide +kernel : ∀ w ∈ (vx_at0 yX8_feed.cls 65 xIA ["java/lang/RuntimeException", "java/lang/Exception"]).filter goodWord, w ∈ lw_tbl) w h, (List.mem_filter.mp h).2⟩
theorem ta_IS : ∀ w ∈ (vx_at0 yX8_feed.cls 72 xIS ["java/lang/RuntimeException", "java/lang/Exception"]).filter goodWord, w ∈ gTbl := fun w h => List.mem_filter.mpr ⟨(by decide +kernel : ∀ w ∈ (vx_at0 yX8_feed.cls 72 xIS ["java/lang/RuntimeException", "java/lang/Exception"]).filter goodWord, w ∈ lw_tbl) w h, (List.mem_filter.mp h).2⟩
theorem ta_NS : ∀ w ∈ (vx_at0 yX8_feed.cls 103 xNS ["java/lang/RuntimeException", "java/lang/Exception"]).filter goodWord, w ∈ gTbl := fun w h => List.mem_filter.mpr ⟨(by decide +kernel : ∀ w ∈ (vx_at0 yX8_feed.cls 103 xNS ["java/lang/RuntimeException", "java/lang/Exception"]).filter goodWord, w ∈ lw_tbl) w h, (List.mem_filter.mp h).2⟩
theorem tb_IA : ∀ w ∈ (vx_at0 yX8_feed.cls 65 xIA ["java/lang/RuntimeException", "java/lang/Exception"]).filter (fun w => !goodWord w), w ∈ [Cond.declares (Bundle.init0 "java/lang/RuntimeException"), .declares (Bundle.init0 "java/lang/Exception"), .declares (Bundle.init0 Bundle.tN), .castable xIA xIA] := by decide +kernel
theorem tb_IS : ∀ w ∈ (vx_at0 yX8_feed.cls 72 xIS ["java/lang/RuntimeException", "java/lang/Exception"]).filter (fun w => !goodWord w), w ∈ [Cond.declares (Bundle.init0 "java/lang/RuntimeException"), .declares (Bundle.init0 "java/lang/Exception"), .declares (Bundle.init0 Bundle.tN), .castable xIS xIS] := by decide +kernel
theorem tb_NS : ∀ w ∈ (vx_at0 yX8_feed.cls 103 xNS ["java/lang/RuntimeException", "java/lang/Exception"]).filter (fun w => !goodWord w), w ∈ [Cond.declares (Bundle.init0 "java/lang/RuntimeException"), .declares (Bundle.init0 "java/lang/Exception"), .declares (Bundle.init0 Bundle.tN), .castable xNS xNS] := by decide +kernel
theorem tc_IA : ∀ w ∈ Cond.classLink yX8_feed.cls 63 xIA :: Cond.initialized xIA :: vx_at0 yX8_feed.cls 65 xIA ["java/lang/RuntimeException", "java/lang/Exception"], vx_ot w = true := by decide +kernel
theorem tc_IS : ∀ w ∈ Cond.classLink yX8_feed.cls 70 xIS :: Cond.initialized xIS :: vx_at0 yX8_feed.cls 72 xIS ["java/lang/RuntimeException", "java/lang/Exception"], vx_ot w = true := by decide +kernel
theorem tc_NS : ∀ w ∈ Cond.classLink yX8_feed.cls 101 xNS :: Cond.initialized xNS :: vx_at0 yX8_feed.cls 103 xNS ["java/lang/RuntimeException", "java/lang/Exception"], vx_ot w = true := by decide +kernel
theorem inB_has (x : Int32) {n : Nat} (hn : n ≤ 200) : inB x.toInt64 (lN 1) (lN n) = hasR x n := by
  unfold inB hasR
  have e1 : (lN 1).toInt = 1 := by decide
  have e2 : (lN n).toInt = n := lN_toInt (by omega)
  refine decide_eq_decide.mpr ?_
  rw [Int64.le_iff_toInt_le, Int64.le_iff_toInt_le, e1, e2, Int32.toInt_toInt64]
theorem inB_hasV (x : Int32) {n : Nat} (hn : n ≤ 200) : inB x.toInt64 (lN 0) (lN n) = hasV x n := by
  unfold inB hasV
  have e1 : (lN 0).toInt = 0 := by decide
  have e2 : (lN n).toInt = n := lN_toInt (by omega)
  refine decide_eq_decide.mpr ?_
  rw [Int64.le_iff_toInt_le, Int64.le_iff_toInt_le, e1, e2, Int32.toInt_toInt64]
theorem nI_ofx (x : Int32) (h : 0 ≤ x.toInt) : ∃ i : Nat, x = nI i ∧ (i : Int) = x.toInt ∧ i < 2 ^ 31 := by
  have hlt := Int32.toInt_lt x
  refine ⟨x.toInt.toNat, ?_, by omega, by omega⟩
  apply Int32.toInt_inj.mp
  rw [nI_toInt (by omega)]
  omega
theorem hasV_N {i n : Nat} (hi : i ≤ n) (hn : n ≤ 200) : hasV (nI i) n = true := by
  unfold hasV
  rw [nI_toInt (by omega)]
  exact decide_eq_true (by omega)
