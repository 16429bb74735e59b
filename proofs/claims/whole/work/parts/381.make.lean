/-! what the constructors need -/
theorem kA_I : Cond.arrayClass .int ∈ gTbl := g_in 131 (by decide +kernel) (by decide +kernel)
theorem kA_J : Cond.arrayClass .long ∈ gTbl := g_in 87 (by decide +kernel) (by decide +kernel)
theorem kA_Z : Cond.arrayClass .boolean ∈ gTbl := g_in 191 (by decide +kernel) (by decide +kernel)
theorem kO_i : Cond.instanceMethod objectInit ∈ gTbl := g_in 69 (by decide +kernel) (by decide +kernel)
theorem kO_c : Cond.code objectInit ⟨#[0xb1]⟩ 1 none ∈ gTbl := g_in 70 rfl rfl
theorem kN_X0 : Cond.instantiable RX0 9 ∈ gTbl := g_in 193 (by decide +kernel) (by decide +kernel)
theorem kI_X0 : Cond.initialized RX0 ∈ gTbl := mX0_init.2.1
theorem kN_X2 : Cond.instantiable RX2 7 ∈ gTbl := g_in 164 (by decide +kernel) (by decide +kernel)
theorem kI_X2 : Cond.initialized RX2 ∈ gTbl := mX2_init.2.1
theorem kN_X3 : Cond.instantiable RX3 8 ∈ gTbl := g_in 133 (by decide +kernel) (by decide +kernel)
theorem kI_X3 : Cond.initialized RX3 ∈ gTbl := mX3_init.2.1
theorem kN_X4 : Cond.instantiable RX4 3 ∈ gTbl := g_in 89 (by decide +kernel) (by decide +kernel)
theorem kI_X4 : Cond.initialized RX4 ∈ gTbl := mX4_init.2.1
theorem kN_X5 : Cond.instantiable RX5 3 ∈ gTbl := g_in 72 (by decide +kernel) (by decide +kernel)
theorem kI_X5 : Cond.initialized RX5 ∈ gTbl := mX5_init.2.1
theorem kN_X6 : Cond.instantiable RX6 1 ∈ gTbl := g_in 227 (by decide +kernel) (by decide +kernel)
theorem kI_X6 : Cond.initialized RX6 ∈ gTbl := mX6_init.2.1
theorem kN_X7 : Cond.instantiable RX7 6 ∈ gTbl := g_in 105 (by decide +kernel) (by decide +kernel)
theorem kI_X7 : Cond.initialized RX7 ∈ gTbl := mX7_init.2.1
theorem kN_X8 : Cond.instantiable RX8 8 ∈ gTbl := g_in 64 (by decide +kernel) (by decide +kernel)
theorem kI_X8 : Cond.initialized RX8 ∈ gTbl := mX8_init.2.1
theorem num_0 (k n : Nat) : num (fun _ => 0) k n = 0 := by
  induction n with
  | zero => rfl
  | succ n ih => simp only [num]; rw [ih]; simp
theorem pack_0 : (fun _ => lN 0) = pack (fun _ => 0) := by
  funext j
  unfold pack
  rw [num_0]
