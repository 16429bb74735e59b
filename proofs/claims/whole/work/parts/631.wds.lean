theorem wds_ic (I : Nat) : wds I = 3 + fxw (kd I) + itw (kd I) * ic I := by
  unfold wds
  by_cases z : partsK (kd I)
  · rw [ic_parts z]
  · rw [(itw0 _).mpr z, Nat.zero_mul, Nat.zero_mul]
theorem parts_fx {k : Nat} (h : partsK k) : fxw k = 0 ∧ ((k = 4 ∨ k = 5) ∧ itw k = 3 ∨ (k = 6 ∨ k = 13) ∧ itw k = 2) := by
  unfold partsK at h
  refine ⟨by unfold fxw; rw [if_neg (by omega), if_neg (by omega)], ?_⟩
  unfold itw
  by_cases z : k = 4 ∨ k = 5
  · exact Or.inl ⟨z, by rw [if_pos z]⟩
  · exact Or.inr ⟨by omega, by rw [if_neg z, if_pos (by omega)]⟩
theorem ic_pos {I q : Nat} (h : q < ic I) : partsK (kd I) := by
  by_cases z : partsK (kd I)
  · exact z
  · rw [ic_none z] at h; omega
theorem w_lt {I q d : Nat} (h : q < ic I) (hd : d < itw (kd I)) : 3 + d + itw (kd I) * q < wds I := by
  rw [wds_ic, (parts_fx (ic_pos h)).1]
  have := Nat.mul_le_mul_left (itw (kd I)) (show q + 1 ≤ ic I from h)
  rw [Nat.mul_succ] at this
  omega
theorem NamesOK.fpl {t : Nat → Nat} {N sg ns nc fb : Nat} {sl te pl le fp : Nat → Nat} (h : NamesOK t N sg sl te pl le fp ns nc fb) (x : Nat) : hv nc (te x) (fp (te x)) < 2 ^ 24 := Nat.lt_of_le_of_lt (hv_le _ _ _) (h.2.1.1.1.1 _).2.2
