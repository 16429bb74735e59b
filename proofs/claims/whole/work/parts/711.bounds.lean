theorem Least.le {t tb : Nat → Nat} {sg N tc k f r : Nat} (h : Least t sg N tb tc k f r) : r ≤ N := by
  rcases h with ⟨h, -⟩ | ⟨-, h, -⟩ <;> omega
theorem RingC.le {t : Nat → Nat} {i n c : Nat} (h : RingC t i n c) : c ≤ n := by
  obtain ⟨p, -, h⟩ := h
  rw [h]; exact cntP_le _ _
