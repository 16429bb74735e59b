theorem max0 {n : Nat} (h : n ≤ 201) : (if nI 0 < nI n - nI 1 then nI n - nI 1 else nI 0) = nI (n - 1) := by
  cases n with
  | zero => decide
  | succ m =>
    rw [pk_sub (by omega), show m + 1 - 1 = m by omega]
    by_cases e : m = 0
    · subst e; decide
    · rw [if_pos ((nI_ltI (by decide) (by omega)).mpr (by omega))]
