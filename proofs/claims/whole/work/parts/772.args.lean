theorem nI_ltx {x : Int32} {n : Nat} (h : 0 ≤ x ∧ x < nI n) (hn : n < 2 ^ 31) : ∃ k : Nat, x = nI k ∧ k < n := by
  have e0 : (0 : Int32).toInt = 0 := by decide
  have h1 := Int32.le_iff_toInt_le.mp h.1
  have h2 := Int32.lt_iff_toInt_lt.mp h.2
  rw [e0] at h1
  rw [nI_toInt hn] at h2
  obtain ⟨k, a, b, c⟩ := nI_ofx x h1
  exact ⟨k, a, by omega⟩
theorem nI_find {x z : Int32} (h : 0 ≤ x ∧ x ≤ nI 13 ∧ nI 1 ≤ z) : ∃ k f : Nat, x = nI k ∧ z = nI f ∧ k ≤ 13 ∧ (1 ≤ f ∧ f < 2 ^ 31) := by
  have e0 : (0 : Int32).toInt = 0 := by decide
  have e1 : (nI 13).toInt = 13 := by decide
  have e2 : (nI 1).toInt = 1 := by decide
  have h1 := Int32.le_iff_toInt_le.mp h.1
  have h2 := Int32.le_iff_toInt_le.mp h.2.1
  have h3 := Int32.le_iff_toInt_le.mp h.2.2
  rw [e0] at h1
  rw [e1] at h2
  rw [e2] at h3
  obtain ⟨k, a, b, c⟩ := nI_ofx x h1
  obtain ⟨f, a', b', c'⟩ := nI_ofx z (by omega)
  exact ⟨k, f, a, a', by omega, by omega, c'⟩
theorem nI_feed {x : Int32} (h : nI 1 ≤ x ∧ x ≤ nI 8) : ∃ n : Nat, x = nI n ∧ (1 ≤ n ∧ n ≤ 8) := by
  have e1 : (nI 8).toInt = 8 := by decide
  have e2 : (nI 1).toInt = 1 := by decide
  have h1 := Int32.le_iff_toInt_le.mp h.1
  have h2 := Int32.le_iff_toInt_le.mp h.2
  rw [e2] at h1
  rw [e1] at h2
  obtain ⟨k, a, b, c⟩ := nI_ofx x (by omega)
  exact ⟨k, a, by omega, by omega⟩
