/-! the reference: numbers that its checks ask for -/
theorem lg_lt (x z : Int64) : lg_cmp x z < 0 ↔ x < z := by
  unfold lg_cmp
  by_cases h1 : z < x
  · simp only [GT.gt, h1, if_true]
    exact ⟨fun h => absurd h (by decide), fun h => absurd h (Int64.not_lt.mpr (Int64.le_of_lt h1))⟩
  · by_cases h2 : x = z
    · subst h2
      simp only [GT.gt, h1, if_true, if_false]
      exact ⟨fun h => absurd h (by decide), fun h => by first | exact h.elim | exact absurd h h1⟩
    · simp only [GT.gt, h1, h2, if_false]
      refine ⟨fun _ => ?_, fun _ => by decide⟩
      have h3 : x ≤ z := Int64.not_lt.mp h1
      rcases Int64.le_iff_lt_or_eq.mp h3 with h | h
      · exact h
      · exact absurd h h2
theorem lg_gt (x z : Int64) : 0 < lg_cmp x z ↔ z < x := by
  unfold lg_cmp
  by_cases h1 : z < x
  · simp only [GT.gt, h1, if_true]
    exact ⟨fun _ => trivial, fun _ => by decide⟩
  · simp only [GT.gt, h1, if_false]
    exact ⟨fun h => by split at h <;> exact absurd h (by decide), fun h => h.elim⟩
def inB (x lo hi : Int64) : Bool := decide (lo ≤ x ∧ x ≤ hi)
def bhd (k v : Nat) : Nat := if k = 1 then 4 else if k = 3 then 12 else if k = 4 ∨ k = 5 then 12 * v else if k = 6 ∨ k = 13 then 8 * v else 0
def powB (r m : Nat) : Bool := decide (r = 1 ∨ r = 2 ∨ r = 4 ∨ r = 8 ∨ r = 16 ∧ m = 16)
def trB (k : Nat) : Bool := decide (k = 2 ∨ 7 < k)
theorem num_add {b : Nat → Nat} (k n : Nat) (hn : n < 8) : lN (num b k n) + (lN (b (k + n)) <<< ((nI (8 * n)).toInt64 &&& 63)) = lN (num b k (n + 1)) := by
  rw [wb_shl _ (by omega), lN_add]
  simp only [num]
  rw [Nat.pow_mul]
