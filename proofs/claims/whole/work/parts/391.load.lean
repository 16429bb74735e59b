/-! what an accepted text gives -/
theorem Judge.le {t : Nat → Nat} {cnt e sd : Nat} (h : Judge t cnt e sd) : e ≤ 6 := by
  rcases h with ⟨-, h2, -⟩ | ⟨-, h2⟩
  · rw [h2]; unfold headE; repeat (first | omega | split)
  · rcases h2 with ⟨m, -, -, h3, -⟩ | ⟨m, -, -, -, h3⟩
    · rw [h3]; exact Nat.le_trans (teE_le _ _ _ _ _ _) (by decide)
    · rw [h3]; split <;> omega
/-- an accepted text: N types, what they tell of is there -/
def TxtOK (t : Nat → Nat) (cnt N : Nat) : Prop := okUpTo t (24 + num t 12 4) cnt N ∧ off t (N + 1) = 24 + num t 12 4 ∧ hiAll t N ≤ N ∧ headE t cnt = 0
theorem Judge.ok {t : Nat → Nat} {cnt sd : Nat} (h : Judge t cnt 0 sd) : ∃ N, TxtOK t cnt N ∧ sd = 0 := by
  rcases h with ⟨h1, h2, -⟩ | ⟨h1, h2⟩
  · exact absurd h2.symm h1
  · rcases h2 with ⟨m, -, -, -, h4, -⟩ | ⟨m, h3, h4, h5, h6⟩
    · exact absurd rfl h4
    · refine ⟨m, ⟨h3, h4, ?_, h1⟩, h5⟩
      by_cases z : m < hiAll t m
      · rw [if_pos z] at h6; cases h6
      · omega
theorem TxtOK.text {t : Nat → Nat} {cnt N : Nat} (h : TxtOK t cnt N) (hc : cnt ≤ 8192) : TextOK t N (24 + num t 12 4) ∧ 24 + num t 12 4 ≤ cnt := by
  obtain ⟨h1, h2, -, h4⟩ := h
  have h5 := headE_0 h4
  refine ⟨⟨h1.1, h2, by omega, fun i a b => ?_⟩, by omega⟩
  obtain ⟨m, rfl⟩ : ∃ m, i = m + 1 := ⟨i - 1, by omega⟩
  exact (h1.2.2.2 m (by omega)).1
