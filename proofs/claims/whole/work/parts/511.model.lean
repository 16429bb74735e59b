def mref (kn be : Nat → Nat) (i : Nat) : Nat := if kn i = 3 then 2 else if kn i = 4 ∨ kn i = 5 then be (i + 1) - be i else if kn i = 13 then 1 + (be (i + 1) - be i) else if trB (kn i) = true then 1 else 0
def mrf (kn be on tw re pt : Nat → Nat) (i j : Nat) : Nat := if kn i = 3 then (if j = 0 then on i else tw i) else if kn i = 4 ∨ kn i = 5 then pt (be i + j) else if j = 0 then re i else pt (be i + j - 1)
/-- letters are the same so far; do the names end here, or differ -/
theorem seqn_end {lt : Nat → Nat} {a b k : Nat} (hk : k < 20000) (hall : ∀ j, j < k → lt (a + j) ≠ 0 ∧ lt (a + j) = lt (b + j)) (ha : lt (a + k) = 0) (hb : lt (b + k) = 0) : seqn lt a b := by
  have h1 : lfr lt a = k := lfr_eq hk (fun j hj => (hall j hj).1) ha
  have h2 : lfr lt b = k := lfr_eq hk (fun j hj => by rw [← (hall j hj).2]; exact (hall j hj).1) hb
  exact ⟨by rw [h1, h2], fun j hj => (hall j (by omega)).2⟩
theorem seqn_not {lt : Nat → Nat} {a b k n : Nat} (hn : n < 20000) (h0 : lt (a + n) = 0) (h0' : lt (b + n) = 0) (hkn : k ≤ n) (hall : ∀ j, j < k → lt (a + j) ≠ 0 ∧ lt (a + j) = lt (b + j)) (hne : lt (a + k) ≠ lt (b + k)) : ¬ seqn lt a b := by
  intro h
  obtain ⟨-, b1, b2⟩ := lfr_spec hn h0
  obtain ⟨-, c1, c2⟩ := lfr_spec hn h0'
  have hk : k ≤ lfr lt a := Nat.le_of_not_lt fun z => (hall _ z).1 b2
  by_cases e : k = lfr lt a
  · have e2 : lt (b + k) = 0 := by rw [e, h.1]; exact c2
    rw [← e] at b2
    exact hne (by rw [b2, e2])
  · exact hne (h.2 k (by omega))
theorem ne_seqn {lt : Nat → Nat} {a b k n n' : Nat} (hall : ∀ j, j < k → lt (a + j) ≠ 0 ∧ lt (a + j) = lt (b + j)) (hA : lfr lt a ≤ n ∧ (∀ j, j < lfr lt a → lt (a + j) ≠ 0) ∧ lt (a + lfr lt a) = 0) (hB : lfr lt b ≤ n' ∧ (∀ j, j < lfr lt b → lt (b + j) ≠ 0) ∧ lt (b + lfr lt b) = 0) (hne : lt (a + k) ≠ lt (b + k)) : ¬ seqn lt a b := by
  intro h
  have hk : k ≤ lfr lt a := Nat.le_of_not_lt fun z => (hall _ z).1 hA.2.2
  by_cases e : k = lfr lt a
  · have e2 : lt (b + k) = 0 := by rw [e, h.1]; exact hB.2.2
    have e3 : lt (a + k) = 0 := by rw [e]; exact hA.2.2
    exact hne (by rw [e3, e2])
  · exact hne (h.2 k (by omega))
