def teI (t : Nat → Nat) (a sg its : Nat) : Nat := if sg < a + 4 * wds (num t (a + 4) 4) then its else its + ic (num t (a + 4) 4)
theorem teE_le (t : Nat → Nat) (a sg cnt sd its : Nat) : teE t a sg cnt sd its ≤ 5 := by
  unfold teE
  split
  · omega
  · split
    · omega
    · split <;> omega
theorem namesIn_0 {t : Nat → Nat} {a sg cnt : Nat} (h : namesIn t a sg cnt = true) : sg + num t a 4 < cnt :=
  of_decide_eq_true h 0 (Nat.lt_of_lt_of_le (by decide) (wds_ge _)) rfl
theorem headE_0 {t : Nat → Nat} {cnt : Nat} (h : headE t cnt = 0) : 24 ≤ cnt ∧ cnt = 24 + num t 12 4 + num t 20 4 ∧ num t 20 4 ≠ 0 ∧ t (24 + num t 12 4) = 0 ∧ t (cnt - 1) = 0 ∧ num t 16 4 = num t 12 4 := by
  unfold headE at h
  split at h
  · omega
  · split at h
    · omega
    · split at h <;> omega
theorem teI_s {t : Nat → Nat} {sg cnt m : Nat} (he : teE t (off t (m + 1)) sg cnt (m + 1) (itc t m) = 0) : teI t (off t (m + 1)) sg (itc t m) = itc t (m + 1) := by
  unfold teI
  rw [if_neg (Nat.not_lt.mpr (teE_0 he).1)]
  rfl
theorem hiAll_s (t : Nat → Nat) (m : Nat) : max (hiAll t m) (hiRef t (off t (m + 1))) = hiAll t (m + 1) := rfl
theorem off_n (t : Nat → Nat) (m : Nat) : off t (m + 1) + 4 * wds (num t (off t (m + 1) + 4) 4) = off t (m + 1 + 1) := rfl
theorem okUpTo_0 (t : Nat → Nat) (sg cnt : Nat) (h : 24 ≤ sg) : okUpTo t sg cnt 0 := ⟨by decide, h, Nat.zero_le _, fun j hj => absurd hj (by omega)⟩
