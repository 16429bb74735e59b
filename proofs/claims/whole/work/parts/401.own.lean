/-! a type's own name; the bytes of the folded types -/
theorem NamesOK.own {t : Nat → Nat} {N sg ns nc fb m : Nat} {sl te pl le fr : Nat → Nat} (h : NamesOK t N sg sl te pl le fr ns nc fb) (hm : m < N) :
    sl (m + 1) < ns ∧ te (sl (m + 1)) ≤ 800 ∧ hv nc (te (sl (m + 1))) (le (te (sl (m + 1)))) = lfr t (sg + wdT t (m + 1) 0) ∧ hv nc (te (sl (m + 1))) (pl (te (sl (m + 1)))) < 2 ^ 20 ∧ ∀ j, j < lfr t (sg + wdT t (m + 1) 0) → t (hv nc (te (sl (m + 1))) (pl (te (sl (m + 1)))) + j) = t (sg + wdT t (m + 1) 0 + j) := by
  obtain ⟨h1, h2, h3, h4, h5⟩ := h
  have hw : 0 < wds (inft t (m + 1)) := Nat.lt_of_lt_of_le (by decide) (wds_ge _)
  obtain ⟨g1, g2⟩ := nm_slot hm hw rfl
  rw [nmP_0] at g1 g2
  rw [h3 m hm]
  obtain ⟨hD, -, q1, -, q3⟩ := h2
  obtain ⟨⟨hb, -, hnc⟩, d1, -⟩ := hD
  refine ⟨by omega, q3 _, ?_⟩
  rcases q1 _ g1 with ⟨a0, a1⟩ | ⟨a0, a1, a2, a3⟩
  · rw [g2] at a0
    rw [a1, hv_0, hv_0, a0]
    exact ⟨rfl, by decide, fun j hj => absurd hj (by omega)⟩
  · rw [g2] at a0 a3
    rw [hv_in _ a1 a2, hv_in _ a1 a2, (d1 _ a1 a2).1]
    exact ⟨a3.1, (hb _).1, fun j hj => a3.2 j (by rw [a3.1]; exact hj)⟩
/-- is type i of this kind (0: any), and is its name the tape -/
def Named (t : Nat → Nat) (sg : Nat) (tb : Nat → Nat) (tc k i : Nat) : Prop := (k = 0 ∨ kd (inft t i) = k) ∧ lfr t (sg + wdT t i 0) = tc ∧ ∀ j, j < tc → t (sg + wdT t i 0 + j) = tb j
def Least (t : Nat → Nat) (sg N : Nat) (tb : Nat → Nat) (tc k f r : Nat) : Prop := (r = 0 ∧ ∀ i, f ≤ i → i ≤ N → ¬ Named t sg tb tc k i) ∨ (f ≤ r ∧ r ≤ N ∧ Named t sg tb tc k r ∧ ∀ i, f ≤ i → i < r → ¬ Named t sg tb tc k i)
def fsum (t : Nat → Nat) (p : Nat → Bool) : Nat → Nat
  | 0 => 0
  | m + 1 => fsum t p m + (if p (m + 1) then 4 * wds (inft t (m + 1)) else 0)
theorem fsum_le (t : Nat → Nat) (p : Nat → Bool) : ∀ m, fsum t p m ≤ m * 786444
  | 0 => Nat.le_refl _
  | m + 1 => by
    have h1 := fsum_le t p m
    have h2 : 4 * wds (inft t (m + 1)) ≤ 786444 := Nat.mul_le_mul_left 4 (wds_le (inft t (m + 1)))
    simp only [fsum]
    rw [Nat.add_mul, Nat.one_mul]
    split
    · exact Nat.add_le_add h1 h2
    · exact Nat.le_trans h1 (Nat.le_add_right _ _)
