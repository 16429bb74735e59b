theorem fsum_mono (t : Nat → Nat) (p : Nat → Bool) {m n : Nat} (h : m ≤ n) : fsum t p m ≤ fsum t p n := by
  induction n with
  | zero => rw [show m = 0 by omega]; exact Nat.le_refl _
  | succ n ih =>
    by_cases e : m = n + 1
    · rw [e]; exact Nat.le_refl _
    · exact Nat.le_trans (ih (by omega)) (by simp only [fsum]; exact Nat.le_add_right _ _)
theorem fsum_y {t : Nat → Nat} {p : Nat → Bool} {m : Nat} (h : p (m + 1) = true) : fsum t p (m + 1) = fsum t p m + 4 * wds (inft t (m + 1)) := by simp only [fsum]; rw [if_pos h]
theorem fsum_n {t : Nat → Nat} {p : Nat → Bool} {m : Nat} (h : ¬ p (m + 1) = true) : fsum t p (m + 1) = fsum t p m := by simp only [fsum]; rw [if_neg h]; rfl
theorem TLs_y {t ld : Nat → Nat} {g : Nat → Nat → Nat} {m : Nat} (h : ld (m + 1) = m + 1) : TLs t ld g (m + 1) = TLs t ld g m ++ ptW (g m) (wds (inft t (m + 1))) := by
  simp only [TLs]; rw [if_pos (show ldB ld (m + 1) = true from decide_eq_true h)]
theorem TLs_n {t ld : Nat → Nat} {g : Nat → Nat → Nat} {m : Nat} (h : ld (m + 1) ≠ m + 1) : TLs t ld g (m + 1) = TLs t ld g m := by
  simp only [TLs]; rw [if_neg (show ¬ ldB ld (m + 1) = true from fun y => h (of_decide_eq_true y)), List.append_nil]
theorem fsum_0 (t : Nat → Nat) (p : Nat → Bool) : fsum t p 0 = 0 := rfl
theorem TLs_0 (t ld : Nat → Nat) (g : Nat → Nat → Nat) : TLs t ld g 0 = [] := rfl
