theorem SzR0 (t : Nat → Nat) : SzR t 0 0 none := ⟨0, Nat.le_refl _, fun k hk => absurd hk (by omega), Or.inl rfl, by show none = ownZ t 0 0; exact (leans_0 t 0).2.symm⟩
theorem TLs_congr {t : Nat → Nat} {ld ld' : Nat → Nat} {g : Nat → Nat → Nat} : ∀ m, (∀ i, 1 ≤ i → i ≤ m → (ld i = i ↔ ld' i = i)) → TLs t ld g m = TLs t ld' g m
  | 0, _ => rfl
  | m + 1, h => by
    simp only [TLs]
    rw [TLs_congr m (fun i a b => h i a (by omega))]
    have := h (m + 1) (by omega) (by omega)
    by_cases z : ld (m + 1) = m + 1
    · rw [if_pos (show ldB ld (m + 1) = true from decide_eq_true z), if_pos (show ldB ld' (m + 1) = true from decide_eq_true (this.mp z))]
    · rw [if_neg (show ¬ ldB ld (m + 1) = true from fun y => z (of_decide_eq_true y)), if_neg (show ¬ ldB ld' (m + 1) = true from fun y => z (this.mpr (of_decide_eq_true y)))]
theorem ldr_ldB (nw fi : Nat → Nat) : ldr nw fi = ldB (fun i => fi (nw i)) := rfl
