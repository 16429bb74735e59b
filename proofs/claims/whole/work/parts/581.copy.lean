/-! rows that are copied -/
theorem cp9 {n1 n2 n3 n4 n5 n6 n7 n8 n9 g1 g2 g3 g4 g5 g6 g7 g8 g9 : Nat → Nat} {i : Nat} (h : ∀ j, 1 ≤ j → j < i → g1 j = n1 j ∧ g2 j = n2 j ∧ g3 j = n3 j ∧ g4 j = n4 j ∧ g5 j = n5 j ∧ g6 j = n6 j ∧ g7 j = n7 j ∧ g8 j = n8 j ∧ g9 j = n9 j) : ∀ j, 1 ≤ j → j < i + 1 → gu g1 i (n1 i) j = n1 j ∧ gu g2 i (n2 i) j = n2 j ∧ gu g3 i (n3 i) j = n3 j ∧ gu g4 i (n4 i) j = n4 j ∧ gu g5 i (n5 i) j = n5 j ∧ gu g6 i (n6 i) j = n6 j ∧ gu g7 i (n7 i) j = n7 j ∧ gu g8 i (n8 i) j = n8 j ∧ gu g9 i (n9 i) j = n9 j := by
  intro j a b
  by_cases e : j = i
  · subst e; simp only [gu_s, and_self]
  · simp only [gu_n _ _ e]; exact h j a (by omega)
theorem cp3 {n1 n2 n3 g1 g2 g3 : Nat → Nat} {i : Nat} (h : ∀ j, j < i → g1 j = n1 j ∧ g2 j = n2 j ∧ g3 j = n3 j) : ∀ j, j < i + 1 → gu g1 i (n1 i) j = n1 j ∧ gu g2 i (n2 i) j = n2 j ∧ gu g3 i (n3 i) j = n3 j := by
  intro j b
  by_cases e : j = i
  · subst e; simp only [gu_s, and_self]
  · simp only [gu_n _ _ e]; exact h j (by omega)
theorem gu_ltB {f : Nat → Nat} {i v B : Nat} (h : ∀ j, f j < B) (hv : v < B) : ∀ j, gu f i v j < B := by
  intro j; unfold gu; split
  · exact hv
  · exact h j
theorem cp1 {f g : Nat → Nat} {i : Nat} (h : ∀ j, j < i → g j = f j) : ∀ j, j < i + 1 → gu g i (f i) j = f j := by
  intro j b
  by_cases e : j = i
  · subst e; rw [gu_s]
  · rw [gu_n _ _ e]; exact h j (by omega)
/-- the leader of a type, found from 1 on -/
def LdX (M : Nat → Nat) (i x : Nat) : Prop := 1 ≤ x ∧ x ≤ i ∧ M (202 * i + x) = 0 ∧ ∀ b, 1 ≤ b → b < x → M (202 * i + b) ≠ 0
def LdJ (M : Nat → Nat) (i j x : Nat) : Prop := (x = 0 ∧ ∀ b, 1 ≤ b → b < j → M (202 * i + b) ≠ 0) ∨ (x ≠ 0 ∧ LdX M i x)
/-- all that the reference holds of a text -/
def MI (t : Nat → Nat) (sg S N : Nat) (fL fN fK fV fF fR fM fO fT fB pN pT pU M ld nu : Nat → Nat) (cl : Nat) : Prop := MS t sg S N fL fN fK fV fF fR fM fO fT fB pN pT pU ∧ (∀ a b, a ≤ N → b ≤ N → Apart t sg (M (202 * a + b)) a b ∧ M (202 * a + b) ≤ 50000) ∧ LdOK t sg N ld nu ∧ cl = cntP (ldB ld) N
