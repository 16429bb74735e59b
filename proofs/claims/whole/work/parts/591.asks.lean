/-! what the reference answers -/
def tyA (t : Nat → Nat) (sg : Nat) (ld nu : Nat → Nat) (i w : Nat) : Nat := if w = 0 then kd (inft t i) else if w = 1 then tl (inft t i) else if w = 2 then fl (inft t i) else if w = 3 then wdT t i 2 else if w = 4 then nrT t i else if w = 5 then lfr t (sg + wdT t i 0) else if w = 6 then ld i else nu i
theorem MS.lf {t : Nat → Nat} {sg S N a : Nat} {fL fN fK fV fF fR fM fO fT fB pN pT pU : Nat → Nat} (h : MS t sg S N fL fN fK fV fF fR fM fO fT fB pN pT pU) (ha : a < S) : lfr fL a = lfr t (sg + a) ∧ lfr fL a < S - a ∧ ∀ j, j ≤ lfr fL a → fL (a + j) = t (sg + a + j) := lfr_sh h.2.1.1 h.1.2.2.1 ha h.1.2.2.2.1.2.1
theorem num_end {b : Nat → Nat} {c k q : Nat} (h : c ≤ k + q) : ∀ n, num (cut b c) k (q + n) = num (cut b c) k q
  | 0 => rfl
  | n + 1 => by
    show num (cut b c) k (q + n) + cut b c (k + (q + n)) * 256 ^ (q + n) = _
    rw [num_end h n]
    unfold cut
    rw [if_neg (by omega), Nat.zero_mul, Nat.add_zero]
theorem LdOK.le {t : Nat → Nat} {sg N : Nat} {ld nu : Nat → Nat} (h : LdOK t sg N ld nu) {i : Nat} (h1 : 1 ≤ i) (h2 : i ≤ N) : ld i ≤ i ∧ nu i ≤ i := by
  obtain ⟨g1, g2⟩ := h i h1 h2
  have := cntP_le (ldB ld) (ld i)
  exact ⟨g1.1.2, by have := g1.1.2; omega⟩
/-- the greatest depth but one -/
def Deep (N : Nat) (M : Nat → Nat) (g : Nat) : Prop := 1 ≤ g ∧ (∀ a b, a ≤ N → b < a → M (202 * a + b) ≤ g) ∧ (g = 1 ∨ ∃ a b, a ≤ N ∧ b < a ∧ M (202 * a + b) = g)
def DeepI (I J : Nat) (M : Nat → Nat) (g : Nat) : Prop := 1 ≤ g ∧ (∀ a b, b < a → (a < I ∨ a = I ∧ b < J) → M (202 * a + b) ≤ g) ∧ (g = 1 ∨ ∃ a b, b < a ∧ (a < I ∨ a = I ∧ b < J) ∧ M (202 * a + b) = g)
theorem DeepI.step {I J g g' : Nat} {M : Nat → Nat} (h : DeepI I J M g) (hJ : J < I) (hg : g' = if g < M (202 * I + J) then M (202 * I + J) else g) : DeepI I (J + 1) M g' := by
  obtain ⟨h1, h2, h3⟩ := h
  by_cases z : g < M (202 * I + J)
  · rw [if_pos z] at hg
    refine ⟨by omega, fun a b x y => ?_, Or.inr ⟨I, J, hJ, by omega, hg.symm⟩⟩
    by_cases e : a = I ∧ b = J
    · rw [e.1, e.2]; omega
    · have := h2 a b x (by omega); omega
  · rw [if_neg z] at hg
    subst hg
    refine ⟨h1, fun a b x y => ?_, ?_⟩
    · by_cases e : a = I ∧ b = J
      · rw [e.1, e.2]; omega
      · exact h2 a b x (by omega)
    · rcases h3 with h3 | ⟨a, b, x, y, w⟩
      · exact Or.inl h3
      · exact Or.inr ⟨a, b, x, by omega, w⟩
theorem DeepI.up {I J g : Nat} {M : Nat → Nat} (h : DeepI I J M g) (hJ : J = I) : DeepI (I + 1) 0 M g := by
  obtain ⟨h1, h2, h3⟩ := h
  refine ⟨h1, fun a b x y => h2 a b x (by omega), ?_⟩
  rcases h3 with h3 | ⟨a, b, x, y, w⟩
  · exact Or.inl h3
  · exact Or.inr ⟨a, b, x, by omega, w⟩
theorem DeepI.done {I N g : Nat} {M : Nat → Nat} (h : DeepI I 0 M g) (hI : I = N + 1) : Deep N M g := by
  obtain ⟨h1, h2, h3⟩ := h
  refine ⟨h1, fun a b x y => h2 a b y (by omega), ?_⟩
  rcases h3 with h3 | ⟨a, b, x, y, w⟩
  · exact Or.inl h3
  · exact Or.inr ⟨a, b, by omega, x, w⟩
theorem MS.named {t : Nat → Nat} {sg S N i tc k : Nat} {fL fN fK fV fF fR fM fO fT fB pN pT pU tb : Nat → Nat} (h : MS t sg S N fL fN fK fV fF fR fM fO fT fB pN pT pU) (h1 : 1 ≤ i) (h2 : i ≤ N) : Named t sg tb tc k i ↔ (k = 0 ∨ fK i = k) ∧ lfr fL (fN i) = tc ∧ ∀ j, j < tc → fL (fN i + j) = tb j := by
  obtain ⟨-, ⟨a1, a2⟩, ⟨k1, -⟩, -⟩ := h.at h1 h2
  obtain ⟨e1, -, e3⟩ := h.lf a2
  unfold Named
  rw [e1, k1, a1]
  rw [e1, a1] at e3
  constructor
  · rintro ⟨x, y, z⟩; exact ⟨x, y, fun j hj => by rw [e3 j (by omega)]; exact z j hj⟩
  · rintro ⟨x, y, z⟩; exact ⟨x, y, fun j hj => by rw [← e3 j (by omega)]; exact z j hj⟩
theorem MI.fl {t : Nat → Nat} {sg S N cl : Nat} {fL fN fK fV fF fR fM fO fT fB pN pT pU M ld nu : Nat → Nat} (h : MI t sg S N fL fN fK fV fF fR fM fO fT fB pN pT pU M ld nu cl) : cl ≤ 200 := by
  rw [h.2.2.2]; exact Nat.le_trans (cntP_le _ _) h.1.1.1.1
