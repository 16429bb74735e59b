/-! the references of the types, in order -/
def rfW (t : Nat → Nat) (a k : Nat) : Nat → List Nat
  | 0 => []
  | w + 1 => if rl k w = 2 then rfW t a k w ++ [num t (a + 4 * w) 4] else rfW t a k w
/-- the references of type i -/
def refs (t : Nat → Nat) (i : Nat) : List Nat := rfW t (off t i) (kd (inft t i)) (wds (inft t i))
def rfA (t : Nat → Nat) : Nat → List Nat
  | 0 => []
  | m + 1 => rfA t m ++ refs t (m + 1)
def rfP (t : Nat → Nat) (m w : Nat) : List Nat := rfA t m ++ rfW t (off t (m + 1)) (kd (inft t (m + 1))) w
theorem rfP_0 (t : Nat → Nat) (m : Nat) : rfP t m 0 = rfA t m := by simp [rfP, rfW]
theorem rfP_all (t : Nat → Nat) (m : Nat) : rfP t m (wds (inft t (m + 1))) = rfA t (m + 1) := rfl
theorem rfP_s {t : Nat → Nat} {m w : Nat} (h : rl (kd (inft t (m + 1))) w = 2) : rfP t m (w + 1) = rfP t m w ++ [num t (off t (m + 1) + 4 * w) 4] := by
  simp only [rfP, rfW]
  rw [if_pos h, List.append_assoc]
theorem rfP_n {t : Nat → Nat} {m w : Nat} (h : rl (kd (inft t (m + 1))) w ≠ 2) : rfP t m (w + 1) = rfP t m w := by
  simp only [rfP, rfW]
  rw [if_neg h]
theorem rfW_mono (t : Nat → Nat) (a k : Nat) {w w' : Nat} (h : w ≤ w') : (rfW t a k w).length ≤ (rfW t a k w').length := by
  induction w' with
  | zero => rw [show w = 0 by omega]; exact Nat.le_refl _
  | succ w' ih =>
    by_cases e : w = w' + 1
    · subst e; exact Nat.le_refl _
    · have := ih (by omega)
      simp only [rfW]
      split
      · rw [List.length_append]; omega
      · exact this
/-- how many references lie in the first u words behind the third -/
def cr (k u : Nat) : Nat := if k = 3 then min u 2 else if k = 4 ∨ k = 5 then (u + 1) / 3 else if k = 13 then u / 2 else 0
theorem rfW_len3 (t : Nat → Nat) (a k u : Nat) : (rfW t a k (3 + u)).length = (if k = 2 ∨ 8 ≤ k then 1 else 0) + cr k u := by
  induction u with
  | zero =>
    have h1 : rl k 1 ≠ 2 := by unfold rl; simp
    have h0 : rl k 0 ≠ 2 := by unfold rl; simp
    have h2 : rl k 2 = if k = 2 ∨ 8 ≤ k then 2 else 0 := by unfold rl; simp
    simp only [rfW]
    rw [if_neg h1, if_neg h0, h2]
    have hcr : cr k 0 = 0 := by unfold cr; repeat (first | rfl | split)
    rw [hcr]
    by_cases h : k = 2 ∨ 8 ≤ k
    · simp [h]
    · simp [h]
  | succ u ih =>
    rw [show 3 + (u + 1) = (3 + u) + 1 from rfl]
    simp only [rfW]
    have hr : rl k (3 + u) = rlb k u := by
      unfold rl
      rw [if_neg (by omega), if_neg (by omega), if_neg (by omega), show 3 + u - 3 = u by omega]
    rw [hr]
    unfold rlb
    unfold cr at ih ⊢
    by_cases h3 : k = 3
    · simp only [if_pos h3] at ih ⊢
      by_cases hu : u < 2
      · rw [if_pos hu, if_pos rfl, List.length_append, ih]; simp only [List.length_singleton]; omega
      · rw [if_neg hu, if_neg (by decide), ih]; omega
    · simp only [if_neg h3] at ih ⊢
      by_cases h4 : k = 4 ∨ k = 5
      · simp only [if_pos h4] at ih ⊢
        by_cases hu : u % 3 = 0
        · rw [if_pos hu, if_neg (by decide), ih]; omega
        · rw [if_neg hu]
          by_cases hu1 : u % 3 = 1
          · rw [if_pos hu1, if_pos rfl, List.length_append, ih]; simp only [List.length_singleton]; omega
          · rw [if_neg hu1, if_neg (by decide), ih]; omega
      · simp only [if_neg h4] at ih ⊢
        by_cases h6 : k = 6
        · subst h6
          simp only [if_true] at ih ⊢
          rw [if_neg (by split <;> omega), ih]
          rfl
        · rw [if_neg h6]
          by_cases h13 : k = 13
          · simp only [if_pos h13] at ih ⊢
            by_cases hu : u % 2 = 0
            · rw [if_pos hu, if_neg (by decide), ih]; omega
            · rw [if_neg hu, if_pos rfl, List.length_append, ih]; simp only [List.length_singleton]; omega
          · rw [if_neg h13, if_neg (by decide), ih, if_neg h13, if_neg h13]
theorem refs_len (t : Nat → Nat) (i : Nat) : (refs t i).length ≤ 2 + ic (inft t i) := by
  unfold refs
  rw [show wds (inft t i) = 3 + (fxw (kd (inft t i)) + itw (kd (inft t i)) * tl (inft t i)) by unfold wds; omega, rfW_len3]
  unfold cr ic fxw itw
  by_cases h3 : kd (inft t i) = 3
  · rw [h3]; simp
  · by_cases h4 : kd (inft t i) = 4 ∨ kd (inft t i) = 5
    · simp only [if_neg h3, if_pos h4]
      rw [if_neg (by omega), if_neg (by omega), if_neg (by decide)]
      omega
    · by_cases h13 : kd (inft t i) = 13
      · simp only [h13]
        simp
        try omega
      · simp only [if_neg h3, if_neg h4, if_neg h13]
        split <;> omega
theorem rfA_len (t : Nat → Nat) (m : Nat) : (rfA t m).length ≤ 2 * m + itc t m := by
  induction m with
  | zero => exact Nat.le_refl _
  | succ m ih =>
    have := refs_len t (m + 1)
    simp only [rfA, itc]
    rw [List.length_append]
    omega
theorem rfP_lt {t : Nat → Nat} {m w : Nat} (hw : w < wds (inft t (m + 1))) (h : rl (kd (inft t (m + 1))) w = 2) : (rfP t m w).length < (rfA t (m + 1)).length := by
  rw [← rfP_all]
  have h1 : (rfP t m (w + 1)).length = (rfP t m w).length + 1 := by rw [rfP_s h]; simp
  have h2 : (rfP t m (w + 1)).length ≤ (rfP t m (wds (inft t (m + 1)))).length := by
    simp only [rfP, List.length_append]
    have := rfW_mono t (off t (m + 1)) (kd (inft t (m + 1))) (show w + 1 ≤ wds (inft t (m + 1)) by omega)
    omega
  omega
/-- the row of references holds the list L -/
def TOK (L : List Nat) (to : Nat → Nat) : Prop := (∀ r, r < L.length → to r = L.getD r 0) ∧ ∀ j, to j < 2 ^ 32
theorem TOK.step {L : List Nat} {to : Nat → Nat} {x : Nat} (h : TOK L to) (hx : x < 2 ^ 32) : TOK (L ++ [x]) (gu to L.length x) := by
  refine ⟨fun r hr => ?_, fun j => by unfold gu; split; exact hx; exact h.2 j⟩
  rw [List.length_append, List.length_singleton] at hr
  by_cases e : r = L.length
  · subst e; rw [gu_s, getD_last]
  · rw [gu_n _ _ e, getD_app (by omega)]; exact h.1 r (by omega)
/-- where the references of a type begin: 0 for VOID and for type 1 -/
def SOK (t : Nat → Nat) (m : Nat) (st : Nat → Nat) : Prop := st 0 = 0 ∧ (∀ i, i ≤ m → st (i + 1) = (rfA t i).length) ∧ ∀ j, st j ≤ 1000
