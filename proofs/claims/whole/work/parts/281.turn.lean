/-! the references turned round: counting, and the places that follow -/
/-- of the first r references: how many go to j - 1; to less than j; to j -/
def ct (to : Nat → Nat) : Nat → Nat → Nat
  | 0, _ => 0
  | r + 1, j => ct to r j + (if to r + 1 = j then 1 else 0)
def cl (to : Nat → Nat) : Nat → Nat → Nat
  | 0, _ => 0
  | r + 1, j => cl to r j + (if to r < j then 1 else 0)
def ce (to : Nat → Nat) : Nat → Nat → Nat
  | 0, _ => 0
  | r + 1, j => ce to r j + (if to r = j then 1 else 0)
theorem ct_ce (to : Nat → Nat) (r j : Nat) : ct to r (j + 1) = ce to r j := by
  induction r with
  | zero => rfl
  | succ r ih =>
    simp only [ct, ce]
    rw [ih]
    by_cases h : to r = j
    · rw [if_pos h, if_pos (by omega)]
    · rw [if_neg h, if_neg (by omega)]
theorem cl_0 (to : Nat → Nat) (r : Nat) : cl to r 0 = 0 := by
  induction r with
  | zero => rfl
  | succ r ih => simp only [cl]; rw [ih, if_neg (by omega)]
theorem ct_0 (to : Nat → Nat) (r : Nat) : ct to r 0 = 0 := by
  induction r with
  | zero => rfl
  | succ r ih => simp only [ct]; rw [ih, if_neg (by omega)]
theorem cl_s (to : Nat → Nat) (r j : Nat) : cl to r (j + 1) = cl to r j + ce to r j := by
  induction r with
  | zero => rfl
  | succ r ih =>
    simp only [cl, ce]
    rw [ih]
    by_cases h : to r = j
    · rw [if_pos (by omega : to r < j + 1), if_neg (by omega : ¬ to r < j), if_pos h]; omega
    · by_cases h2 : to r < j
      · rw [if_pos (by omega : to r < j + 1), if_pos h2, if_neg h]; omega
      · rw [if_neg (by omega : ¬ to r < j + 1), if_neg h2, if_neg h]; omega
theorem cl_le (to : Nat → Nat) (r j : Nat) : cl to r j ≤ r := by
  induction r with
  | zero => exact Nat.le_refl _
  | succ r ih => simp only [cl]; split <;> omega
theorem ce_mono (to : Nat → Nat) (j : Nat) {r r' : Nat} (h : r ≤ r') : ce to r j ≤ ce to r' j := by
  induction r' with
  | zero => rw [show r = 0 by omega]; exact Nat.le_refl _
  | succ r' ih =>
    by_cases e : r = r' + 1
    · subst e; exact Nat.le_refl _
    · have := ih (by omega); simp only [ce]; split <;> omega
theorem ce_lt {to : Nat → Nat} {r r' : Nat} (h : r < r') : ce to r (to r) < ce to r' (to r) := by
  have h1 := ce_mono to (to r) (show r + 1 ≤ r' by omega)
  simp only [ce] at h1
  rw [if_pos trivial] at h1
  omega
theorem ce_ex {to : Nat → Nat} {j : Nat} : ∀ {R c : Nat}, c < ce to R j → ∃ r, r < R ∧ to r = j ∧ ce to r j = c
  | 0, c, h => by simp [ce] at h
  | R + 1, c, h => by
    simp only [ce] at h
    by_cases h2 : c < ce to R j
    · obtain ⟨r, g1, g2, g3⟩ := ce_ex h2
      exact ⟨r, by omega, g2, g3⟩
    · by_cases h3 : to R = j
      · rw [if_pos h3] at h; exact ⟨R, by omega, h3, by omega⟩
      · rw [if_neg h3] at h; omega
/-- where reference r comes -/
def ps (to : Nat → Nat) (R r : Nat) : Nat := cl to R (to r) + ce to r (to r)
theorem ps_in {to : Nat → Nat} {R r : Nat} (h : r < R) : cl to R (to r) ≤ ps to R r ∧ ps to R r < cl to R (to r + 1) := by
  unfold ps
  rw [cl_s]
  have := ce_lt (to := to) h
  omega
theorem cl_mono (to : Nat → Nat) (R : Nat) {i j : Nat} (h : i ≤ j) : cl to R i ≤ cl to R j := by
  induction j with
  | zero => rw [show i = 0 by omega]; exact Nat.le_refl _
  | succ j ih =>
    by_cases e : i = j + 1
    · subst e; exact Nat.le_refl _
    · rw [cl_s]; have := ih (by omega); omega
theorem ps_ne {to : Nat → Nat} {R r r' : Nat} (h : r < r') (h' : r' < R) : ps to R r ≠ ps to R r' := by
  have a := ps_in (to := to) (show r < R by omega)
  have b := ps_in (to := to) h'
  rcases Nat.lt_trichotomy (to r) (to r') with c | c | c
  · have := cl_mono to R (show to r + 1 ≤ to r' by omega); omega
  · have := ce_lt (to := to) h
    unfold ps
    rw [c] at this ⊢
    omega
  · have := cl_mono to R (show to r' + 1 ≤ to r by omega); omega
/-- reference r is one of type i's -/
def ofT (st : Nat → Nat) (i r : Nat) : Prop := st i ≤ r ∧ r < st (i + 1)
def BK (N R : Nat) (st to bk : Nat → Nat) (r : Nat) : Prop := (∀ r', r' < r → ∃ i, 1 ≤ i ∧ i ≤ N ∧ ofT st i r' ∧ bk (ps to R r') = i) ∧ ∀ j, bk j ≤ 200
theorem BK.step {N R r i : Nat} {st to bk : Nat → Nat} (h : BK N R st to bk r) (hr : r < R) (h1 : 1 ≤ i) (h2 : i ≤ N) (hN : N ≤ 200) (ho : ofT st i r) : BK N R st to (gu bk (ps to R r) i) (r + 1) := by
  refine ⟨fun r' hr' => ?_, fun j => by unfold gu; split; omega; exact h.2 j⟩
  by_cases e : r' = r
  · subst e; exact ⟨i, h1, h2, ho, gu_s _ _ _⟩
  · obtain ⟨i', g1, g2, g3, g4⟩ := h.1 r' (by omega)
    exact ⟨i', g1, g2, g3, by rw [gu_n _ _ (ps_ne (by omega) hr)]; exact g4⟩
/-- the references turned round: those that lie from bs j on tell which types refer to j -/
def BackOK (N : Nat) (st to bs bk : Nat → Nat) : Prop :=
  (∀ j, j ≤ N → bs j ≤ bs (j + 1) ∧ bs (j + 1) ≤ 1000) ∧
  (∀ j, j ≤ N → ∀ p, bs j ≤ p → p < bs (j + 1) → ∃ i r, 1 ≤ i ∧ i ≤ N ∧ ofT st i r ∧ to r = j ∧ bk p = i) ∧
  (∀ i r, 1 ≤ i → i ≤ N → ofT st i r → ∃ p, bs (to r) ≤ p ∧ p < bs (to r + 1) ∧ bk p = i) ∧ (∀ j, bk j ≤ 200)
theorem backOK {N R : Nat} {st to bs bk : Nat → Nat} (hR : R ≤ 1000) (hto : ∀ r, r < R → to r ≤ N) (hst : ∀ i, i ≤ N → st (i + 1) ≤ R) (hmn : ∀ i r i', i ≤ N → i' ≤ N → ofT st i r → ofT st i' r → i = i') (hbs : ∀ j, j ≤ N + 1 → bs j = cl to R j) (h : BK N R st to bk R) : BackOK N st to bs bk := by
  refine ⟨fun j hj => ?_, fun j hj p h1 h2 => ?_, fun i r h1 h2 ho => ?_, h.2⟩
  · rw [hbs j (by omega), hbs (j + 1) (by omega)]
    have := cl_mono to R (show j ≤ j + 1 by omega)
    have := cl_le to R (j + 1)
    omega
  · rw [hbs j (by omega)] at h1
    rw [hbs (j + 1) (by omega), cl_s] at h2
    obtain ⟨r, g1, g2, g3⟩ := ce_ex (show p - cl to R j < ce to R j by omega)
    obtain ⟨i, q1, q2, q3, q4⟩ := h.1 r g1
    refine ⟨i, r, q1, q2, q3, g2, ?_⟩
    rw [← q4]
    unfold ps
    rw [g2, g3]
    congr 1
    omega
  · have hr : r < R := Nat.lt_of_lt_of_le ho.2 (hst i h2)
    obtain ⟨i', q1, q2, q3, q4⟩ := h.1 r hr
    have := hto r hr
    refine ⟨ps to R r, ?_, ?_, ?_⟩
    · rw [hbs _ (by omega)]; exact (ps_in hr).1
    · rw [hbs _ (by omega)]; exact (ps_in hr).2
    · rw [q4]; exact hmn i' r i q2 h2 q3 ho
theorem cl_z (to : Nat → Nat) (R j : Nat) : cl to R j + ct to R (j + 1) = cl to R (j + 1) := by rw [cl_s, ct_ce]
