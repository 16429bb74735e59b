/-! the graph of the links is the text's -/
theorem LinksOK.ed {t st to bs bk : Nat → Nat} {N u v : Nat} (h : LinksOK t N st to bs bk) (hu : u ≤ N) : edge st to u v ↔ edT t u v := by
  rcases Nat.eq_zero_or_pos u with z | z
  · subst z
    have h0 := h.1.1
    have h1 : st (0 + 1) = (rfA t 0).length := h.1.2.1 0 (Nat.zero_le _)
    have h2 : (rfA t 0).length = 0 := rfl
    constructor
    · rintro ⟨r, a, b, -⟩; omega
    · rintro ⟨a, -⟩; omega
  · obtain ⟨q1, q2, q3⟩ := h.at z hu
    constructor
    · rintro ⟨r, a, b, c⟩
      refine ⟨z, r - st u, by omega, ?_⟩
      rw [← q3 (r - st u) (by omega), ← c]
      congr 1; omega
    · rintro ⟨-, k, a, b⟩
      exact ⟨st u + k, by omega, by omega, by rw [q3 k a]; exact b⟩
theorem edT_le {t : Nat → Nat} {N u v : Nat} (hh : hiAll t N ≤ N) (hu : u ≤ N) (he : edT t u v) : v ≤ N := by
  obtain ⟨a, k, b, rfl⟩ := he
  exact rfT_le hh a hu b
theorem ReT.le {t : Nat → Nat} {N i j : Nat} (hh : hiAll t N ≤ N) (hi : i ≤ N) (h : ReT t i j) : j ≤ N := ReT.closed (S := fun x => x ≤ N) hi (fun u v hu he => edT_le hh hu he) j h
theorem LinksOK.re {t st to bs bk : Nat → Nat} {N i j : Nat} (h : LinksOK t N st to bs bk) (hh : hiAll t N ≤ N) (hi : i ≤ N) : Reach st to i j ↔ ReT t i j := by
  constructor
  · intro z
    exact (Reach.closed (S := fun x => x ≤ N ∧ ReT t i x) ⟨hi, ReT.rf _ _⟩ (fun u v hu he => by
      have e := (h.ed hu.1).mp he
      exact ⟨edT_le hh hu.1 e, hu.2.st e⟩) j z).2
  · intro z
    exact (ReT.closed (S := fun x => x ≤ N ∧ Reach st to i x) ⟨hi, Reach.rf _ _ _⟩ (fun u v hu he => ⟨edT_le hh hu.1 he, hu.2.st ((h.ed hu.1).mpr he)⟩) j z).2
theorem ReT.tr1 {t : Nat → Nat} {u v j : Nat} (he : edT t u v) (h : ReT t v j) : ReT t u j := by
  obtain ⟨n, h⟩ := h
  induction n generalizing j with
  | zero => have h : v = j := h; rw [← h]; exact (ReT.rf _ _).st he
  | succ n ih => obtain ⟨k, h1, h2⟩ := h; exact (ih h1).st h2
theorem Reach.tr1 {fr en : Nat → Nat} {u v j : Nat} (he : edge fr en u v) (h : Reach fr en v j) : Reach fr en u j := by
  obtain ⟨n, h⟩ := h
  induction n generalizing j with
  | zero => have h : v = j := h; rw [← h]; exact (Reach.rf _ _ _).st he
  | succ n ih => obtain ⟨k, h1, h2⟩ := h; exact (ih h1).st h2
theorem LinksOK.bk1 {t st to bs bk : Nat → Nat} {N u v : Nat} (h : LinksOK t N st to bs bk) (hu : u ≤ N) (he : edge bs bk u v) : v ≤ N ∧ edT t v u := by
  obtain ⟨p, a, b, c⟩ := he
  obtain ⟨i, r, g1, g2, g3, g4, g5⟩ := h.2.2.2.1 u hu p a b
  have e : v = i := by rw [← c, g5]
  subst e
  exact ⟨g2, (h.ed g2).mp ⟨r, g3.1, g3.2, g4⟩⟩
theorem LinksOK.bk2 {t st to bs bk : Nat → Nat} {N u v : Nat} (h : LinksOK t N st to bs bk) (hv : v ≤ N) (he : edT t v u) : edge bs bk u v := by
  obtain ⟨r, a, b, c⟩ := (h.ed hv).mpr he
  obtain ⟨p, g1, g2, g3⟩ := h.2.2.2.2.1 v r he.1 hv ⟨a, b⟩
  rw [c] at g1 g2
  exact ⟨p, g1, g2, g3⟩
theorem LinksOK.rb {t st to bs bk : Nat → Nat} {N i j : Nat} (h : LinksOK t N st to bs bk) (hh : hiAll t N ≤ N) (hi : i ≤ N) (hj : j ≤ N) : Reach bs bk i j ↔ ReT t j i := by
  constructor
  · intro z
    exact (Reach.closed (S := fun x => x ≤ N ∧ ReT t x i) ⟨hi, ReT.rf _ _⟩ (fun u v hu he => by
      obtain ⟨e1, e2⟩ := h.bk1 hu.1 he
      exact ⟨e1, ReT.tr1 e2 hu.2⟩) j z).2
  · intro z
    exact (ReT.closed (S := fun x => x ≤ N ∧ Reach bs bk x j) ⟨hj, Reach.rf _ _ _⟩ (fun u v hu he => ⟨edT_le hh hu.1 he, Reach.tr1 (h.bk2 hu.1 he) hu.2⟩) i z).2
theorem LinksOK.ring {t st to bs bk on ba : Nat → Nat} {N i : Nat} (h : LinksOK t N st to bs bk) (hh : hiAll t N ≤ N) (hi : i ≤ N) (hr : ∀ j, j ≤ N → (on j = 1 ↔ Reach st to i j) ∧ (ba j = 1 ↔ Reach bs bk i j)) : RingC t i N (cntP (fun j => decide (on j = 1 ∧ ba j = 1)) N) := by
  refine ⟨_, fun j a b => ?_, rfl⟩
  obtain ⟨h1, h2⟩ := hr j b
  rw [decide_eq_true_iff, h1, h2, h.re hh hi, h.rb hh hi b]
theorem SOK.hfr {t st : Nat → Nat} {N : Nat} (h : SOK t N st) : ∀ u, u ≤ N → st u ≤ st (u + 1) ∧ st (u + 1) ≤ 1000 := fun u hu => ⟨h.mono hu, h.2.2 _⟩
