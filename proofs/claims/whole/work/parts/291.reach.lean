/-! what is told of is in the list; what can be come to -/
theorem rfW_hi {t : Nat → Nat} {a k : Nat} : ∀ (w x : Nat), x ∈ rfW t a k w → x ≤ hiW t a k w
  | 0, x, h => by simp [rfW] at h
  | w + 1, x, h => by
    simp only [rfW] at h
    simp only [hiW]
    split at h
    next hr =>
      rw [if_pos hr]
      rcases List.mem_append.mp h with h | h
      · exact Nat.le_trans (rfW_hi w x h) (Nat.le_max_left _ _)
      · rw [List.mem_singleton] at h; rw [h]; exact Nat.le_max_right _ _
    next hr => rw [if_neg hr]; exact rfW_hi w x h
theorem rfA_hi {t : Nat → Nat} : ∀ (m x : Nat), x ∈ rfA t m → x ≤ hiAll t m
  | 0, x, h => by simp [rfA] at h
  | m + 1, x, h => by
    simp only [rfA] at h
    rcases List.mem_append.mp h with h | h
    · exact Nat.le_trans (rfA_hi m x h) (Nat.le_max_left _ _)
    · exact Nat.le_trans (rfW_hi _ x h) (Nat.le_max_right _ _)
theorem getD_mem {L : List Nat} {r : Nat} (h : r < L.length) : L.getD r 0 ∈ L := by
  simp [List.getD_eq_getElem?_getD, List.getElem?_eq_getElem h]
theorem TOK.hi {t to : Nat → Nat} {m r : Nat} (h : TOK (rfA t m) to) (hr : r < (rfA t m).length) : to r ≤ hiAll t m := by
  rw [h.1 r hr]
  exact rfA_hi m _ (getD_mem hr)
theorem rfA_s (t : Nat → Nat) (m : Nat) : (rfA t m).length ≤ (rfA t (m + 1)).length := by simp only [rfA]; rw [List.length_append]; omega
theorem rfA_mono (t : Nat → Nat) {i j : Nat} (h : i ≤ j) : (rfA t i).length ≤ (rfA t j).length := by
  induction j with
  | zero => rw [show i = 0 by omega]; exact Nat.le_refl _
  | succ j ih =>
    by_cases e : i = j + 1
    · subst e; exact Nat.le_refl _
    · exact Nat.le_trans (ih (by omega)) (rfA_s t j)
theorem SOK.step {t st : Nat → Nat} {m : Nat} (h : SOK t m st) (hl : (rfA t (m + 1)).length ≤ 1000) : SOK t (m + 1) (gu st (m + 1 + 1) (rfA t (m + 1)).length) := by
  refine ⟨by rw [gu_n _ _ (by omega)]; exact h.1, fun i hi => ?_, fun j => by unfold gu; split; exact hl; exact h.2.2 j⟩
  by_cases e : i = m + 1
  · subst e; exact gu_s _ _ _
  · rw [gu_n _ _ (by omega)]; exact h.2.1 i (by omega)
theorem SOK.mono {t st : Nat → Nat} {N i : Nat} (h : SOK t N st) (hi : i ≤ N) : st i ≤ st (i + 1) := by
  cases i with
  | zero => rw [h.1]; exact Nat.zero_le _
  | succ i => rw [h.2.1 i (by omega), h.2.1 (i + 1) hi]; exact rfA_s t i
theorem SOK.le {t st : Nat → Nat} {N i j : Nat} (h : SOK t N st) (hij : i ≤ j) (hj : j ≤ N) : st (i + 1) ≤ st (j + 1) := by
  rw [h.2.1 i (by omega), h.2.1 j hj]; exact rfA_mono t hij
theorem SOK.one {t st : Nat → Nat} {N : Nat} (h : SOK t N st) : ∀ i r i', i ≤ N → i' ≤ N → ofT st i r → ofT st i' r → i = i' := by
  have key : ∀ i r i', i < i' → i' ≤ N → ofT st i r → ofT st i' r → False := by
    intro i r i' hl h' h1 h2
    obtain ⟨j, rfl⟩ : ∃ j, i' = j + 1 := ⟨i' - 1, by omega⟩
    have := h.le (show i ≤ j by omega) (by omega)
    have := h1.2
    have := h2.1
    omega
  intro i r i' a b c d
  rcases Nat.lt_trichotomy i i' with z | z | z
  · exact (key i r i' z b c d).elim
  · exact z
  · exact (key i' r i z a d c).elim
/-- a step of the graph whose rows are fr, en -/
def edge (fr en : Nat → Nat) (u v : Nat) : Prop := ∃ r, fr u ≤ r ∧ r < fr (u + 1) ∧ en r = v
def rch (fr en : Nat → Nat) : Nat → Nat → Nat → Prop
  | 0, i, j => i = j
  | n + 1, i, j => ∃ k, rch fr en n i k ∧ edge fr en k j
def Reach (fr en : Nat → Nat) (i j : Nat) : Prop := ∃ n, rch fr en n i j
theorem Reach.rf (fr en : Nat → Nat) (i : Nat) : Reach fr en i i := ⟨0, rfl⟩
theorem Reach.st {fr en : Nat → Nat} {i k j : Nat} (h : Reach fr en i k) (he : edge fr en k j) : Reach fr en i j := by
  obtain ⟨n, h⟩ := h
  exact ⟨n + 1, k, h, he⟩
theorem Reach.closed {fr en : Nat → Nat} {i : Nat} {S : Nat → Prop} (hi : S i) (hs : ∀ u v, S u → edge fr en u v → S v) : ∀ j, Reach fr en i j → S j := by
  intro j ⟨n, h⟩
  induction n generalizing j with
  | zero => have h : i = j := h; rw [← h]; exact hi
  | succ n ih => obtain ⟨k, h1, h2⟩ := h; exact hs k j (ih k h1) h2
def sumN (f : Nat → Nat) : Nat → Nat
  | 0 => 0
  | n + 1 => sumN f n + f n
theorem sumN_le {f : Nat → Nat} (h : ∀ j, f j ≤ 1) : ∀ n, sumN f n ≤ n
  | 0 => Nat.le_refl _
  | n + 1 => by have := sumN_le h n; have := h n; simp only [sumN]; omega
theorem sumN_lt {f : Nat → Nat} (h : ∀ j, f j ≤ 1) {j : Nat} (hj : f j = 0) : ∀ n, j < n → sumN f n < n
  | 0, hn => absurd hn (by omega)
  | n + 1, hn => by
    have h1 := h n
    simp only [sumN]
    by_cases e : j = n
    · subst e; have := sumN_le h j; omega
    · have := sumN_lt h hj n (by omega); omega
theorem sumN_gu {f : Nat → Nat} {j : Nat} (hj : f j = 0) : ∀ n, sumN (gu f j 1) n = sumN f n + (if j < n then 1 else 0)
  | 0 => by simp [sumN]
  | n + 1 => by
    simp only [sumN]
    rw [sumN_gu hj n]
    by_cases e : j = n
    · subst e; rw [gu_s, hj, if_neg (by omega), if_pos (by omega)]
    · rw [gu_n _ _ (by omega)]
      by_cases h : j < n
      · rw [if_pos h, if_pos (by omega)]; omega
      · rw [if_neg h, if_neg (by omega)]; rfl
theorem sumN_0 {f : Nat → Nat} : ∀ n, (∀ j, j < n → f j = 0) → sumN f n = 0
  | 0, _ => rfl
  | n + 1, h => by simp only [sumN]; rw [sumN_0 n (fun j hj => h j (by omega)), h n (by omega)]
theorem nar_1 : vp_nar .boolean (nI 1) = nI 1 := by decide
theorem nar_0 : vp_nar .boolean (nI 0) = nI 0 := by decide
/-- how far the spreading is: what is marked, what waits -/
def BF (fr en : Nat → Nat) (N i : Nat) (qu on : Nat → Nat) (fd : Nat) : Prop :=
  (∀ j, on j ≤ 1) ∧ (∀ q, q < fd → qu q ≤ N ∧ on (qu q) = 1) ∧ (∀ j, j < 201 → on j = 1 → (∃ q, q < fd ∧ qu q = j) ∧ Reach fr en i j) ∧ sumN on 201 = fd ∧ on i = 1
theorem BF.add {fr en : Nat → Nat} {N i fd u v : Nat} {qu on : Nat → Nat} (h : BF fr en N i qu on fd) (hN : N ≤ 200) (hu : on u = 1) (hu2 : u ≤ N) (he : edge fr en u v) (hv : v ≤ N) (h0 : on v = 0) : BF fr en N i (gu qu fd v) (gu on v 1) (fd + 1) := by
  obtain ⟨h1, h2, h3, h4, h5⟩ := h
  refine ⟨fun j => by unfold gu; split; omega; exact h1 j, fun q hq => ?_, fun j hj hon => ?_, by rw [sumN_gu h0, h4, if_pos (by omega)], by by_cases e : i = v; (rw [e]; exact gu_s _ _ _); (rw [gu_n _ _ e]; exact h5)⟩
  · by_cases e : q = fd
    · subst e; rw [gu_s, gu_s]; exact ⟨hv, rfl⟩
    · rw [gu_n _ _ e]
      obtain ⟨g1, g2⟩ := h2 q (by omega)
      refine ⟨g1, ?_⟩
      by_cases e2 : qu q = v
      · rw [e2]; exact gu_s _ _ _
      · rw [gu_n _ _ e2]; exact g2
  · by_cases e : j = v
    · subst e
      exact ⟨⟨fd, by omega, gu_s _ _ _⟩, ((h3 u (by omega) hu).2).st he⟩
    · rw [gu_n _ _ e] at hon
      obtain ⟨⟨q, g1, g2⟩, g3⟩ := h3 j hj hon
      exact ⟨⟨q, by omega, by rw [gu_n _ _ (by omega)]; exact g2⟩, g3⟩
theorem BF.start {fr en : Nat → Nat} {N i : Nat} {qu on : Nat → Nat} (hi : i ≤ N) (hN : N ≤ 200) (h1 : ∀ j, on j ≤ 1) (h0 : ∀ j, j < 201 → on j = 0) : BF fr en N i (gu qu 0 i) (gu on i 1) 1 := by
  refine ⟨fun j => by unfold gu; split; omega; exact h1 j, fun q hq => ?_, fun j hj hon => ?_, by rw [sumN_gu (h0 i (by omega)), sumN_0 201 h0, if_pos (by omega)], gu_s _ _ _⟩
  · rw [show q = 0 by omega, gu_s, gu_s]; exact ⟨hi, rfl⟩
  · by_cases e : j = i
    · subst e; exact ⟨⟨0, by omega, gu_s _ _ _⟩, Reach.rf _ _ _⟩
    · rw [gu_n _ _ e, h0 j hj] at hon; omega
theorem BF.done {fr en : Nat → Nat} {N i fd : Nat} {qu on : Nat → Nat} (h : BF fr en N i qu on fd) (hN : N ≤ 200) (hi : i ≤ N) (hen : ∀ u, u ≤ N → ∀ v, edge fr en u v → v ≤ N) (hp : ∀ q, q < fd → ∀ v, edge fr en (qu q) v → on v = 1) : ∀ j, j ≤ N → (on j = 1 ↔ Reach fr en i j) := by
  obtain ⟨h1, h2, h3, h4, h5⟩ := h
  intro j hj
  refine ⟨fun z => (h3 j (by omega) z).2, fun z => ?_⟩
  have := Reach.closed (S := fun x => x ≤ N ∧ on x = 1) ⟨hi, h5⟩ (fun u v hu he => by
    obtain ⟨⟨q, g1, g2⟩, -⟩ := h3 u (by omega) hu.2
    exact ⟨hen u hu.1 v he, hp q g1 v (by rw [g2]; exact he)⟩) j z
  exact this.2
/-- of 1 .. n: how many are such -/
def cntP (p : Nat → Bool) : Nat → Nat
  | 0 => 0
  | n + 1 => cntP p n + (if p (n + 1) then 1 else 0)
theorem cntP_le (p : Nat → Bool) : ∀ n, cntP p n ≤ n
  | 0 => Nat.le_refl _
  | n + 1 => by have := cntP_le p n; simp only [cntP]; split <;> omega
def LinksOK (t : Nat → Nat) (N : Nat) (st to bs bk : Nat → Nat) : Prop := SOK t N st ∧ TOK (rfA t N) to ∧ BackOK N st to bs bk
