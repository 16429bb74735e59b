/-! sizes and rings, by the text alone -/
def SzR (t : Nat → Nat) (N i : Nat) (r : Option Nat) : Prop := ∃ s, s ≤ N ∧ (∀ k, k < s → leans (kdT t N (pth t N i k)) = true) ∧ (s = N ∨ leans (kdT t N (pth t N i s)) = false) ∧ r = fdZ t N i s (ownZ t N (pth t N i s))
theorem SzR.uniq {t : Nat → Nat} {N i : Nat} {r r' : Option Nat} (h : SzR t N i r) (h' : SzR t N i r') : r = r' := by
  obtain ⟨s, a, b, c, d⟩ := h
  obtain ⟨s', a', b', c', d'⟩ := h'
  have : s = s' := by
    rcases Nat.lt_trichotomy s s' with z | z | z
    · rcases c with c | c
      · omega
      · rw [b' s z] at c; cases c
    · exact z
    · rcases c' with c' | c'
      · omega
      · rw [b s' z] at c'; cases c'
  subst this
  rw [d, d']
theorem leans_own {t : Nat → Nat} {N i : Nat} (h : leans (kdT t N i) = true) : ownZ t N i = none := by
  have h := of_decide_eq_true h
  unfold ownZ
  rw [if_neg (by omega), if_neg (by omega)]
theorem kdT_0 (t : Nat → Nat) (N : Nat) : kdT t N 0 = 0 := by unfold kdT hv; rw [if_neg (by omega)]
theorem leans_0 (t : Nat → Nat) (N : Nat) : leans (kdT t N 0) = false ∧ ownZ t N 0 = none := by
  refine ⟨by rw [kdT_0]; rfl, ?_⟩
  unfold ownZ
  rw [kdT_0, if_neg (by omega), if_neg (by omega)]
theorem kdT_eq {t : Nat → Nat} {N i : Nat} (h1 : 1 ≤ i) (h2 : i ≤ N) : kdT t N i = kd (inft t i) := hv_in _ h1 h2
theorem nx_rf {t : Nat → Nat} {N i : Nat} (h1 : 1 ≤ i) (h2 : i ≤ N) (hl : leans (kdT t N i) = true) : 0 < nrT t i ∧ rfT t i 0 = nxT t N i := by
  have hl := of_decide_eq_true hl
  have e := kdT_eq (t := t) h1 h2
  rw [e] at hl
  have h0 : 0 < nrT t i := by
    rw [nrT_G]
    by_cases k3 : kd (inft t i) = 3
    · rw [if_pos k3]; decide
    · rw [if_neg k3, if_pos (by omega)]; omega
  refine ⟨h0, ?_⟩
  rw [rfT_G h0]
  unfold nxT
  rw [e, hv_in _ h1 h2]
  by_cases k3 : kd (inft t i) = 3
  · rw [if_pos k3, if_pos rfl, if_pos k3]
  · rw [if_neg k3, if_neg (by omega), if_pos rfl, if_neg k3]
/-- a step of the text's graph -/
def edT (t : Nat → Nat) (u v : Nat) : Prop := 1 ≤ u ∧ ∃ k, k < nrT t u ∧ rfT t u k = v
def rcT (t : Nat → Nat) : Nat → Nat → Nat → Prop
  | 0, i, j => i = j
  | n + 1, i, j => ∃ k, rcT t n i k ∧ edT t k j
def ReT (t : Nat → Nat) (i j : Nat) : Prop := ∃ n, rcT t n i j
theorem ReT.rf (t : Nat → Nat) (i : Nat) : ReT t i i := ⟨0, rfl⟩
theorem ReT.st {t : Nat → Nat} {i k j : Nat} (h : ReT t i k) (he : edT t k j) : ReT t i j := by
  obtain ⟨n, h⟩ := h
  exact ⟨n + 1, k, h, he⟩
theorem ReT.closed {t : Nat → Nat} {i : Nat} {S : Nat → Prop} (hi : S i) (hs : ∀ u v, S u → edT t u v → S v) : ∀ j, ReT t i j → S j := by
  intro j ⟨n, h⟩
  induction n generalizing j with
  | zero => have h : i = j := h; rw [← h]; exact hi
  | succ n ih => obtain ⟨k, h1, h2⟩ := h; exact hs k j (ih k h1) h2
/-- how far a spreading from a to b is -/
def RcA (t : Nat → Nat) (N a b : Nat) (sn : Nat → Nat) (cm : Bool) : Prop := (∀ j, sn j ≤ 1) ∧ (∀ j, sn j = 1 → j < 202 → j ≤ N ∧ ReT t a j) ∧ (cm = true → ReT t a b) ∧ sn a = 1
def RcD (t : Nat → Nat) (b : Nat) (sn : Nat → Nat) (cm : Bool) (u k : Nat) : Prop := ∀ x y, 1 ≤ x → (x < u ∨ x = u ∧ y < k) → y < nrT t x → sn x = 1 → sn (rfT t x y) = 1 ∧ (rfT t x y = b → cm = true)
theorem RcA.step {t : Nat → Nat} {N a b u k : Nat} {sn : Nat → Nat} {cm cm' : Bool} (h : RcA t N a b sn cm) (hN : N ≤ 200) (hu : 1 ≤ u ∧ u ≤ N) (hs : sn u = 1) (hk : k < nrT t u) (hle : rfT t u k ≤ N) (hc : cm' = true ↔ cm = true ∨ rfT t u k = b) : RcA t N a b (gu sn (rfT t u k) 1) cm' := by
  obtain ⟨h1, h2, h3, h4⟩ := h
  have hre : ReT t a (rfT t u k) := (h2 u hs (by omega)).2.st ⟨hu.1, k, hk, rfl⟩
  refine ⟨fun j => by unfold gu; split; omega; exact h1 j, fun j hj hl => ?_, fun z => ?_, ?_⟩
  · by_cases e : j = rfT t u k
    · rw [e]; exact ⟨hle, hre⟩
    · rw [gu_n _ _ e] at hj; exact h2 j hj hl
  · rcases hc.mp z with z | z
    · exact h3 z
    · rw [← z]; exact hre
  · by_cases e : a = rfT t u k
    · rw [← e, gu_s]
    · rw [gu_n _ _ e]; exact h4
theorem RcD.step {t : Nat → Nat} {b u k : Nat} {sn : Nat → Nat} {cm cm' : Bool} (h : RcD t b sn cm u k) (h1 : sn (rfT t u k) = 1) (hc : cm' = true ↔ cm = true ∨ rfT t u k = b) : RcD t b sn cm' u (k + 1) := by
  intro x y hx hxy hy hs
  by_cases e : x = u ∧ y = k
  · rw [e.1, e.2]; exact ⟨h1, fun z => hc.mpr (Or.inr z)⟩
  · obtain ⟨g1, g2⟩ := h x y hx (by omega) hy hs
    exact ⟨g1, fun z => hc.mpr (Or.inl (g2 z))⟩
theorem RcD.up {t : Nat → Nat} {b u k : Nat} {sn : Nat → Nat} {cm : Bool} (h : RcD t b sn cm u k) (hk : nrT t u ≤ k ∨ sn u ≠ 1) : RcD t b sn cm (u + 1) 0 := by
  intro x y hx hxy hy hs
  by_cases e : x = u
  · subst e
    rcases hk with hk | hk
    · exact h x y hx (by omega) hy hs
    · exact absurd hs hk
  · exact h x y hx (by omega) hy hs
theorem RcA.done {t : Nat → Nat} {N a b u : Nat} {sn : Nat → Nat} {cm mr : Bool} (h : RcA t N a b sn cm) (hN : N ≤ 200) (hh : hiAll t N ≤ N) (hne : a ≠ b) (ha : a ≤ N) (hu : N < u) (hD : mr = false → RcD t b sn cm u 0) (hx : mr = false ∨ cm = true) : cm = true ↔ ReT t a b := by
  refine ⟨h.2.2.1, fun z => ?_⟩
  rcases hx with hx | hx
  · have hD := hD hx
    have hcl := ReT.closed (t := t) (i := a) (S := fun j => j ≤ N ∧ sn j = 1) ⟨ha, h.2.2.2⟩ (fun x v hs he => by
      obtain ⟨h1, y, hy, rfl⟩ := he
      exact ⟨rfT_le hh h1 hs.1 hy, (hD x y h1 (by have := hs.1; omega) hy hs.2).1⟩)
    obtain ⟨n, hn⟩ := z
    cases n with
    | zero => exact absurd hn hne
    | succ n =>
      obtain ⟨k, g1, g2, y, g3, g4⟩ := hn
      have hs := hcl k ⟨n, g1⟩
      exact (hD k y g2 (by have := hs.1; omega) g3 hs.2).2 g4
  · exact hx
theorem sumN_up {f : Nat → Nat} {x n : Nat} (hx : x < n) (h0 : f x = 0) : sumN f n < sumN (gu f x 1) n := by
  rw [sumN_gu h0, if_pos hx]; omega
theorem sumN_guLe {f : Nat → Nat} {x n : Nat} (hx : x < n) (h1 : f x ≤ 1) : sumN f n ≤ sumN (gu f x 1) n := by
  by_cases z : f x = 0
  · exact Nat.le_of_lt (sumN_up hx z)
  · rw [gu_same (show f x = 1 by omega)]; exact Nat.le_refl _
theorem RcA.start {t : Nat → Nat} {N a b : Nat} {sn : Nat → Nat} (h1 : ∀ j, sn j ≤ 1) (h0 : ∀ j, j < 202 → sn j = 0) (ha : a ≤ N) : RcA t N a b (gu sn a 1) false := by
  refine ⟨fun j => by unfold gu; split; omega; exact h1 j, fun j hj hl => ?_, fun z => (by cases z), gu_s _ _ _⟩
  by_cases e : j = a
  · rw [e]; exact ⟨ha, ReT.rf _ _⟩
  · rw [gu_n _ _ e, h0 j hl] at hj; omega
/-- how many types are on a ring with i -/
def RingC (t : Nat → Nat) (i n c : Nat) : Prop := ∃ p : Nat → Bool, (∀ j, 1 ≤ j → j ≤ n → (p j = true ↔ ReT t i j ∧ ReT t j i)) ∧ c = cntP p n
theorem RingC.uniq {t : Nat → Nat} {i n c c' : Nat} (h : RingC t i n c) (h' : RingC t i n c') : c = c' := by
  obtain ⟨p, a, b⟩ := h
  obtain ⟨p', a', b'⟩ := h'
  rw [b, b']
  refine cntP_congr n (fun j x y => ?_)
  have := (a j x y).trans (a' j x y).symm
  cases h1 : p j <;> cases h2 : p' j
  · rfl
  · exact absurd (this.mpr h2) (by rw [h1]; decide)
  · exact absurd (this.mp h1) (by rw [h2]; decide)
  · rfl
def RingI (t : Nat → Nat) (i u c : Nat) : Prop := ∃ p : Nat → Bool, (∀ j, 1 ≤ j → j < u → (p j = true ↔ ReT t i j ∧ ReT t j i)) ∧ c + (if i < u then 1 else 0) = cntP p (u - 1) + 1
theorem RingI.step {t : Nat → Nat} {i u c c' : Nat} (h : RingI t i u c) (hu : 1 ≤ u) (b : Bool) (hb : b = true ↔ ReT t i u ∧ ReT t u i) (hc : c' + (if u = i then 1 else 0) = c + (if b = true then 1 else 0)) : RingI t i (u + 1) c' := by
  obtain ⟨p, h1, h2⟩ := h
  refine ⟨fun j => if j = u then b else p j, fun j a e => ?_, ?_⟩
  · by_cases z : j = u
    · subst z; simp only [if_true]; exact hb
    · simp only [if_neg z]; exact h1 j a (by omega)
  · obtain ⟨k, rfl⟩ : ∃ k, u = k + 1 := ⟨u - 1, by omega⟩
    rw [Nat.add_sub_cancel] at h2 ⊢
    simp only [cntP, if_true]
    rw [cntP_congr (q := p) k (fun j x y => by rw [if_neg (by omega)])]
    by_cases z : k + 1 = i
    · subst z
      rw [if_neg (Nat.lt_irrefl _)] at h2
      rw [if_pos rfl] at hc
      rw [if_pos (Nat.lt_succ_self _)]
      omega
    · rw [if_neg z] at hc
      by_cases y : i < k + 1
      · rw [if_pos y] at h2; rw [if_pos (by omega)]; omega
      · rw [if_neg y] at h2; rw [if_neg (by omega)]; omega
theorem RingI.done {t : Nat → Nat} {i n c : Nat} (h : RingI t i (n + 1) c) (hi : i ≤ n) : RingC t i n c := by
  obtain ⟨p, h1, h2⟩ := h
  rw [if_pos (by omega), Nat.add_sub_cancel] at h2
  exact ⟨p, fun j a b => h1 j a (by omega), by omega⟩
