/-! the first table; the leaders -/
def IN (t : Nat → Nat) (sg : Nat) (M : Nat → Nat) (a b : Nat) : Prop := (M (202 * a + b) = 0 ∧ (a = b ∨ a ≠ 0 ∧ b ≠ 0 ∧ lab t sg a b)) ∨ (M (202 * a + b) = 1 ∧ a ≠ b ∧ (a = 0 ∨ b = 0 ∨ ¬ lab t sg a b))
theorem IN.le {t : Nat → Nat} {sg : Nat} {M : Nat → Nat} {a b : Nat} (h : IN t sg M a b) : M (202 * a + b) ≤ 1 := by
  rcases h with ⟨h, -⟩ | ⟨h, -⟩ <;> omega
theorem IN.step {t : Nat → Nat} {sg N I J v : Nat} {M : Nat → Nat} (hN : N ≤ 200) (hJ : J ≤ 200) (h : ∀ a b, a ≤ N → b ≤ N → (a < I ∨ a = I ∧ b < J) → IN t sg M a b) (hv : (v = 0 ∧ (I = J ∨ I ≠ 0 ∧ J ≠ 0 ∧ lab t sg I J)) ∨ (v = 1 ∧ I ≠ J ∧ (I = 0 ∨ J = 0 ∨ ¬ lab t sg I J))) : ∀ a b, a ≤ N → b ≤ N → (a < I ∨ a = I ∧ b < J + 1) → IN t sg (gu M (202 * I + J) v) a b := by
  intro a b ha hb hz
  by_cases e : a = I ∧ b = J
  · unfold IN; rw [e.1, e.2, gu_s]; exact hv
  · unfold IN; rw [gu_n _ _ (fun y => e ((ix_inj (by omega) (by omega)).mp y))]
    exact h a b ha hb (by omega)
theorem gu_gu (f : Nat → Nat) (i x y : Nat) : gu (gu f i x) i y = gu f i y := by
  funext j; unfold gu; split <;> rfl
/-- leaders and numbers of the types below i -/
def LdI (t : Nat → Nat) (sg : Nat) (ld nu : Nat → Nat) (cl i : Nat) : Prop := (∀ j, 1 ≤ j → j < i → LdA t sg ld j ∧ nu j = cntP (ldB ld) (ld j)) ∧ cl = cntP (ldB ld) (i - 1)
theorem LdI.step {t : Nat → Nat} {sg : Nat} {ld nu : Nat → Nat} {cl i x v cl' : Nat} (h : LdI t sg ld nu cl i) (hi : 1 ≤ i) (hx : 1 ≤ x ∧ x ≤ i) (ha : ∀ e, alk t sg e i x) (hm : ∀ b, 1 ≤ b → b < x → ¬ ∀ e, alk t sg e i b) (hv : v = if x = i then cl + 1 else nu x) (hc : cl' = if x = i then cl + 1 else cl) : LdI t sg (gu ld i x) (gu nu i v) cl' (i + 1) := by
  have hp : ∀ n, n < i → cntP (ldB (gu ld i x)) n = cntP (ldB ld) n := fun n hn => cntP_congr n (fun j a b => by unfold ldB; rw [gu_n _ _ (by omega)])
  have hci : cntP (ldB (gu ld i x)) i = if x = i then cl + 1 else cl := by
    obtain ⟨k, rfl⟩ : ∃ k, i = k + 1 := ⟨i - 1, by omega⟩
    simp only [cntP]
    rw [hp k (by omega), h.2, Nat.add_sub_cancel]
    unfold ldB
    rw [gu_s]
    by_cases z : x = k + 1
    · rw [if_pos z, if_pos (decide_eq_true z)]
    · rw [if_neg z, if_neg (fun y => z (of_decide_eq_true y))]; rfl
  refine ⟨fun j a b => ?_, by rw [Nat.add_sub_cancel, hci, hc]⟩
  by_cases e : j = i
  · subst e
    refine ⟨?_, ?_⟩
    · unfold LdA; rw [gu_s]; exact ⟨hx, ha, hm⟩
    · rw [gu_s, gu_s, hv]
      by_cases z : x = j
      · rw [if_pos z] at hci ⊢; rw [← hci, z]
      · have hl := (h.1 x hx.1 (by omega))
        have hid : ld x = x := by
          obtain ⟨⟨⟨q1, q2⟩, q3, q4⟩, -⟩ := hl
          by_cases y : ld x < x
          · exact absurd (fun e => (ha e).tr (q3 e)) (hm _ q1 y)
          · omega
        rw [if_neg z, hl.2, hid, hp x (by omega)]
  · obtain ⟨g1, g2⟩ := h.1 j a (by omega)
    refine ⟨?_, ?_⟩
    · unfold LdA at g1 ⊢; rw [gu_n _ _ e]; exact g1
    · rw [gu_n _ _ e, gu_n _ _ e, g2]
      exact (hp _ (by have := g1.1.2; omega)).symm
theorem LdI.ok {t : Nat → Nat} {sg N : Nat} {ld nu : Nat → Nat} {cl : Nat} (h : LdI t sg ld nu cl (N + 1)) : LdOK t sg N ld nu ∧ cl = cntP (ldB ld) N := ⟨fun i a b => h.1 i a (by omega), h.2⟩
theorem Apart.z {t : Nat → Nat} {sg r i j : Nat} (h : Apart t sg r i j) : r = 0 ↔ ∀ e, alk t sg e i j := by
  rcases h with ⟨a, b⟩ | ⟨a, b, c⟩
  · exact ⟨fun _ => b, fun _ => a⟩
  · exact ⟨fun z => absurd z (by omega), fun z => absurd (z _) b⟩
theorem MdA.copy {t : Nat → Nat} {N np : Nat} {nN nK nV nF nR nM nO nT nB pN pT pU gN gK gV gF gR gM gO gT gB hN hT hU : Nat → Nat} (h : MdA t N nN nK nV nF nR nM nO nT nB pN pT pU) (hnp : np = itc t N) (hc : ∀ j, 1 ≤ j → j < N + 1 → gN j = nN j ∧ gK j = nK j ∧ gV j = nV j ∧ gF j = nF j ∧ gR j = nR j ∧ gM j = nM j ∧ gO j = nO j ∧ gT j = nT j ∧ gB j = nB j) (hp : ∀ j, j < np → hN j = pN j ∧ hT j = pT j ∧ hU j = pU j) : MdA t N gN gK gV gF gR gM gO gT (gu gB (N + 1) np) hN hT hU := by
  refine ⟨fun j hj => ?_, fun j hj => ?_, fun j p hj hpp => ?_, fun p hpp => absurd hpp (by omega)⟩
  · obtain ⟨c1, c2, c3, c4, c5, c6, c7, c8, -⟩ := hc (j + 1) (by omega) (by omega)
    unfold TyE
    rw [c1, c2, c3, c4, c5, c6, c7, c8]
    exact h.1 j hj
  · by_cases e : j = N
    · rw [e, gu_s, hnp]
    · rw [gu_n _ _ (by omega), (hc (j + 1) (by omega) (by omega)).2.2.2.2.2.2.2.2]
      exact h.2.1 j hj
  · have h1 : itc t j + p < np := by
      have := itc_mono t (i := j + 1) (j := N) (by omega)
      have h2 : itc t (j + 1) = itc t j + ic (inft t (j + 1)) := rfl
      omega
    obtain ⟨c1, c2, c3⟩ := hp _ h1
    unfold PtE
    rw [c1, c2, c3]
    exact h.2.2.1 j p hj hpp
