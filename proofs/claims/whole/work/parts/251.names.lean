/-! names: how many letters from a place on; are two names the same; the row of different names -/
def lfF (t : Nat → Nat) : Nat → Nat → Nat
  | 0, _ => 0
  | f + 1, s => if t s = 0 then 0 else 1 + lfF t f (s + 1)
def lfr (t : Nat → Nat) (s : Nat) : Nat := lfF t 20000 s
theorem lfF_eq {t : Nat → Nat} : ∀ (f n s : Nat), n < f → (∀ j, j < n → t (s + j) ≠ 0) → t (s + n) = 0 → lfF t f s = n
  | 0, n, s, h, _, _ => absurd h (by omega)
  | f + 1, 0, s, _, _, h0 => by simp only [lfF]; exact if_pos h0
  | f + 1, n + 1, s, h, hn, h0 => by
    simp only [lfF]
    rw [if_neg (show t s ≠ 0 from hn 0 (by omega)), lfF_eq f n (s + 1) (by omega) (fun j hj => by have := hn (j + 1) (by omega); rwa [show s + 1 + j = s + (j + 1) by omega]) (by rwa [show s + 1 + n = s + (n + 1) by omega])]
    omega
theorem lfr_eq {t : Nat → Nat} {n s : Nat} (h : n < 20000) (hn : ∀ j, j < n → t (s + j) ≠ 0) (h0 : t (s + n) = 0) : lfr t s = n := lfF_eq _ _ _ h hn h0
/-- there is an end: from s on a 0 comes within n bytes -/
theorem lfr_end {t : Nat → Nat} : ∀ (n s : Nat), n < 20000 → t (s + n) = 0 → ∃ m, m ≤ n ∧ (∀ j, j < m → t (s + j) ≠ 0) ∧ t (s + m) = 0
  | 0, s, _, h => ⟨0, Nat.le_refl _, fun j hj => absurd hj (by omega), h⟩
  | n + 1, s, hn, h => by
    by_cases h0 : t s = 0
    · exact ⟨0, by omega, fun j hj => absurd hj (by omega), h0⟩
    · obtain ⟨m, h1, h2, h3⟩ := lfr_end (t := t) n (s + 1) (by omega) (by rwa [show s + 1 + n = s + (n + 1) by omega])
      refine ⟨m + 1, by omega, fun j hj => ?_, by rwa [show s + (m + 1) = s + 1 + m by omega]⟩
      cases j with
      | zero => exact h0
      | succ j => have := h2 j (by omega); rwa [show s + (j + 1) = s + 1 + j by omega]
theorem lfr_spec {t : Nat → Nat} {n s : Nat} (hn : n < 20000) (h0 : t (s + n) = 0) : lfr t s ≤ n ∧ (∀ j, j < lfr t s → t (s + j) ≠ 0) ∧ t (s + lfr t s) = 0 := by
  obtain ⟨m, h1, h2, h3⟩ := lfr_end n s hn h0
  rw [lfr_eq (by omega) h2 h3]
  exact ⟨h1, h2, h3⟩
theorem cut_out {b : Nat → Nat} {c i : Nat} (h : c ≤ i) : cut b c i = 0 := if_neg (by omega)
theorem lfr_cut {b : Nat → Nat} {c s : Nat} (hc : c ≤ 8192) : lfr (cut b c) s ≤ c - s ∧ (∀ j, j < lfr (cut b c) s → cut b c (s + j) ≠ 0) ∧ cut b c (s + lfr (cut b c) s) = 0 := lfr_spec (by omega) (cut_out (by omega))
def seqn (t : Nat → Nat) (s s' : Nat) : Prop := lfr t s = lfr t s' ∧ ∀ j, j < lfr t s → t (s + j) = t (s' + j)
theorem seqn.rf (t : Nat → Nat) (s : Nat) : seqn t s s := ⟨rfl, fun _ _ => rfl⟩
theorem seqn.sy {t : Nat → Nat} {s s' : Nat} (h : seqn t s s') : seqn t s' s := ⟨h.1.symm, fun j hj => (h.2 j (by rw [h.1]; exact hj)).symm⟩
theorem seqn.tr {t : Nat → Nat} {a b c : Nat} (h : seqn t a b) (h' : seqn t b c) : seqn t a c := ⟨h.1.trans h'.1, fun j hj => (h.2 j hj).trans (h'.2 j (by rw [← h.1]; exact hj))⟩
/-- the row of different names: places, letters, where they come anew -/
def NB (pl le fr : Nat → Nat) (fb nc : Nat) : Prop := (∀ j, pl j < 2 ^ 20 ∧ le j < 2 ^ 20 ∧ fr j < 2 ^ 24) ∧ fb ≤ 1 + nc * 8193 ∧ nc ≤ 800
def DOK (t : Nat → Nat) (pl le fr : Nat → Nat) (nc fb : Nat) : Prop := NB pl le fr fb nc ∧ (∀ d, 1 ≤ d → d ≤ nc → le d = lfr t (pl d) ∧ lfr t (pl d) ≠ 0 ∧ fr (d + 1 - 1) = fr d) ∧ (∀ d e, 1 ≤ d → d < e → e ≤ nc → ¬ seqn t (pl d) (pl e)) ∧ (∀ d, 1 ≤ d → d < nc → fr (d + 1) = fr d + (le d + 1)) ∧ (1 ≤ nc → fr 1 = 1 ∧ fb = fr nc + (le nc + 1)) ∧ (nc = 0 → fb = 1)
/-- what asking for a name's number does -/
def NumOf (t : Nat → Nat) (s : Nat) (pl le fr : Nat → Nat) (nc fb : Nat) (pl' le' fr' : Nat → Nat) (nc' fb' r : Nat) : Prop :=
  (lfr t s = 0 ∧ r = 0 ∧ pl' = pl ∧ le' = le ∧ fr' = fr ∧ nc' = nc ∧ fb' = fb) ∨
  (lfr t s ≠ 0 ∧ 1 ≤ r ∧ r ≤ nc ∧ seqn t (pl r) s ∧ pl' = pl ∧ le' = le ∧ fr' = fr ∧ nc' = nc ∧ fb' = fb) ∨
  (lfr t s ≠ 0 ∧ (∀ d, 1 ≤ d → d ≤ nc → ¬ seqn t (pl d) s) ∧ r = nc + 1 ∧ pl' = gu pl (nc + 1) s ∧ le' = gu le (nc + 1) (lfr t s) ∧ fr' = gu fr (nc + 1) fb ∧ nc' = nc + 1 ∧ fb' = fb + (lfr t s + 1))
theorem sameB_seqn {t : Nat → Nat} {s s' n : Nat} (h1 : lfr t s = n) (h2 : lfr t s' = n) : sameB t s t s' n = true ↔ seqn t s' s := by
  unfold sameB seqn
  rw [decide_eq_true_iff, h1, h2]
  exact ⟨fun h => ⟨rfl, fun j hj => (h j hj).symm⟩, fun h j hj => (h.2 j hj).symm⟩
theorem DOK.numOf {t : Nat → Nat} {s nc fb nc' fb' r : Nat} {pl le fr pl' le' fr' : Nat → Nat} (h : DOK t pl le fr nc fb) (hs : s < 2 ^ 20) (hl : lfr t s ≤ 8192) (hn : nc < 800) (hx : NumOf t s pl le fr nc fb pl' le' fr' nc' fb' r) : DOK t pl' le' fr' nc' fb' := by
  rcases hx with ⟨-, -, rfl, rfl, rfl, rfl, rfl⟩ | ⟨-, -, -, -, rfl, rfl, rfl, rfl, rfl⟩ | ⟨h0, hno, -, rfl, rfl, rfl, rfl, rfl⟩
  · exact h
  · exact h
  · obtain ⟨⟨hb, hfb, hnc⟩, h1, h2, h3, h4, h5⟩ := h
    have hgs : ∀ (f : Nat → Nat) (v : Nat), gu f (nc + 1) v (nc + 1) = v := fun f v => gu_s f _ v
    have hgn : ∀ (f : Nat → Nat) (v d : Nat), d ≤ nc → gu f (nc + 1) v d = f d := fun f v d hd => gu_n f v (by omega)
    have hm : nc * 8193 ≤ 799 * 8193 := Nat.mul_le_mul_right _ (by omega)
    refine ⟨⟨fun j => ?_, by rw [Nat.add_mul]; omega, by omega⟩, fun d hd1 hd2 => ?_, fun d e hd1 hde he => ?_, fun d hd1 hd2 => ?_, fun _ => ⟨?_, ?_⟩, fun z => by omega⟩
    · obtain ⟨b1, b2, b3⟩ := hb j
      by_cases hj : j = nc + 1
      · subst hj; rw [hgs, hgs, hgs]; exact ⟨hs, by omega, by omega⟩
      · rw [gu_n _ _ hj, gu_n _ _ hj, gu_n _ _ hj]; exact ⟨b1, b2, b3⟩
    · by_cases hd : d = nc + 1
      · subst hd; rw [hgs, hgs]; exact ⟨rfl, h0, rfl⟩
      · rw [hgn _ _ d (by omega), hgn _ _ d (by omega)]; exact ⟨(h1 d hd1 (by omega)).1, (h1 d hd1 (by omega)).2.1, rfl⟩
    · rw [hgn _ _ d (by omega)]
      by_cases hd : e = nc + 1
      · subst hd; rw [hgs]; exact hno d hd1 (by omega)
      · rw [hgn _ _ e (by omega)]; exact h2 d e hd1 hde (by omega)
    · rw [hgn _ _ d (by omega), hgn _ _ d (by omega)]
      by_cases hd : d = nc
      · subst hd; rw [hgs]; exact (h4 (by omega)).2
      · rw [hgn _ _ (d + 1) (by omega)]; exact h3 d hd1 (by omega)
    · by_cases hd : nc = 0
      · subst hd; rw [show (1 : Nat) = 0 + 1 from rfl, hgs]; exact h5 rfl
      · rw [hgn _ _ 1 (by omega)]; exact (h4 (by omega)).1
    · rw [hgs, hgs]
