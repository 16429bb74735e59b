theorem DL.b {B dr : Nat} {d : Nat → Nat} {P : List Nat} (h : DL B d dr P) : ∀ j, d j < 256 := h.2.2
theorem DL.nil {d : Nat → Nat} (h : ∀ j, d j < 256) : DL 0 d 0 [] := ⟨rfl, fun j hj => absurd hj (by simp), h⟩
theorem DL.nil24 {d : Nat → Nat} (h : ∀ j, d j < 256) : DL 24 d 24 [] := ⟨rfl, fun j hj => absurd hj (by simp), h⟩
theorem map_s (f : Nat → Nat) (c : Nat) : (List.range (c + 1)).map f = (List.range c).map f ++ [f c] := by
  rw [List.range_succ, List.map_append]; rfl
theorem getD_appL {L M : List Nat} {j : Nat} (h : j < L.length) : (L ++ M).getD j 0 = L.getD j 0 := by
  simp [List.getD_eq_getElem?_getD, List.getElem?_append_left h]
theorem getD_appR {L M : List Nat} {j : Nat} (h : L.length ≤ j) : (L ++ M).getD j 0 = M.getD (j - L.length) 0 := by
  simp [List.getD_eq_getElem?_getD, List.getElem?_append_right h]
theorem headL_eq (tb fb : Nat) : headL tb fb = leB 60319 2 ++ leB 1 2 ++ leB 24 4 ++ leB 0 4 ++ leB tb 4 ++ leB tb 4 ++ leB fb 4 := by
  unfold headL
  rw [show leB 1 2 = leB 1 1 ++ leB 0 1 from by decide]
  simp only [List.append_assoc]
theorem headL_len (tb fb : Nat) : (headL tb fb).length = 24 := by
  unfold headL; simp only [List.length_append, leB_len]
/-- head and body of the draft together -/
theorem DL.join {d0 d : Nat → Nat} {dr tb fb : Nat} {P : List Nat} (h : DL 24 d0 dr P) (hl : dr ≤ 16384) (hh : DL 0 d 24 (headL tb fb)) (hk : ∀ j, 24 ≤ j → d j = d0 j) : ∀ j, j < dr → d j = (headL tb fb ++ P).getD j 0 := by
  intro j hj
  obtain ⟨h1, h2, -⟩ := h
  by_cases z : j < 24
  · rw [getD_appL (by rw [headL_len]; exact z), ← hh.2.1 j (by rw [headL_len]; exact z) (by omega), Nat.zero_add]
  · rw [getD_appR (by rw [headL_len]; omega), headL_len, hk j (by omega), ← h2 (j - 24) (by omega) (by omega)]
    congr 1; omega
theorem fsum_N {t : Nat → Nat} {p : Nat → Bool} {N : Nat} (hN : N ≤ 200) : fsum t p N ≤ 157288800 := by
  have := fsum_le t p N; omega
theorem stL_b {t : Nat → Nat} {pl le fr : Nat → Nat} {nc fb : Nat} (h : DOK t pl le fr nc fb) {k : Nat} (hk : k ≤ nc) : (stL t pl le k).length + 1 ≤ fb ∧ fb ≤ 6554401 := by
  rw [stL_len]
  have h1 := h.len
  have h2 := stLen_mono le hk
  have h3 := h.1.2
  exact ⟨by omega, by have := Nat.mul_le_mul_right 8193 h3.2; omega⟩
theorem lfF_at {t : Nat → Nat} : ∀ (f s c : Nat), c < lfF t f s → t (s + c) ≠ 0
  | 0, s, c, h => absurd h (Nat.not_lt_zero _)
  | f + 1, s, c, h => by
    simp only [lfF] at h
    split at h
    · omega
    · cases c with
      | zero => assumption
      | succ c => have h9 := lfF_at (t := t) f (s + 1) c (by omega); rwa [show s + (c + 1) = s + 1 + c by omega]
theorem lfr_at {t : Nat → Nat} {s c : Nat} (h : c < lfr t s) : t (s + c) ≠ 0 := lfF_at _ _ _ h
