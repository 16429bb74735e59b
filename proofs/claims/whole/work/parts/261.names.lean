/-! the names that the types tell of, in order; which name each tells of -/
def nmW (t : Nat → Nat) (a k : Nat) : Nat → List Nat
  | 0 => []
  | w + 1 => if rl k w = 1 then nmW t a k w ++ [num t (a + 4 * w) 4] else nmW t a k w
def nmA (t : Nat → Nat) : Nat → List Nat
  | 0 => []
  | m + 1 => nmA t m ++ nmW t (off t (m + 1)) (kd (inft t (m + 1))) (wds (inft t (m + 1)))
/-- of the first m types, and of the first w words of the next -/
def nmP (t : Nat → Nat) (m w : Nat) : List Nat := nmA t m ++ nmW t (off t (m + 1)) (kd (inft t (m + 1))) w
theorem nmP_0 (t : Nat → Nat) (m : Nat) : nmP t m 0 = nmA t m := by simp [nmP, nmW]
theorem nmP_all (t : Nat → Nat) (m : Nat) : nmP t m (wds (inft t (m + 1))) = nmA t (m + 1) := rfl
theorem nmP_s {t : Nat → Nat} {m w : Nat} (h : rl (kd (inft t (m + 1))) w = 1) : nmP t m (w + 1) = nmP t m w ++ [num t (off t (m + 1) + 4 * w) 4] := by
  simp only [nmP, nmW]
  rw [if_pos h, List.append_assoc]
theorem nmP_n {t : Nat → Nat} {m w : Nat} (h : rl (kd (inft t (m + 1))) w ≠ 1) : nmP t m (w + 1) = nmP t m w := by
  simp only [nmP, nmW]
  rw [if_neg h]
def cn (k u : Nat) : Nat := if k = 4 ∨ k = 5 then (u + 2) / 3 else if k = 6 ∨ k = 13 then (u + 1) / 2 else 0
theorem nmW_len3 (t : Nat → Nat) (a k u : Nat) : (nmW t a k (3 + u)).length = 1 + cn k u := by
  induction u with
  | zero =>
    have h2 : rl k 2 ≠ 1 := by unfold rl; simp; split <;> omega
    have h1 : rl k 1 ≠ 1 := by unfold rl; simp
    have h0 : rl k 0 = 1 := rfl
    simp only [nmW]
    rw [if_neg h2, if_neg h1, if_pos h0]
    simp only [nmW, cn]
    split
    · rfl
    · split <;> rfl
  | succ u ih =>
    rw [show 3 + (u + 1) = (3 + u) + 1 from rfl]
    simp only [nmW]
    have hr : rl k (3 + u) = rlb k u := by
      unfold rl
      rw [if_neg (by omega), if_neg (by omega), if_neg (by omega), show 3 + u - 3 = u by omega]
    rw [hr]
    unfold rlb
    unfold cn at ih ⊢
    by_cases h3 : k = 3
    · subst h3; simp only [if_true]; rw [if_neg (by split <;> omega), ih]; simp
    · rw [if_neg h3]
      by_cases h4 : k = 4 ∨ k = 5
      · simp only [if_pos h4] at ih ⊢
        by_cases hu : u % 3 = 0
        · rw [if_pos hu, if_pos rfl, List.length_append, ih]; simp only [List.length_singleton]; omega
        · rw [if_neg hu, if_neg (by split <;> omega), ih]; omega
      · simp only [if_neg h4] at ih ⊢
        by_cases h6 : k = 6
        · subst h6
          simp only [if_true, true_or] at ih ⊢
          by_cases hu : u % 2 = 0
          · rw [if_pos hu, if_pos rfl, List.length_append, ih]; simp only [List.length_singleton]; omega
          · rw [if_neg hu, if_neg (by omega), ih]; omega
        · rw [if_neg h6]
          by_cases h13 : k = 13
          · subst h13
            simp only [if_true, or_true] at ih ⊢
            by_cases hu : u % 2 = 0
            · rw [if_pos hu, if_pos rfl, List.length_append, ih]; simp only [List.length_singleton]; omega
            · rw [if_neg hu, if_neg (by omega), ih]; omega
          · rw [if_neg h13, if_neg (by omega), ih, if_neg (by omega), if_neg (by omega)]
theorem nmW_len (t : Nat → Nat) (a i : Nat) : (nmW t a (kd i) (wds i)).length = 1 + ic i := by
  unfold wds
  rw [Nat.add_assoc, nmW_len3]
  unfold cn ic fxw itw
  by_cases h1 : kd i = 1
  · rw [h1]; simp
  · by_cases h3 : kd i = 3
    · rw [h3]; simp
    · by_cases h4 : kd i = 4 ∨ kd i = 5
      · rw [if_pos h4, if_neg h1, if_neg h3, if_pos h4]; simp only [Nat.zero_add]; rw [if_neg (by decide)]; omega
      · by_cases h6 : kd i = 6 ∨ kd i = 13
        · rw [if_neg h4, if_pos h6, if_neg h1, if_neg h3, if_neg h4]; simp only [Nat.zero_add, if_pos h6]; rw [if_neg (by decide)]; omega
        · rw [if_neg h4, if_neg h6, if_neg h4, if_neg h6]; simp
theorem nmW_mono (t : Nat → Nat) (a k : Nat) {w w' : Nat} (h : w ≤ w') : (nmW t a k w).length ≤ (nmW t a k w').length := by
  induction w' with
  | zero => rw [show w = 0 by omega]; exact Nat.le_refl _
  | succ w' ih =>
    by_cases e : w = w' + 1
    · subst e; exact Nat.le_refl _
    · have := ih (by omega)
      simp only [nmW]
      split
      · rw [List.length_append]; omega
      · exact this
theorem nmA_len (t : Nat → Nat) (m : Nat) : (nmA t m).length = m + itc t m := by
  induction m with
  | zero => rfl
  | succ m ih => simp only [nmA, itc]; rw [List.length_append, ih, nmW_len]; omega
theorem nmP_lt {t : Nat → Nat} {m w : Nat} (hw : w < wds (inft t (m + 1))) (h : rl (kd (inft t (m + 1))) w = 1) : (nmP t m w).length < m + 1 + itc t (m + 1) := by
  rw [← nmA_len t (m + 1), ← nmP_all]
  have h1 : (nmP t m (w + 1)).length = (nmP t m w).length + 1 := by rw [nmP_s h]; simp
  have h2 : (nmP t m (w + 1)).length ≤ (nmP t m (wds (inft t (m + 1)))).length := by
    simp only [nmP, List.length_append]
    have := nmW_mono t (off t (m + 1)) (kd (inft t (m + 1))) (show w + 1 ≤ wds (inft t (m + 1)) by omega)
    omega
  omega
def NOK (t : Nat → Nat) (sg : Nat) (L : List Nat) (te pl le fr : Nat → Nat) (nc fb : Nat) : Prop :=
  DOK t pl le fr nc fb ∧ nc ≤ L.length ∧
  (∀ s, s < L.length → (lfr t (sg + L.getD s 0) = 0 ∧ te s = 0) ∨ (lfr t (sg + L.getD s 0) ≠ 0 ∧ 1 ≤ te s ∧ te s ≤ nc ∧ seqn t (pl (te s)) (sg + L.getD s 0))) ∧
  (∀ d, 1 ≤ d → d ≤ nc → ∃ s, s < L.length ∧ sg + L.getD s 0 = pl d ∧ te s = d ∧ ∀ s', s' < s → te s' < d) ∧ (∀ j, te j ≤ 800)
theorem getD_app {L : List Nat} {x s : Nat} (h : s < L.length) : (L ++ [x]).getD s 0 = L.getD s 0 := by
  simp [List.getD_eq_getElem?_getD, List.getElem?_append_left h]
theorem getD_last (L : List Nat) (x : Nat) : (L ++ [x]).getD L.length 0 = x := by simp [List.getD_eq_getElem?_getD]
theorem NOK.step {t : Nat → Nat} {sg x nc fb nc' fb' r : Nat} {L : List Nat} {te pl le fr pl' le' fr' : Nat → Nat} (h : NOK t sg L te pl le fr nc fb) (hs : sg + x < 2 ^ 20) (hl : lfr t (sg + x) ≤ 8192) (hn : L.length < 800) (hx : NumOf t (sg + x) pl le fr nc fb pl' le' fr' nc' fb' r) :
    NOK t sg (L ++ [x]) (gu te L.length r) pl' le' fr' nc' fb' := by
  obtain ⟨hD, hnc, h1, h2, h3⟩ := h
  have hlen : (L ++ [x]).length = L.length + 1 := by simp
  have hte : ∀ s, s < L.length → gu te L.length r s = te s := fun s hs => gu_n _ _ (by omega)
  have hD' := hD.numOf hs hl (by omega) hx
  have hr : r ≤ 800 ∧ nc ≤ nc' ∧ nc' ≤ nc + 1 ∧ (∀ d, d ≤ nc → pl' d = pl d) := by
    rcases hx with ⟨-, rfl, rfl, rfl, rfl, rfl, rfl⟩ | ⟨-, z1, z2, -, rfl, rfl, rfl, rfl, rfl⟩ | ⟨-, -, rfl, rfl, rfl, rfl, rfl, rfl⟩
    · exact ⟨by omega, Nat.le_refl _, by omega, fun _ _ => rfl⟩
    · exact ⟨by omega, Nat.le_refl _, by omega, fun _ _ => rfl⟩
    · exact ⟨by omega, by omega, by omega, fun d hd => gu_n _ _ (by omega)⟩
  refine ⟨hD', by rw [hlen]; omega, fun s hs2 => ?_, fun d hd1 hd2 => ?_, fun j => ?_⟩
  · rw [hlen] at hs2
    by_cases e : s = L.length
    · subst e
      rw [getD_last, gu_s]
      rcases hx with ⟨z0, rfl, rfl, rfl, rfl, rfl, rfl⟩ | ⟨z0, z1, z2, z3, rfl, rfl, rfl, rfl, rfl⟩ | ⟨z0, z1, rfl, rfl, rfl, rfl, rfl, rfl⟩
      · exact Or.inl ⟨z0, rfl⟩
      · exact Or.inr ⟨z0, z1, z2, z3⟩
      · exact Or.inr ⟨z0, by omega, Nat.le_refl _, by rw [gu_s]; exact seqn.rf _ _⟩
    · have hs3 : s < L.length := by omega
      rw [getD_app hs3, hte s hs3]
      rcases h1 s hs3 with z | ⟨z0, z1, z2, z3⟩
      · exact Or.inl z
      · exact Or.inr ⟨z0, z1, by omega, by rw [hr.2.2.2 _ z2]; exact z3⟩
  · by_cases hd : d ≤ nc
    · obtain ⟨s, q1, q2, q3, q4⟩ := h2 d hd1 hd
      exact ⟨s, by rw [hlen]; omega, by rw [getD_app q1, hr.2.2.2 d hd]; exact q2, by rw [hte s q1]; exact q3, fun s' hs' => by rw [hte s' (by omega)]; exact q4 s' hs'⟩
    · have hd9 : d = nc + 1 := by omega
      subst hd9
      rcases hx with ⟨-, rfl, rfl, rfl, rfl, rfl, rfl⟩ | ⟨-, z1, z2, -, rfl, rfl, rfl, rfl, rfl⟩ | ⟨-, -, rfl, rfl, rfl, rfl, rfl, rfl⟩
      · omega
      · omega
      · refine ⟨L.length, by rw [hlen]; omega, by rw [getD_last, gu_s], gu_s _ _ _, fun s' hs' => ?_⟩
        rw [hte s' hs']
        rcases h1 s' hs' with z | ⟨-, -, z2, -⟩
        · omega
        · omega
  · unfold gu
    split
    · exact hr.1
    · exact h3 j
theorem NOK_0 (t : Nat → Nat) (sg : Nat) {te pl le fr : Nat → Nat} (hb : ∀ j, pl j < 2 ^ 20 ∧ le j < 2 ^ 20 ∧ fr j < 2 ^ 24) (ht : ∀ j, te j ≤ 800) : NOK t sg [] te pl le fr 0 1 :=
  ⟨⟨⟨hb, by omega, by omega⟩, fun d h1 h2 => by omega, fun d e h1 h2 h3 => by omega, fun d h1 h2 => by omega, fun h => by omega, fun _ => rfl⟩, by simp, fun s hs => by simp at hs, fun d h1 h2 => by omega, ht⟩
def NamesOK (t : Nat → Nat) (N sg : Nat) (sl te pl le fr : Nat → Nat) (ns nc fb : Nat) : Prop :=
  ns = (nmA t N).length ∧ NOK t sg (nmA t N) te pl le fr nc fb ∧ (∀ j, j < N → sl (j + 1) = (nmA t j).length) ∧ (∀ j, sl j ≤ 800) ∧ ns ≤ 800
theorem okUpTo.at {t : Nat → Nat} {sg cnt N m : Nat} (h : okUpTo t sg cnt N) (hm : m < N) : off t (m + 1) < sg ∧ off t (m + 1) + 4 * wds (inft t (m + 1)) ≤ sg ∧ m + 1 + itc t (m + 1) ≤ 800 ∧ namesIn t (off t (m + 1)) sg cnt = true ∧ infoOK (inft t (m + 1)) = true := by
  obtain ⟨h1, h2⟩ := h.2.2.2 m hm
  obtain ⟨g1, g2, g3, g4, g5, g6, g7⟩ := teE_0 h2
  refine ⟨h1, g1, ?_, g6, g4⟩
  have : itc t (m + 1) ≤ 600 := g3
  omega
