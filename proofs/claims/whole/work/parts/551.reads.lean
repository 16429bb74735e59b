/-! what the reference asks of a type is what the class asks -/
theorem num_and {t : Nat → Nat} (ht : ∀ i, t i < 256) (a : Nat) {M : Nat} (hM : M < 2 ^ 32) : num t a 4 &&& M = 0 ↔ ∀ j, j < 4 → t (a + j) &&& (M / 2 ^ (8 * j) % 2 ^ 8) = 0 := by
  constructor
  · intro h j hj
    apply Nat.eq_of_testBit_eq
    intro b
    rw [Nat.testBit_and, Nat.zero_testBit, Nat.testBit_mod_two_pow, Nat.testBit_div_two_pow]
    by_cases hb : b < 8
    · have h1 := num_bit ht a 4 (8 * j + b) (by omega)
      rw [show (8 * j + b) / 8 = j by omega, show (8 * j + b) % 8 = b by omega] at h1
      have h2 : (num t a 4 &&& M).testBit (8 * j + b) = false := by rw [h, Nat.zero_testBit]
      rw [Nat.testBit_and, h1] at h2
      simp only [hb, decide_true, Bool.true_and]
      rw [Nat.add_comm b (8 * j)]
      exact h2
    · simp [hb]
  · intro h
    apply Nat.eq_of_testBit_eq
    intro k
    rw [Nat.testBit_and, Nat.zero_testBit]
    by_cases hk : k < 32
    · have h2 := h (k / 8) (by omega)
      have h3 : (t (a + k / 8) &&& (M / 2 ^ (8 * (k / 8)) % 2 ^ 8)).testBit (k % 8) = false := by rw [h2, Nat.zero_testBit]
      rw [Nat.testBit_and, Nat.testBit_mod_two_pow, Nat.testBit_div_two_pow] at h3
      simp only [show k % 8 < 8 from Nat.mod_lt _ (by decide), decide_true, Bool.true_and] at h3
      rw [num_bit ht a 4 k (by omega)]
      rw [show k % 8 + 8 * (k / 8) = k by omega] at h3
      exact h3
    · rw [Nat.testBit_lt_two_pow (x := M) (i := k) (Nat.lt_of_lt_of_le hM (Nat.pow_le_pow_right (by decide) (by omega))), Bool.and_false]
theorem and255 {x : Nat} (h : x < 256) : x &&& 255 = 0 ↔ x = 0 := by
  rw [show (255 : Nat) = 2 ^ 8 - 1 from rfl, Nat.and_two_pow_sub_one_eq_mod, Nat.mod_eq_of_lt h]
theorem and240 : ∀ x, x < 256 → (x &&& 240 = 0 ↔ x < 16) := by decide +kernel
theorem maskI {t : Nat → Nat} (ht : ∀ i, t i < 256) (a : Nat) : num t (a + 4) 4 &&& 1627324416 = 0 ↔ t (a + 6) = 0 ∧ t (a + 7) &&& 96 = 0 := by
  rw [num_and ht _ (by decide)]
  constructor
  · intro h
    exact ⟨(and255 (ht _)).mp (h 2 (by decide)), h 3 (by decide)⟩
  · rintro ⟨h1, h2⟩ j hj
    rcases (show j = 0 ∨ j = 1 ∨ j = 2 ∨ j = 3 by omega) with e | e | e | e <;> subst e
    · exact Nat.and_zero _
    · exact Nat.and_zero _
    · exact (and255 (ht _)).mpr h1
    · exact h2
theorem maskW {t : Nat → Nat} (ht : ∀ i, t i < 256) (a : Nat) : num t (a + 12) 4 &&& 4026597120 = 0 ↔ t (a + 13) = 0 ∧ t (a + 15) < 16 := by
  rw [num_and ht _ (by decide)]
  constructor
  · intro h
    exact ⟨(and255 (ht _)).mp (h 1 (by decide)), (and240 _ (ht _)).mp (h 3 (by decide))⟩
  · rintro ⟨h1, h2⟩ j hj
    rcases (show j = 0 ∨ j = 1 ∨ j = 2 ∨ j = 3 by omega) with e | e | e | e <;> subst e
    · exact Nat.and_zero _
    · exact (and255 (ht _)).mpr h1
    · exact Nat.and_zero _
    · exact (and240 _ (ht _)).mpr h2
theorem infoOK_iff {t : Nat → Nat} (ht : ∀ i, t i < 256) (a : Nat) : infoOK (num t (a + 4) 4) = true ↔ (1 ≤ t (a + 7) % 32 ∧ t (a + 7) % 32 ≤ 13) ∧ t (a + 6) = 0 ∧ t (a + 7) &&& 96 = 0 ∧ (num t (a + 4) 2 = 0 ∨ partsK (t (a + 7) % 32) ∨ t (a + 7) % 32 = 12 ∧ num t (a + 4) 2 ≤ 2) ∧ (t (a + 7) ≤ 127 ∨ 4 ≤ t (a + 7) % 32 ∧ t (a + 7) % 32 ≤ 7) := by
  have b7 := ht (a + 7)
  unfold infoOK
  rw [decide_eq_true_iff, kd_b ht, tl_b ht, fl_b ht, maskI ht, itw0]
  generalize num t (a + 4) 2 = v
  by_cases hp : partsK (t (a + 7) % 32)
  · constructor
    · rintro ⟨h1, h2, ⟨h3, h4⟩, -, h5⟩; exact ⟨⟨h1, h2⟩, h3, h4, Or.inr (Or.inl hp), by omega⟩
    · rintro ⟨⟨h1, h2⟩, h3, h4, -, h5⟩; exact ⟨h1, h2, ⟨h3, h4⟩, fun z => absurd hp z, by omega⟩
  · constructor
    · rintro ⟨h1, h2, ⟨h3, h4⟩, h6, h5⟩
      have h7 := h6 hp
      refine ⟨⟨h1, h2⟩, h3, h4, ?_, by omega⟩
      by_cases e : t (a + 7) % 32 = 12
      · rw [if_pos e] at h7; exact Or.inr (Or.inr ⟨e, h7⟩)
      · rw [if_neg e] at h7; exact Or.inl (by omega)
    · rintro ⟨⟨h1, h2⟩, h3, h4, h6, h5⟩
      refine ⟨h1, h2, ⟨h3, h4⟩, fun _ => ?_, by omega⟩
      rcases h6 with h6 | h6 | h6
      · rw [h6]; exact Nat.zero_le _
      · exact absurd h6 hp
      · rw [if_pos h6.1]; exact h6.2
theorem powB8 (r : Nat) : powB r 8 = smallZ r := by
  unfold powB smallZ
  congr 1
  apply propext
  omega
theorem powB16 (r : Nat) : powB r 16 = true ↔ (smallZ r || decide (r = 16)) = true := by
  unfold powB smallZ
  rw [Bool.or_eq_true, decide_eq_true_iff, decide_eq_true_iff, decide_eq_true_iff]
  omega
theorem restOK_iff {t : Nat → Nat} (ht : ∀ i, t i < 256) (a k : Nat) : restOK k (num t (a + 8) 4) (num t (a + 12) 4) = true ↔ ((k = 3 ∨ k = 7) → num t (a + 8) 4 = 0) ∧ (k = 6 → powB (num t (a + 8) 4) 8 = true) ∧
    (k = 1 → powB (num t (a + 8) 4) 16 = true ∧ t (a + 13) = 0 ∧ t (a + 15) < 16 ∧ 0 < t (a + 12) ∧ t (a + 12) + t (a + 14) ≤ 8 * num t (a + 8) 4) := by
  generalize num t (a + 8) 4 = r
  unfold restOK
  rw [powB8]
  by_cases h1 : k = 1
  · rw [if_pos h1, Bool.and_eq_true, ← powB16]
    unfold intOK
    have e1 : num t (a + 12) 4 % 256 = t (a + 12) := by
      have := num_byte ht (a + 12) 4 0 (by decide)
      rw [Nat.pow_zero, Nat.div_one, Nat.add_zero] at this
      exact this
    have e2 : num t (a + 12) 4 / 2 ^ 16 % 256 = t (a + 14) := num_byte ht (a + 12) 4 2 (by decide)
    rw [decide_eq_true_iff, maskW ht, e1, e2]
    constructor
    · rintro ⟨g1, ⟨g2, g3⟩, g4, g5⟩; exact ⟨fun z => by omega, fun z => by omega, fun _ => ⟨g1, g2, g3, g4, g5⟩⟩
    · rintro ⟨-, -, g⟩; obtain ⟨g1, g2, g3, g4, g5⟩ := g h1; exact ⟨g1, ⟨g2, g3⟩, g4, g5⟩
  · rw [if_neg h1]
    by_cases h6 : k = 6
    · rw [if_pos h6]; exact ⟨fun g => ⟨fun z => by omega, fun _ => g, fun z => absurd z h1⟩, fun g => g.2.1 h6⟩
    · rw [if_neg h6]
      by_cases h3 : k = 3 ∨ k = 7
      · rw [if_pos h3, decide_eq_true_iff]; exact ⟨fun g => ⟨fun _ => g, fun z => absurd z h6, fun z => absurd z h1⟩, fun g => g.1 h3⟩
      · rw [if_neg h3]; exact ⟨fun _ => ⟨fun z => absurd z h3, fun z => absurd z h6, fun z => absurd z h1⟩, fun _ => rfl⟩
theorem Told_iff {t : Nat → Nat} (ht : ∀ i, t i < 256) {a nm np : Nat} (hm : nm ≤ 200) (hp : np ≤ 600) : Told t a nm np ↔ nm + 1 ≤ 200 ∧ np + ic (num t (a + 4) 4) ≤ 600 ∧ infoOK (num t (a + 4) 4) = true ∧ restOK (kd (num t (a + 4) 4)) (num t (a + 8) 4) (num t (a + 12) 4) = true := by
  rw [infoOK_iff ht, kd_b ht, restOK_iff ht]
  have hic : np + ic (num t (a + 4) 4) ≤ 600 ↔ (partsK (t (a + 7) % 32) → np + num t (a + 4) 2 ≤ 600) := by
    by_cases z : partsK (t (a + 7) % 32)
    · rw [ic_parts (by rw [kd_b ht]; exact z), tl_b ht]; exact ⟨fun y _ => y, fun y => y z⟩
    · rw [ic_none (by rw [kd_b ht]; exact z)]; exact ⟨fun _ y => absurd y z, fun _ => hp⟩
  rw [hic]
  unfold Told
  constructor
  · rintro ⟨y1, y2, y3, y4, y5, y6, y7, y8, y9, y10⟩; exact ⟨by omega, y10, ⟨y4, y2, y3, y5, y6⟩, y7, y8, y9⟩
  · rintro ⟨y1, y10, ⟨y4, y2, y3, y5, y6⟩, y7, y8, y9⟩; exact ⟨by omega, y2, y3, y4, y5, y6, y7, y8, y9, y10⟩
/-- the references of a type, by its words -/
def refsE (t : Nat → Nat) (i : Nat) : List Nat :=
  (if kd (inft t i) = 2 ∨ 8 ≤ kd (inft t i) then [wdT t i 2] else []) ++
  (if kd (inft t i) = 3 then [wdT t i 3, wdT t i 4] else if kd (inft t i) = 4 ∨ kd (inft t i) = 5 ∨ kd (inft t i) = 13 then (List.range (tl (inft t i))).map (fun p => wdT t i (4 + itw (kd (inft t i)) * p)) else [])
theorem rl_2 (k : Nat) : rl k 2 = if k = 2 ∨ 8 ≤ k then 2 else 0 := rfl
theorem rfW_3 (t : Nat → Nat) (i k : Nat) : rfW t (off t i) k 3 = if k = 2 ∨ 8 ≤ k then [wdT t i 2] else [] := by
  simp only [rfW]
  have h0 : rl k 0 ≠ 2 := by show (1 : Nat) ≠ 2; decide
  have h1 : rl k 1 ≠ 2 := by show (0 : Nat) ≠ 2; decide
  rw [if_neg h0, if_neg h1, rl_2]
  by_cases h : k = 2 ∨ 8 ≤ k
  · simp only [if_pos h, if_true]; rfl
  · simp only [if_neg h]; rfl
theorem rl_3 (k w : Nat) : rl k (3 + w) = rlb k w := by
  unfold rl
  rw [if_neg (by omega), if_neg (by omega), if_neg (by omega), show 3 + w - 3 = w by omega]
theorem rfW_none {t : Nat → Nat} {a k : Nat} : ∀ n, (∀ w, w < n → rl k (3 + w) ≠ 2) → rfW t a k (3 + n) = rfW t a k 3
  | 0, _ => rfl
  | n + 1, h => by
    rw [show 3 + (n + 1) = (3 + n) + 1 from rfl]
    simp only [rfW]
    rw [if_neg (h n (by omega))]
    exact rfW_none n (fun w hw => h w (by omega))
theorem rfW_one {t : Nat → Nat} {a k w : Nat} (h : rl k w = 2) : rfW t a k (w + 1) = rfW t a k w ++ [num t (a + 4 * w) 4] := by
  simp only [rfW]
  rw [if_pos h]
theorem rfW_no {t : Nat → Nat} {a k w : Nat} (h : rl k w ≠ 2) : rfW t a k (w + 1) = rfW t a k w := by
  simp only [rfW]
  rw [if_neg h]
theorem rfW_st {t : Nat → Nat} {i k : Nat} (hk : k = 4 ∨ k = 5) : ∀ v, rfW t (off t i) k (3 + 3 * v) = rfW t (off t i) k 3 ++ (List.range v).map (fun p => wdT t i (4 + 3 * p))
  | 0 => by simp
  | v + 1 => by
    rw [show 3 + 3 * (v + 1) = (((3 + 3 * v) + 1) + 1) + 1 by omega]
    have r0 : rl k (3 + 3 * v) ≠ 2 := by rw [rl_3]; unfold rlb; rw [if_neg (by omega), if_pos hk, if_pos (by omega)]; decide
    have r1 : rl k (3 + 3 * v + 1) = 2 := by rw [Nat.add_assoc, rl_3]; unfold rlb; rw [if_neg (by omega), if_pos hk, if_neg (by omega), if_pos (by omega)]
    have r2 : rl k (3 + 3 * v + 1 + 1) ≠ 2 := by rw [Nat.add_assoc, Nat.add_assoc, rl_3]; unfold rlb; rw [if_neg (by omega), if_pos hk, if_neg (by omega), if_neg (by omega)]; decide
    rw [rfW_no r2, rfW_one r1, rfW_no r0, rfW_st hk v, List.range_succ, List.map_append, List.append_assoc]
    congr 2
    show [wdT t i (3 + 3 * v + 1)] = _
    rw [show 3 + 3 * v + 1 = 4 + 3 * v by omega]
    rfl
theorem rfW_pr {t : Nat → Nat} {i k : Nat} (hk : k = 13) : ∀ v, rfW t (off t i) k (3 + 2 * v) = rfW t (off t i) k 3 ++ (List.range v).map (fun p => wdT t i (4 + 2 * p))
  | 0 => by simp
  | v + 1 => by
    rw [show 3 + 2 * (v + 1) = ((3 + 2 * v) + 1) + 1 by omega]
    have r0 : rl k (3 + 2 * v) ≠ 2 := by rw [rl_3]; unfold rlb; rw [if_neg (by omega), if_neg (by omega), if_neg (by omega), if_pos hk, if_pos (by omega)]; decide
    have r1 : rl k (3 + 2 * v + 1) = 2 := by rw [Nat.add_assoc, rl_3]; unfold rlb; rw [if_neg (by omega), if_neg (by omega), if_neg (by omega), if_pos hk, if_neg (by omega)]
    rw [rfW_one r1, rfW_no r0, rfW_pr hk v, List.range_succ, List.map_append, List.append_assoc]
    congr 2
    show [wdT t i (3 + 2 * v + 1)] = _
    rw [show 3 + 2 * v + 1 = 4 + 2 * v by omega]
    rfl
theorem refs_eq (t : Nat → Nat) (i : Nat) : refs t i = refsE t i := by
  unfold refs refsE
  rw [← rfW_3]
  generalize hI : inft t i = I
  have hwd : wds I = 3 + fxw (kd I) + itw (kd I) * tl I := rfl
  by_cases h3 : kd I = 3
  · rw [if_pos h3, hwd]
    have e1 : fxw (kd I) = 3 := by unfold fxw; rw [if_neg (by omega), if_pos h3]
    have e2 : itw (kd I) = 0 := by unfold itw; rw [if_neg (by omega), if_neg (by omega)]
    rw [e1, e2, h3, Nat.zero_mul]
    rw [show 3 + 3 + 0 = ((3 + 1) + 1) + 1 from rfl, rfW_no (by decide), rfW_one (by decide), rfW_one (by decide), List.append_assoc]
    rfl
  · rw [if_neg h3]
    by_cases h4 : kd I = 4 ∨ kd I = 5
    · have e1 : fxw (kd I) = 0 := by unfold fxw; rw [if_neg (by omega), if_neg h3]
      have e2 : itw (kd I) = 3 := by unfold itw; rw [if_pos h4]
      rw [if_pos (by omega), hwd, e1, e2, Nat.add_zero, rfW_st h4]
    · by_cases h13 : kd I = 13
      · have e1 : fxw (kd I) = 0 := by unfold fxw; rw [if_neg (by omega), if_neg h3]
        have e2 : itw (kd I) = 2 := by unfold itw; rw [if_neg h4, if_pos (by omega)]
        rw [if_pos (by omega), hwd, e1, e2, Nat.add_zero, rfW_pr h13]
      · rw [if_neg (by omega), List.append_nil, show wds I = 3 + (wds I - 3) by have := wds_ge I; omega, rfW_none]
        intro w hw
        rw [rl_3]
        unfold rlb
        rw [if_neg h3, if_neg h4]
        split
        · split <;> decide
        · first | decide | (rw [if_neg h13]; decide)
theorem hiW_iff {t : Nat → Nat} {a k x : Nat} : ∀ n, hiW t a k n ≤ x ↔ ∀ y ∈ rfW t a k n, y ≤ x
  | 0 => by simp [hiW, rfW]
  | n + 1 => by
    simp only [hiW, rfW]
    split
    · rw [Nat.max_le, hiW_iff n]
      simp only [List.mem_append, List.mem_singleton]
      exact ⟨fun h y hy => hy.elim (h.1 y) (fun e => e ▸ h.2), fun h => ⟨fun y hy => h y (Or.inl hy), h _ (Or.inr rfl)⟩⟩
    · exact hiW_iff n
theorem hiRef_iff {t : Nat → Nat} {i x : Nat} : hiRef t (off t i) ≤ x ↔ ∀ y ∈ refs t i, y ≤ x := hiW_iff _
theorem hiAll_iff {t : Nat → Nat} {x : Nat} : ∀ m, hiAll t m ≤ x ↔ ∀ j, j < m → ∀ y ∈ refs t (j + 1), y ≤ x
  | 0 => by simp [hiAll]
  | m + 1 => by
    rw [← hiAll_s, Nat.max_le, hiAll_iff m, hiRef_iff]
    constructor
    · rintro ⟨h1, h2⟩ j hj
      by_cases e : j = m
      · subst e; exact h2
      · exact h1 j (by omega)
    · intro h; exact ⟨fun j hj => h j (by omega), h m (by omega)⟩
/-- the reference's own question -/
theorem Known_iff {t : Nat → Nat} {m j x : Nat} {nN nK nV nF nR nM nO nT nB pN pT pU : Nat → Nat} (hM : MdA t m nN nK nV nF nR nM nO nT nB pN pT pU) (hj : j < m) (hk : 1 ≤ kd (inft t (j + 1)) ∧ kd (inft t (j + 1)) ≤ 13) (hv : ¬ partsK (kd (inft t (j + 1))) → True) : Known nK nR nO nT nB pT x (j + 1) ↔ ∀ y ∈ refs t (j + 1), y ≤ x := by
  obtain ⟨h1, h2, h3⟩ := hM
  obtain ⟨e1, e2, e3, e4, e5, e6, e7, e8⟩ := h1 j hj
  have b1 := h2 j (by omega)
  have b2 := h2 (j + 1) (by omega)
  have b3 : itc t (j + 1) = itc t j + ic (inft t (j + 1)) := rfl
  unfold Known
  rw [e2, e5, e7, e8, b1, b2, refs_eq]
  have hparts : (∀ p, itc t j ≤ p → p < itc t (j + 1) → pT p ≤ x) ↔ ∀ q, q < ic (inft t (j + 1)) → ptT t (j + 1) q ≤ x := by
    constructor
    · intro h q hq
      rw [← (h3.1 j q hj hq).2.1]; exact h _ (by omega) (by omega)
    · intro h p hp1 hp2
      have := (h3.1 j (p - itc t j) hj (by omega)).2.1
      rw [show itc t j + (p - itc t j) = p by omega] at this
      rw [this]; exact h _ (by omega)
  rw [hparts]
  unfold refsE onT twT trB
  generalize hK : kd (inft t (j + 1)) = K at *
  by_cases k3 : K = 3
  · have hI : ic (inft t (j + 1)) = 0 := ic_none (by rw [hK, k3]; unfold partsK; omega)
    rw [if_pos k3, if_pos k3, if_pos k3, if_neg (by omega), hI]
    simp only [List.nil_append, List.mem_cons, List.mem_nil_iff, or_false]
    constructor
    · rintro ⟨⟨-, g1, g2⟩, -⟩ y hy
      rcases hy with e | e <;> (rw [e]; assumption)
    · intro g
      exact ⟨⟨Or.inl (decide_eq_false (by omega)), g _ (Or.inl rfl), g _ (Or.inr rfl)⟩, fun q hq => by omega⟩
  · rw [if_neg k3, if_neg k3, if_neg k3]
    have htr : (decide (K = 2 ∨ 7 < K) = false ∨ wdT t (j + 1) 2 ≤ x) ↔ ∀ y ∈ (if K = 2 ∨ 8 ≤ K then [wdT t (j + 1) 2] else []), y ≤ x := by
      by_cases c : K = 2 ∨ 8 ≤ K
      · rw [if_pos c, decide_eq_false_iff_not]
        simp only [List.mem_singleton]
        exact ⟨fun g y e => by rw [e]; omega, fun g => Or.inr (g _ rfl)⟩
      · rw [if_neg c, decide_eq_false_iff_not]
        exact ⟨fun _ y hy => (List.not_mem_nil hy).elim, fun _ => Or.inl (by omega)⟩
    rw [htr]
    by_cases kp : K = 4 ∨ K = 5 ∨ K = 13
    · rw [if_pos kp]
      have hI : ic (inft t (j + 1)) = tl (inft t (j + 1)) := ic_parts (by rw [hK]; unfold partsK; omega)
      have hpt : ∀ q, ptT t (j + 1) q = wdT t (j + 1) (4 + itw K * q) := fun q => by unfold ptT; rw [hK, if_neg (by omega)]
      rw [hI]
      constructor
      · rintro ⟨⟨g1, -, -⟩, g2⟩ y hy
        rcases List.mem_append.mp hy with w | w
        · exact g1 y w
        · obtain ⟨q, q1, q2⟩ := List.mem_map.mp w
          rw [← q2, ← hpt]; exact g2 q (List.mem_range.mp q1)
      · intro g
        exact ⟨⟨fun y hy => g y (List.mem_append_left _ hy), Nat.zero_le _, Nat.zero_le _⟩, fun q hq => by rw [hpt]; exact g _ (List.mem_append_right _ (List.mem_map.mpr ⟨q, List.mem_range.mpr hq, rfl⟩))⟩
    · rw [if_neg kp, List.append_nil]
      constructor
      · rintro ⟨⟨g1, -, -⟩, -⟩; exact g1
      · intro g
        refine ⟨⟨g, Nat.zero_le _, Nat.zero_le _⟩, fun q hq => ?_⟩
        by_cases k6 : K = 6
        · unfold ptT; rw [hK, if_pos k6]; exact Nat.zero_le _
        · rw [ic_none (by rw [hK]; unfold partsK; omega)] at hq; omega
theorem bhd_wds {t : Nat → Nat} (ht : ∀ i, t i < 256) (a : Nat) : 12 + bhd (kd (num t (a + 4) 4)) (num t (a + 4) 2) = 4 * wds (num t (a + 4) 4) := by
  rw [← tl_b ht]
  unfold bhd wds fxw itw
  generalize kd (num t (a + 4) 4) = k
  generalize tl (num t (a + 4) 4) = v
  by_cases h1 : k = 1
  · subst h1; simp
  · by_cases h3 : k = 3
    · subst h3; simp
    · rw [if_neg h1, if_neg h3, if_neg h1, if_neg h3]
      by_cases h4 : k = 4 ∨ k = 5
      · rw [if_pos h4, if_pos h4]; omega
      · rw [if_neg h4, if_neg h4]
        by_cases h6 : k = 6 ∨ k = 13
        · rw [if_pos h6, if_pos h6]; omega
        · rw [if_neg h6, if_neg h6]; omega
theorem headE_1 {t : Nat → Nat} {cnt : Nat} (h : cnt < 24 ∨ num t 0 2 ≠ 60319 ∨ t 2 ≠ 1 ∨ t 3 ≠ 0 ∨ num t 4 4 ≠ 24 ∨ num t 8 4 ≠ 0) : headE t cnt = 1 := if_pos h
theorem headE_2 {t : Nat → Nat} {cnt : Nat} (h1 : 24 ≤ cnt) (h2 : num t 0 2 = 60319 ∧ t 2 = 1 ∧ t 3 = 0 ∧ num t 4 4 = 24 ∧ num t 8 4 = 0) (h3 : num t 16 4 ≠ num t 12 4 ∨ cnt ≠ 24 + num t 12 4 + num t 20 4 ∨ num t 20 4 = 0) : headE t cnt = 2 := by
  unfold headE
  rw [if_neg (by omega), if_pos h3]
theorem headE_2' {t : Nat → Nat} {cnt : Nat} (h1 : 24 ≤ cnt) (h2 : num t 0 2 = 60319 ∧ t 2 = 1 ∧ t 3 = 0 ∧ num t 4 4 = 24 ∧ num t 8 4 = 0) (h3 : ¬ (num t 16 4 ≠ num t 12 4 ∨ cnt ≠ 24 + num t 12 4 + num t 20 4 ∨ num t 20 4 = 0)) (h4 : t (24 + num t 12 4) ≠ 0 ∨ t (cnt - 1) ≠ 0) : headE t cnt = 2 := by
  unfold headE
  rw [if_neg (by omega), if_neg h3, if_pos h4]
theorem headE_0' {t : Nat → Nat} {cnt : Nat} (h1 : 24 ≤ cnt) (h2 : num t 0 2 = 60319 ∧ t 2 = 1 ∧ t 3 = 0 ∧ num t 4 4 = 24 ∧ num t 8 4 = 0) (h3 : ¬ (num t 16 4 ≠ num t 12 4 ∨ cnt ≠ 24 + num t 12 4 + num t 20 4 ∨ num t 20 4 = 0)) (h4 : t (24 + num t 12 4) = 0) (h5 : t (cnt - 1) = 0) : headE t cnt = 0 := by
  unfold headE
  rw [if_neg (by omega), if_neg h3, if_neg (by omega)]
theorem teE_3 {t : Nat → Nat} {a sg cnt sd its : Nat} (h : sg < a + 4 * wds (num t (a + 4) 4)) : teE t a sg cnt sd its = 3 := if_pos h
theorem teE_4 {t : Nat → Nat} {a sg cnt sd its : Nat} (h : ¬ sg < a + 4 * wds (num t (a + 4) 4)) (h2 : ¬ (sd ≤ 200 ∧ its + ic (num t (a + 4) 4) ≤ 600 ∧ infoOK (num t (a + 4) 4) = true ∧ restOK (kd (num t (a + 4) 4)) (num t (a + 8) 4) (num t (a + 12) 4) = true)) : teE t a sg cnt sd its = 4 := by
  unfold teE
  rw [if_neg h, if_pos]
  apply Classical.byContradiction
  intro z
  apply h2
  refine ⟨by omega, by omega, ?_, ?_⟩
  · exact eq_true_of_ne_false fun y => z (Or.inr (Or.inr (Or.inl y)))
  · exact eq_true_of_ne_false fun y => z (Or.inr (Or.inr (Or.inr y)))
theorem teE_n4 {t : Nat → Nat} {a sd its : Nat} (h2 : sd ≤ 200 ∧ its + ic (num t (a + 4) 4) ≤ 600 ∧ infoOK (num t (a + 4) 4) = true ∧ restOK (kd (num t (a + 4) 4)) (num t (a + 8) 4) (num t (a + 12) 4) = true) : ¬ (200 < sd ∨ 600 < its + ic (num t (a + 4) 4) ∨ infoOK (num t (a + 4) 4) = false ∨ restOK (kd (num t (a + 4) 4)) (num t (a + 8) 4) (num t (a + 12) 4) = false) := by
  rw [h2.2.2.1, h2.2.2.2]
  rintro (z | z | z | z)
  · omega
  · omega
  · cases z
  · cases z
theorem teE_5 {t : Nat → Nat} {a sg cnt sd its : Nat} (h : ¬ sg < a + 4 * wds (num t (a + 4) 4)) (h2 : sd ≤ 200 ∧ its + ic (num t (a + 4) 4) ≤ 600 ∧ infoOK (num t (a + 4) 4) = true ∧ restOK (kd (num t (a + 4) 4)) (num t (a + 8) 4) (num t (a + 12) 4) = true) (h3 : ¬ (namesIn t a sg cnt = true ∧ ownOK (kd (num t (a + 4) 4)) t a sg = true)) : teE t a sg cnt sd its = 5 := by
  unfold teE
  rw [if_neg h, if_neg (teE_n4 h2), if_neg h3]
theorem teE_00 {t : Nat → Nat} {a sg cnt sd its : Nat} (h : ¬ sg < a + 4 * wds (num t (a + 4) 4)) (h2 : sd ≤ 200 ∧ its + ic (num t (a + 4) 4) ≤ 600 ∧ infoOK (num t (a + 4) 4) = true ∧ restOK (kd (num t (a + 4) 4)) (num t (a + 8) 4) (num t (a + 12) 4) = true) (h3 : namesIn t a sg cnt = true ∧ ownOK (kd (num t (a + 4) 4)) t a sg = true) : teE t a sg cnt sd its = 0 := by
  unfold teE
  rw [if_neg h, if_neg (teE_n4 h2), if_pos h3]
