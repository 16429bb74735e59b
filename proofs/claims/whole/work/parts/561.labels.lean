/-! the reference's labels, references, and the table of depths -/
theorem lfr_sh {f t : Nat → Nat} {sg S a : Nat} (h : ∀ k, k < S → f k = t (sg + k)) (h0 : t (sg + (S - 1)) = 0) (ha : a < S) (hS : S ≤ 8192) : lfr f a = lfr t (sg + a) ∧ lfr f a < S - a ∧ ∀ j, j ≤ lfr f a → f (a + j) = t (sg + a + j) := by
  obtain ⟨q1, q2, q3⟩ := lfr_spec (t := t) (n := S - 1 - a) (s := sg + a) (by omega) (by rw [show sg + a + (S - 1 - a) = sg + (S - 1) by omega]; exact h0)
  have hf : ∀ j, j ≤ lfr t (sg + a) → f (a + j) = t (sg + a + j) := fun j hj => by rw [h (a + j) (by omega), Nat.add_assoc]
  have e : lfr f a = lfr t (sg + a) := lfr_eq (by omega) (fun j hj => by rw [hf j (by omega)]; exact q2 j hj) (by rw [hf _ (Nat.le_refl _)]; exact q3)
  exact ⟨e, by omega, fun j hj => hf j (by omega)⟩
theorem seqn_sh {f t : Nat → Nat} {sg S a b : Nat} (h : ∀ k, k < S → f k = t (sg + k)) (h0 : t (sg + (S - 1)) = 0) (ha : a < S) (hb : b < S) (hS : S ≤ 8192) : seqn f a b ↔ seqn t (sg + a) (sg + b) := by
  obtain ⟨e1, l1, f1⟩ := lfr_sh h h0 ha hS
  obtain ⟨e2, l2, f2⟩ := lfr_sh h h0 hb hS
  unfold seqn
  rw [← e1, ← e2]
  constructor
  · rintro ⟨z1, z2⟩; exact ⟨z1, fun j hj => by rw [← f1 j (by omega), ← f2 j (by omega)]; exact z2 j hj⟩
  · rintro ⟨z1, z2⟩; exact ⟨z1, fun j hj => by rw [f1 j (by omega), f2 j (by omega)]; exact z2 j hj⟩
theorem b7_split : ∀ x, x < 256 → x &&& 96 = 0 → x = x % 32 + 128 * (x / 128) := by decide +kernel
theorem info_split {t : Nat → Nat} (ht : ∀ i, t i < 256) {i : Nat} (hi : infoOK (inft t i) = true) : inft t i = tl (inft t i) + kd (inft t i) * 16777216 + fl (inft t i) * 2147483648 := by
  unfold inft at hi ⊢
  obtain ⟨-, h6, h7, -⟩ := (infoOK_iff ht _).mp hi
  rw [kd_b ht, tl_b ht, fl_b ht, num4_b, num2_b]
  have := b7_split _ (ht (off t i + 7)) h7
  rw [show off t i + 4 + 2 = off t i + 6 by omega, show off t i + 4 + 3 = off t i + 7 by omega, h6]
  omega
/-- all words of a type, by its kind -/
theorem words_iff {I : Nat} (P : Nat → Prop) : (∀ w, w < wds I → P w) ↔ P 0 ∧ P 1 ∧ P 2 ∧ (kd I = 1 → P 3) ∧ (kd I = 3 → P 3 ∧ P 4 ∧ P 5) ∧ ∀ p, p < ic I → P (3 + itw (kd I) * p) ∧ P (4 + itw (kd I) * p) ∧ (kd I = 4 ∨ kd I = 5 → P (5 + itw (kd I) * p)) := by
  have hwd : wds I = 3 + fxw (kd I) + itw (kd I) * tl I := rfl
  have f1 : kd I = 1 → fxw (kd I) = 1 := fun z => by unfold fxw; rw [if_pos z]
  have f3 : kd I = 3 → fxw (kd I) = 3 := fun z => by unfold fxw; rw [if_neg (by omega), if_pos z]
  have f0 : kd I ≠ 1 → kd I ≠ 3 → fxw (kd I) = 0 := fun z y => by unfold fxw; rw [if_neg z, if_neg y]
  have i3 : kd I = 4 ∨ kd I = 5 → itw (kd I) = 3 := fun z => by unfold itw; rw [if_pos z]
  have i2 : kd I = 6 ∨ kd I = 13 → itw (kd I) = 2 := fun z => by unfold itw; rw [if_neg (by omega), if_pos z]
  have i0 : ¬ partsK (kd I) → itw (kd I) = 0 := (itw0 _).mpr
  constructor
  · intro h
    refine ⟨h 0 (by omega), h 1 (by omega), h 2 (by omega), fun z => h 3 (by have := f1 z; omega), fun z => by have := f3 z; exact ⟨h 3 (by omega), h 4 (by omega), h 5 (by omega)⟩, fun p hp => ?_⟩
    by_cases hk : partsK (kd I)
    · rw [ic_parts hk] at hp
      have hm : itw (kd I) * (p + 1) ≤ itw (kd I) * tl I := Nat.mul_le_mul_left _ hp
      rw [Nat.mul_succ] at hm
      have h2 : 2 ≤ itw (kd I) := by
        by_cases z : kd I = 4 ∨ kd I = 5
        · rw [i3 z]; decide
        · rw [i2 (by unfold partsK at hk; omega)]; exact Nat.le_refl _
      exact ⟨h _ (by omega), h _ (by omega), fun z => h _ (by have := i3 z; omega)⟩
    · rw [ic_none hk] at hp; omega
  · rintro ⟨h0, h1, h2, hk1, hk3, hp⟩ w hw
    rcases (show w = 0 ∨ w = 1 ∨ w = 2 ∨ 3 ≤ w by omega) with e | e | e | e
    · rw [e]; exact h0
    · rw [e]; exact h1
    · rw [e]; exact h2
    · by_cases hk : partsK (kd I)
      · have z1 : kd I ≠ 1 := by unfold partsK at hk; omega
        have z3 : kd I ≠ 3 := by unfold partsK at hk; omega
        have e0 := f0 z1 z3
        by_cases z : kd I = 4 ∨ kd I = 5
        · have e3 := i3 z
          rw [e0, e3] at hwd
          have := hp ((w - 3) / 3) (by rw [ic_parts hk]; omega)
          rw [e3] at this
          rcases (show w = 3 + 3 * ((w - 3) / 3) ∨ w = 4 + 3 * ((w - 3) / 3) ∨ w = 5 + 3 * ((w - 3) / 3) by omega) with g | g | g <;> rw [g]
          · exact this.1
          · exact this.2.1
          · exact this.2.2 z
        · have e2 := i2 (by unfold partsK at hk; omega)
          rw [e0, e2] at hwd
          have := hp ((w - 3) / 2) (by rw [ic_parts hk]; omega)
          rw [e2] at this
          rcases (show w = 3 + 2 * ((w - 3) / 2) ∨ w = 4 + 2 * ((w - 3) / 2) by omega) with g | g <;> rw [g]
          · exact this.1
          · exact this.2.1
      · have e0 := i0 hk
        rw [e0] at hwd
        by_cases z1 : kd I = 1
        · rw [f1 z1] at hwd; rw [show w = 3 by omega]; exact hk1 z1
        · by_cases z3 : kd I = 3
          · rw [f3 z3] at hwd
            rcases (show w = 3 ∨ w = 4 ∨ w = 5 by omega) with g | g | g <;> rw [g]
            · exact (hk3 z3).1
            · exact (hk3 z3).2.1
            · exact (hk3 z3).2.2
          · rw [f0 z1 z3] at hwd; omega
theorem rl_n {k p : Nat} (hk : partsK k) : rl k (3 + itw k * p) = 1 := by
  rw [rl_3]
  unfold partsK at hk
  unfold rlb
  rw [if_neg (by omega)]
  by_cases z : k = 4 ∨ k = 5
  · have : itw k = 3 := by unfold itw; rw [if_pos z]
    rw [if_pos z, this, if_pos (by omega)]
  · have : itw k = 2 := by unfold itw; rw [if_neg z, if_pos (by omega)]
    rw [if_neg z, this]
    by_cases y : k = 6
    · rw [if_pos y, if_pos (by omega)]
    · rw [if_neg y, if_pos (by omega), if_pos (by omega)]
theorem rl_t {k p : Nat} (hk : partsK k) : rl k (4 + itw k * p) = if k = 6 then 0 else 2 := by
  rw [show 4 + itw k * p = 3 + (1 + itw k * p) by omega, rl_3]
  unfold partsK at hk
  unfold rlb
  rw [if_neg (by omega)]
  by_cases z : k = 4 ∨ k = 5
  · have : itw k = 3 := by unfold itw; rw [if_pos z]
    rw [if_pos z, this, if_neg (by omega), if_pos (by omega), if_neg (by omega)]
  · have : itw k = 2 := by unfold itw; rw [if_neg z, if_pos (by omega)]
    rw [if_neg z, this]
    by_cases y : k = 6
    · rw [if_pos y, if_neg (by omega), if_pos y]
    · rw [if_neg y, if_pos (by omega), if_neg (by omega), if_neg y]
theorem rl_u {k p : Nat} (hk : k = 4 ∨ k = 5) : rl k (5 + itw k * p) = 0 := by
  rw [show 5 + itw k * p = 3 + (2 + itw k * p) by omega, rl_3]
  unfold rlb
  have : itw k = 3 := by unfold itw; rw [if_pos hk]
  rw [if_neg (by omega), if_pos hk, this, if_neg (by omega), if_neg (by omega)]
theorem lab_iff {t : Nat → Nat} (ht : ∀ i, t i < 256) {sg i j : Nat} (hi : infoOK (inft t i) = true) (hj : infoOK (inft t j) = true) : lab t sg i j ↔
    (kd (inft t i) = kd (inft t j) ∧ tl (inft t i) = tl (inft t j) ∧ fl (inft t i) = fl (inft t j) ∧ moT t i = moT t j) ∧ seqn t (sg + wdT t i 0) (sg + wdT t j 0) ∧ (trB (kd (inft t i)) = true ∨ wdT t i 2 = wdT t j 2) ∧ ∀ p, p < ic (inft t i) → puT t i p = puT t j p ∧ seqn t (sg + pnT t i p) (sg + pnT t j p) := by
  have hw1 : ∀ x, wdT t x 1 = inft t x := fun x => rfl
  have htr : trB (kd (inft t i)) = true ↔ (kd (inft t i) = 2 ∨ 8 ≤ kd (inft t i)) := by unfold trB; rw [decide_eq_true_iff]; omega
  unfold lab
  rw [words_iff]
  constructor
  · rintro ⟨he, h0, -, h2, hk1, hk3, hp⟩
    refine ⟨⟨by rw [he], by rw [he], by rw [he], ?_⟩, h0.1 rfl, ?_, fun p hpp => ?_⟩
    · unfold moT
      rw [← he]
      by_cases z1 : kd (inft t i) = 1
      · rw [if_pos z1, if_pos z1]; exact (hk1 z1).2 (by rw [z1]; rfl)
      · rw [if_neg z1, if_neg z1]
        by_cases z3 : kd (inft t i) = 3
        · rw [if_pos z3, if_pos z3]; exact (hk3 z3).2.2.2 (by rw [z3]; rfl)
        · rw [if_neg z3, if_neg z3]
    · by_cases z : kd (inft t i) = 2 ∨ 8 ≤ kd (inft t i)
      · exact Or.inl (htr.mpr z)
      · exact Or.inr (h2.2 (by rw [rl_2, if_neg z]))
    · obtain ⟨g1, g2, g3⟩ := hp p hpp
      have hk : partsK (kd (inft t i)) := by
        by_cases z : partsK (kd (inft t i))
        · exact z
        · rw [ic_none z] at hpp; omega
      unfold puT pnT
      rw [← he]
      refine ⟨?_, g1.1 (rl_n hk)⟩
      by_cases z6 : kd (inft t i) = 6
      · rw [if_pos z6, if_pos z6]; exact g2.2 (by rw [rl_t hk, if_pos z6])
      · rw [if_neg z6, if_neg z6]
        by_cases z13 : kd (inft t i) = 13
        · rw [if_pos z13, if_pos z13]
        · rw [if_neg z13, if_neg z13]
          have z4 : kd (inft t i) = 4 ∨ kd (inft t i) = 5 := by unfold partsK at hk; omega
          exact (g3 z4).2 (rl_u z4)
  · rintro ⟨⟨ek, et, ef, em⟩, hn, hr, hp⟩
    have he : inft t i = inft t j := by rw [info_split ht hi, info_split ht hj, ek, et, ef]
    unfold moT at em
    unfold puT pnT at hp
    rw [← he] at em hp
    refine ⟨he, ⟨fun _ => hn, fun z => (by cases z)⟩, ⟨fun z => (by cases z), fun _ => (by rw [hw1, hw1]; exact he)⟩, ⟨fun z => ?_, fun z => ?_⟩, fun z1 => ⟨fun z => ?_, fun _ => ?_⟩, fun z3 => ⟨⟨fun z => ?_, fun z => ?_⟩, ⟨fun z => ?_, fun z => ?_⟩, ⟨fun z => ?_, fun _ => ?_⟩⟩, fun p hpp => ?_⟩
    · rw [rl_2] at z; split at z <;> cases z
    · rw [rl_2] at z
      rcases hr with y | y
      · rw [if_pos (htr.mp y)] at z; cases z
      · exact y
    · rw [z1] at z; cases z
    · rw [if_pos z1, if_pos z1] at em; exact em
    · rw [z3] at z; cases z
    · rw [z3] at z; cases z
    · rw [z3] at z; cases z
    · rw [z3] at z; cases z
    · rw [z3] at z; cases z
    · have z1 : ¬ kd (inft t i) = 1 := by omega
      simp only [if_neg z1, if_pos z3] at em; exact em
    · obtain ⟨g1, g2⟩ := hp p hpp
      have hk : partsK (kd (inft t i)) := by
        by_cases z : partsK (kd (inft t i))
        · exact z
        · rw [ic_none z] at hpp; omega
      refine ⟨⟨fun _ => g2, fun z => (by rw [rl_n hk] at z; cases z)⟩, ⟨fun z => ?_, fun z => ?_⟩, fun z4 => ⟨fun z => (by rw [rl_u z4] at z; cases z), fun _ => ?_⟩⟩
      · rw [rl_t hk] at z; split at z <;> cases z
      · rw [rl_t hk] at z
        by_cases z6 : kd (inft t i) = 6
        · rw [if_pos z6, if_pos z6] at g1; exact g1
        · rw [if_neg z6] at z; cases z
      · have z6 : ¬ kd (inft t i) = 6 := by omega
        have z13 : ¬ kd (inft t i) = 13 := by omega
        simp only [if_neg z6, if_neg z13] at g1; exact g1
theorem getD_map {f : Nat → Nat} {n q : Nat} (h : q < n) : ((List.range n).map f).getD q 0 = f q := by
  simp [List.getD_eq_getElem?_getD, h]
theorem MdA.be {t : Nat → Nat} {m j : Nat} {nN nK nV nF nR nM nO nT nB pN pT pU : Nat → Nat} (hM : MdA t m nN nK nV nF nR nM nO nT nB pN pT pU) (hj : j < m) : nB (j + 1) = itc t j ∧ nB (j + 1 + 1) = itc t j + ic (inft t (j + 1)) := ⟨hM.2.1 j (by omega), hM.2.1 (j + 1) (by omega)⟩
/-- the references of a type of kind K, with T items, words W -/
def refsG (K T V : Nat) (W : Nat → Nat) : List Nat :=
  (if K = 2 ∨ 8 ≤ K then [W 2] else []) ++ (if K = 3 then [W 3, W 4] else if K = 4 ∨ K = 5 ∨ K = 13 then (List.range T).map (fun p => W (4 + V * p)) else [])
theorem refsG_len (K T V : Nat) (W : Nat → Nat) : (refsG K T V W).length = if K = 3 then 2 else (if K = 2 ∨ 8 ≤ K then 1 else 0) + (if K = 4 ∨ K = 5 ∨ K = 13 then T else 0) := by
  unfold refsG
  by_cases k3 : K = 3
  · subst k3; rfl
  · rw [List.length_append, if_neg k3, if_neg k3]
    congr 1
    · by_cases z : K = 2 ∨ 8 ≤ K
      · rw [if_pos z, if_pos z]; rfl
      · rw [if_neg z, if_neg z]; rfl
    · by_cases z : K = 4 ∨ K = 5 ∨ K = 13
      · rw [if_pos z, if_pos z, List.length_map, List.length_range]
      · rw [if_neg z, if_neg z]; rfl
theorem refsG_at {K T V q : Nat} {W : Nat → Nat} (hq : q < (refsG K T V W).length) : (refsG K T V W).getD q 0 = if K = 3 then (if q = 0 then W 3 else W 4) else if K = 4 ∨ K = 5 then W (4 + V * q) else if q = 0 then W 2 else W (4 + V * (q - 1)) := by
  rw [refsG_len] at hq
  unfold refsG
  by_cases k3 : K = 3
  · subst k3
    have : q < 2 := hq
    rcases (show q = 0 ∨ q = 1 by omega) with e | e <;> subst e <;> rfl
  · rw [if_neg k3] at hq ⊢
    rw [if_neg k3]
    by_cases k4 : K = 4 ∨ K = 5
    · have a1 : ¬ (K = 2 ∨ 8 ≤ K) := by omega
      have a2 : K = 4 ∨ K = 5 ∨ K = 13 := by omega
      rw [if_neg a1, if_pos a2, Nat.zero_add] at hq
      rw [if_neg a1, if_pos a2, if_pos k4, List.nil_append, getD_map hq]
    · rw [if_neg k4]
      by_cases z : K = 2 ∨ 8 ≤ K
      · rw [if_pos z] at hq ⊢
        by_cases q0 : q = 0
        · rw [if_pos q0, q0]; rfl
        · obtain ⟨r, rfl⟩ : ∃ r, q = r + 1 := ⟨q - 1, by omega⟩
          rw [if_neg q0]
          by_cases a2 : K = 4 ∨ K = 5 ∨ K = 13
          · rw [if_pos a2] at hq ⊢
            rw [List.singleton_append, List.getD_cons_succ, getD_map (by omega), Nat.add_sub_cancel]
          · rw [if_neg a2] at hq; omega
      · rw [if_neg z, if_neg (by omega)] at hq
        omega
theorem refs_G (t : Nat → Nat) (i : Nat) : refs t i = refsG (kd (inft t i)) (tl (inft t i)) (itw (kd (inft t i))) (wdT t i) := by
  rw [refs_eq]; unfold refsE refsG; with_reducible rfl
theorem nrT_G (t : Nat → Nat) (i : Nat) : nrT t i = if kd (inft t i) = 3 then 2 else (if kd (inft t i) = 2 ∨ 8 ≤ kd (inft t i) then 1 else 0) + (if kd (inft t i) = 4 ∨ kd (inft t i) = 5 ∨ kd (inft t i) = 13 then tl (inft t i) else 0) := by
  unfold nrT; rw [refs_G, refsG_len]
theorem rfT_G {t : Nat → Nat} {i q : Nat} (hq : q < nrT t i) : rfT t i q = if kd (inft t i) = 3 then (if q = 0 then wdT t i 3 else wdT t i 4) else if kd (inft t i) = 4 ∨ kd (inft t i) = 5 then wdT t i (4 + itw (kd (inft t i)) * q) else if q = 0 then wdT t i 2 else wdT t i (4 + itw (kd (inft t i)) * (q - 1)) := by
  unfold nrT at hq; unfold rfT; rw [refs_G] at hq ⊢; exact refsG_at hq
theorem trB_iff (k : Nat) : trB k = true ↔ (k = 2 ∨ 8 ≤ k) := by unfold trB; rw [decide_eq_true_iff]; omega
theorem mref_eq {t : Nat → Nat} {m j : Nat} {nN nK nV nF nR nM nO nT nB pN pT pU : Nat → Nat} (hM : MdA t m nN nK nV nF nR nM nO nT nB pN pT pU) (hj : j < m) : mref nK nB (j + 1) = nrT t (j + 1) := by
  obtain ⟨b1, b2⟩ := hM.be hj
  obtain ⟨-, e2, -⟩ := hM.1 j hj
  unfold mref
  rw [nrT_G, e2, b1, b2]
  have hp : partsK (kd (inft t (j + 1))) → ic (inft t (j + 1)) = tl (inft t (j + 1)) := ic_parts
  have hk := trB_iff (kd (inft t (j + 1)))
  unfold partsK at hp
  clear e2 b1 b2 hM
  generalize ic (inft t (j + 1)) = C at *
  generalize tl (inft t (j + 1)) = L at *
  generalize trB (kd (inft t (j + 1))) = B at *
  generalize kd (inft t (j + 1)) = K at *
  generalize itc t j = X
  by_cases k3 : K = 3
  · rw [if_pos k3, if_pos k3]
  · rw [if_neg k3, if_neg k3]
    by_cases k4 : K = 4 ∨ K = 5
    · rw [if_pos k4, if_neg (by omega), if_pos (by omega), hp (by omega)]; omega
    · rw [if_neg k4]
      by_cases k13 : K = 13
      · rw [if_pos k13, if_pos (by omega), if_pos (by omega), hp (by omega)]; omega
      · rw [if_neg k13, if_neg (show ¬ (K = 4 ∨ K = 5 ∨ K = 13) by omega), Nat.add_zero]
        by_cases z : K = 2 ∨ 8 ≤ K
        · rw [if_pos (hk.mpr z), if_pos z]
        · rw [if_neg (fun y => z (hk.mp y)), if_neg z]
theorem mrf_eq {t : Nat → Nat} {m j q : Nat} {nN nK nV nF nR nM nO nT nB pN pT pU : Nat → Nat} (hM : MdA t m nN nK nV nF nR nM nO nT nB pN pT pU) (hj : j < m) (hq : q < nrT t (j + 1)) : mrf nK nB nO nT nR pT (j + 1) q = rfT t (j + 1) q := by
  obtain ⟨b1, b2⟩ := hM.be hj
  obtain ⟨-, e2, -, -, e5, -, e7, e8⟩ := hM.1 j hj
  have hpt : ∀ p, p < ic (inft t (j + 1)) → kd (inft t (j + 1)) ≠ 6 → pT (itc t j + p) = wdT t (j + 1) (4 + itw (kd (inft t (j + 1))) * p) := fun p hp h6 => by
    rw [(hM.2.2.1 j p hj hp).2.1]; unfold ptT; rw [if_neg h6]
  rw [rfT_G hq]
  rw [nrT_G] at hq
  unfold mrf
  unfold onT at e7
  unfold twT at e8
  have hp : partsK (kd (inft t (j + 1))) → ic (inft t (j + 1)) = tl (inft t (j + 1)) := ic_parts
  unfold partsK at hp
  rw [e2, b1, e5, e7, e8]
  clear e2 b1 b2 e5 e7 e8 hM
  generalize wdT t (j + 1) = W at *
  generalize ic (inft t (j + 1)) = C at *
  generalize tl (inft t (j + 1)) = L at *
  generalize kd (inft t (j + 1)) = K at *
  generalize itc t j = X at *
  by_cases k3 : K = 3
  · rw [if_pos k3, if_pos k3, if_pos k3, if_pos k3]
  · rw [if_neg k3] at hq ⊢
    rw [if_neg k3]
    by_cases k4 : K = 4 ∨ K = 5
    · rw [if_neg (by omega), if_pos (by omega)] at hq
      rw [if_pos k4, if_pos k4]
      exact hpt q (by have := hp (by omega); omega) (by omega)
    · rw [if_neg k4, if_neg k4]
      by_cases q0 : q = 0
      · rw [if_pos q0, if_pos q0]
      · rw [if_neg q0, if_neg q0]
        by_cases k13 : K = 13
        · rw [if_pos (by omega), if_pos (by omega)] at hq
          have := hp (by omega)
          rw [← hpt (q - 1) (by omega) (by omega)]
          congr 1; omega
        · rw [if_neg (show ¬ (K = 4 ∨ K = 5 ∨ K = 13) by omega)] at hq
          split at hq <;> omega
theorem nrT_le {t : Nat → Nat} (i : Nat) (hk : kd (inft t i) ≠ 13) : nrT t i ≤ 2 + ic (inft t i) := refs_len t i
/-- where the k-th reference lies is within the parts -/
theorem nr_in {t : Nat → Nat} {i q : Nat} (hq : q < nrT t i) (hk : kd (inft t i) ≠ 3) : q ≤ ic (inft t i) := by
  unfold nrT at hq
  rw [refs_eq] at hq
  unfold refsE at hq
  rw [if_neg hk] at hq
  by_cases kp : kd (inft t i) = 4 ∨ kd (inft t i) = 5 ∨ kd (inft t i) = 13
  · have hic := ic_parts (i := inft t i) (by unfold partsK; omega)
    rw [if_pos kp, List.length_append] at hq
    simp only [List.length_map, List.length_range] at hq
    split at hq
    · simp at hq; omega
    · simp at hq; omega
  · rw [if_neg kp, List.append_nil] at hq
    split at hq
    · simp at hq; omega
    · simp at hq
