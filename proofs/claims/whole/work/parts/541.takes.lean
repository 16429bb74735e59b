/-! what the reference's arrays hold of the first m types -/
theorem num4_b (t : Nat → Nat) (a : Nat) : num t a 4 = t a + t (a + 1) * 256 + t (a + 2) * 65536 + t (a + 3) * 16777216 := by
  simp only [num, Nat.add_zero, Nat.pow_zero, Nat.mul_one, Nat.zero_add, Nat.pow_succ, Nat.one_mul]
theorem num2_b (t : Nat → Nat) (a : Nat) : num t a 2 = t a + t (a + 1) * 256 := by
  simp only [num, Nat.add_zero, Nat.pow_zero, Nat.mul_one, Nat.zero_add, Nat.pow_succ, Nat.one_mul]
theorem kd_b {t : Nat → Nat} (ht : ∀ i, t i < 256) (a : Nat) : kd (num t (a + 4) 4) = t (a + 7) % 32 := by
  have h := num4_b t (a + 4)
  have b0 := ht (a + 4); have b1 := ht (a + 4 + 1); have b2 := ht (a + 4 + 2); have b3 := ht (a + 4 + 3)
  unfold kd
  rw [h, show a + 7 = a + 4 + 3 by omega]
  omega
theorem tl_b {t : Nat → Nat} (ht : ∀ i, t i < 256) (a : Nat) : tl (num t (a + 4) 4) = num t (a + 4) 2 := by
  have b0 := ht (a + 4); have b1 := ht (a + 4 + 1); have b2 := ht (a + 4 + 2); have b3 := ht (a + 4 + 3)
  unfold tl
  rw [num4_b, num2_b]
  omega
theorem fl_b {t : Nat → Nat} (ht : ∀ i, t i < 256) (a : Nat) : fl (num t (a + 4) 4) = t (a + 7) / 128 := by
  have b0 := ht (a + 4); have b1 := ht (a + 4 + 1); have b2 := ht (a + 4 + 2); have b3 := ht (a + 4 + 3)
  unfold fl
  rw [num4_b, show a + 7 = a + 4 + 3 by omega]
  omega
/-- name, type and number of the p-th part of type i -/
def pnT (t : Nat → Nat) (i p : Nat) : Nat := wdT t i (3 + itw (kd (inft t i)) * p)
def ptT (t : Nat → Nat) (i p : Nat) : Nat := if kd (inft t i) = 6 then 0 else wdT t i (4 + itw (kd (inft t i)) * p)
def puT (t : Nat → Nat) (i p : Nat) : Nat := if kd (inft t i) = 6 then wdT t i (4 + itw (kd (inft t i)) * p) else if kd (inft t i) = 13 then 0 else wdT t i (5 + itw (kd (inft t i)) * p)
def moT (t : Nat → Nat) (i : Nat) : Nat := if kd (inft t i) = 1 then wdT t i 3 else if kd (inft t i) = 3 then wdT t i 5 else 0
def onT (t : Nat → Nat) (i : Nat) : Nat := if kd (inft t i) = 3 then wdT t i 3 else 0
def twT (t : Nat → Nat) (i : Nat) : Nat := if kd (inft t i) = 3 then wdT t i 4 else 0
theorem wd_at {t : Nat → Nat} {i a s p c d : Nat} (ha : off t i = a) (hs : 4 * itw (kd (inft t i)) = s) (hd : 4 * c = 12 + d) : wdT t i (c + itw (kd (inft t i)) * p) = num t (a + 12 + s * p + d) 4 := by
  subst ha
  subst hs
  unfold wdT
  rw [Nat.mul_assoc]
  congr 1
  omega
theorem pn_at {t : Nat → Nat} {i a s p : Nat} (ha : off t i = a) (hs : 4 * itw (kd (inft t i)) = s) : num t (a + 12 + s * p) 4 = pnT t i p := (wd_at (c := 3) (d := 0) ha hs rfl).symm
theorem pt_at {t : Nat → Nat} {i a s p : Nat} (ha : off t i = a) (hs : 4 * itw (kd (inft t i)) = s) (h6 : kd (inft t i) ≠ 6) : num t (a + 12 + s * p + 4) 4 = ptT t i p := by
  unfold ptT
  rw [if_neg h6]
  exact (wd_at (c := 4) (d := 4) ha hs rfl).symm
theorem pu_at6 {t : Nat → Nat} {i a s p : Nat} (ha : off t i = a) (hs : 4 * itw (kd (inft t i)) = s) (h6 : kd (inft t i) = 6) : num t (a + 12 + s * p + 4) 4 = puT t i p := by
  unfold puT
  rw [if_pos h6]
  exact (wd_at (c := 4) (d := 4) ha hs rfl).symm
theorem pu_at {t : Nat → Nat} {i a s p : Nat} (ha : off t i = a) (hs : 4 * itw (kd (inft t i)) = s) (h6 : kd (inft t i) ≠ 6) (h13 : kd (inft t i) ≠ 13) : num t (a + 12 + s * p + 8) 4 = puT t i p := by
  unfold puT
  rw [if_neg h6, if_neg h13]
  exact (wd_at (c := 5) (d := 8) ha hs rfl).symm
def PtE (t : Nat → Nat) (i p x : Nat) (pN pT pU : Nat → Nat) : Prop := pN x = pnT t i p ∧ pT x = ptT t i p ∧ pU x = puT t i p
/-- the parts of the first m types, and q of the next one's -/
def PtA (t : Nat → Nat) (m q : Nat) (pN pT pU : Nat → Nat) : Prop := (∀ j p, j < m → p < ic (inft t (j + 1)) → PtE t (j + 1) p (itc t j + p) pN pT pU) ∧ ∀ p, p < q → PtE t (m + 1) p (itc t m + p) pN pT pU
theorem itc_mono (t : Nat → Nat) {i j : Nat} (h : i ≤ j) : itc t i ≤ itc t j := by
  induction j with
  | zero => rw [show i = 0 by omega]; exact Nat.le_refl _
  | succ j ih =>
    by_cases e : i = j + 1
    · subst e; exact Nat.le_refl _
    · simp only [itc]; have := ih (by omega); omega
theorem PtA.step {t : Nat → Nat} {m q : Nat} {pN pT pU : Nat → Nat} (h : PtA t m q pN pT pU) {x y z : Nat} (hx : x = pnT t (m + 1) q) (hy : y = ptT t (m + 1) q) (hz : z = puT t (m + 1) q) :
    PtA t m (q + 1) (gu pN (itc t m + q) x) (gu pT (itc t m + q) y) (gu pU (itc t m + q) z) := by
  refine ⟨fun j p hj hp => ?_, fun p hp => ?_⟩
  · have h1 : itc t (j + 1) ≤ itc t m := itc_mono t (by omega)
    have h2 : itc t (j + 1) = itc t j + ic (inft t (j + 1)) := rfl
    unfold PtE
    rw [gu_n _ _ (by omega), gu_n _ _ (by omega), gu_n _ _ (by omega)]
    exact h.1 j p hj hp
  · unfold PtE
    by_cases e : p = q
    · subst e; rw [gu_s, gu_s, gu_s]; exact ⟨hx, hy, hz⟩
    · rw [gu_n _ _ (by omega), gu_n _ _ (by omega), gu_n _ _ (by omega)]; exact h.2 p (by omega)
theorem PtA.done {t : Nat → Nat} {m q : Nat} {pN pT pU : Nat → Nat} (h : PtA t m q pN pT pU) (hq : q = ic (inft t (m + 1))) : PtA t (m + 1) 0 pN pT pU := by
  subst hq
  refine ⟨fun j p hj hp => ?_, fun p hp => absurd hp (by omega)⟩
  by_cases e : j = m
  · subst e; exact h.2 p hp
  · exact h.1 j p (by omega) hp
def TyE (t : Nat → Nat) (i : Nat) (nN nK nV nF nR nM nO nT : Nat → Nat) : Prop := nN i = wdT t i 0 ∧ nK i = kd (inft t i) ∧ nV i = tl (inft t i) ∧ nF i = fl (inft t i) ∧ nR i = wdT t i 2 ∧ nM i = moT t i ∧ nO i = onT t i ∧ nT i = twT t i
def MdA (t : Nat → Nat) (m : Nat) (nN nK nV nF nR nM nO nT nB pN pT pU : Nat → Nat) : Prop := (∀ j, j < m → TyE t (j + 1) nN nK nV nF nR nM nO nT) ∧ (∀ j, j ≤ m → nB (j + 1) = itc t j) ∧ PtA t m 0 pN pT pU
theorem MdA.step {t : Nat → Nat} {m : Nat} {nN nK nV nF nR nM nO nT nB pN pT pU pN' pT' pU' : Nat → Nat} (h : MdA t m nN nK nV nF nR nM nO nT nB pN pT pU) (hp : PtA t (m + 1) 0 pN' pT' pU') {x1 x2 x3 x4 x5 x6 x7 x8 x9 : Nat}
    (h1 : x1 = wdT t (m + 1) 0) (h2 : x2 = kd (inft t (m + 1))) (h3 : x3 = tl (inft t (m + 1))) (h4 : x4 = fl (inft t (m + 1))) (h5 : x5 = wdT t (m + 1) 2) (h6 : x6 = moT t (m + 1)) (h7 : x7 = onT t (m + 1)) (h8 : x8 = twT t (m + 1)) (h9 : x9 = itc t (m + 1)) :
    MdA t (m + 1) (gu nN (m + 1) x1) (gu nK (m + 1) x2) (gu nV (m + 1) x3) (gu nF (m + 1) x4) (gu nR (m + 1) x5) (gu nM (m + 1) x6) (gu nO (m + 1) x7) (gu nT (m + 1) x8) (gu nB (m + 1 + 1) x9) pN' pT' pU' := by
  refine ⟨fun j hj => ?_, fun j hj => ?_, hp⟩
  · unfold TyE
    by_cases e : j = m
    · subst e; simp only [gu_s]; exact ⟨h1, h2, h3, h4, h5, h6, h7, h8⟩
    · have e2 : j + 1 ≠ m + 1 := by omega
      simp only [gu_n _ _ e2]; exact h.1 j (by omega)
  · by_cases e : j = m + 1
    · subst e; rw [gu_s]; exact h9
    · rw [gu_n _ _ (by omega)]; exact h.2.1 j (by omega)
theorem itw0 (k : Nat) : itw k = 0 ↔ ¬ partsK k := by
  unfold itw partsK
  by_cases h4 : k = 4 ∨ k = 5
  · rw [if_pos h4]; omega
  · rw [if_neg h4]
    by_cases h6 : k = 6 ∨ k = 13
    · rw [if_pos h6]; omega
    · rw [if_neg h6]; omega
theorem ic_parts {i : Nat} (h : partsK (kd i)) : ic i = tl i := if_neg fun z => (itw0 _).mp z h
theorem ic_none {i : Nat} (h : ¬ partsK (kd i)) : ic i = 0 := if_pos ((itw0 _).mpr h)
theorem itw_p {k : Nat} (h : partsK k) : 4 * itw k = if k = 4 ∨ k = 5 then 12 else 8 := by
  unfold itw
  unfold partsK at h
  by_cases h4 : k = 4 ∨ k = 5
  · rw [if_pos h4, if_pos h4]
  · rw [if_neg h4, if_neg h4, if_pos (by omega)]
/-- a type's names lie within: its own, its parts' -/
theorem namesIn_iff {t : Nat → Nat} {i sg cnt : Nat} : namesIn t (off t i) sg cnt = true ↔ sg + wdT t i 0 < cnt ∧ ∀ p, p < ic (inft t i) → sg + pnT t i p < cnt := by
  unfold namesIn
  rw [decide_eq_true_iff]
  show (∀ w, w < wds (inft t i) → rl (kd (inft t i)) w = 1 → sg + wdT t i w < cnt) ↔ _
  have hwd : wds (inft t i) = 3 + fxw (kd (inft t i)) + itw (kd (inft t i)) * tl (inft t i) := rfl
  constructor
  · intro h
    refine ⟨h 0 (by omega) rfl, fun p hp => ?_⟩
    by_cases hk : partsK (kd (inft t i))
    · rw [ic_parts hk] at hp
      unfold pnT
      refine h _ ?_ ?_
      · have : itw (kd (inft t i)) * (p + 1) ≤ itw (kd (inft t i)) * tl (inft t i) := Nat.mul_le_mul_left _ hp
        have h2 : 1 ≤ itw (kd (inft t i)) := by have := itw_p hk; split at this <;> omega
        rw [Nat.mul_succ] at this
        omega
      · unfold rl
        rw [if_neg (by omega), if_neg (by omega), if_neg (by omega), show 3 + itw (kd (inft t i)) * p - 3 = itw (kd (inft t i)) * p by omega]
        unfold rlb
        have hk2 := hk
        unfold partsK at hk2
        rw [if_neg (by omega)]
        by_cases h4 : kd (inft t i) = 4 ∨ kd (inft t i) = 5
        · have : itw (kd (inft t i)) = 3 := by unfold itw; rw [if_pos h4]
          rw [if_pos h4, this, if_pos (by omega)]
        · have : itw (kd (inft t i)) = 2 := by unfold itw; rw [if_neg h4, if_pos (by omega)]
          rw [if_neg h4, this]
          by_cases h6 : kd (inft t i) = 6
          · rw [if_pos h6, if_pos (by omega)]
          · rw [if_neg h6, if_pos (by omega), if_pos (by omega)]
    · rw [ic_none hk] at hp; omega
  · rintro ⟨h0, h1⟩ w hw hr
    by_cases e0 : w = 0
    · subst e0; exact h0
    · unfold rl at hr
      rw [if_neg e0] at hr
      by_cases e1 : w = 1
      · rw [if_pos e1] at hr; cases hr
      · rw [if_neg e1] at hr
        by_cases e2 : w = 2
        · rw [if_pos e2] at hr; split at hr <;> cases hr
        · rw [if_neg e2] at hr
          unfold rlb at hr
          by_cases h3 : kd (inft t i) = 3
          · rw [if_pos h3] at hr; split at hr <;> cases hr
          · rw [if_neg h3] at hr
            have hf : partsK (kd (inft t i)) → fxw (kd (inft t i)) = 0 := fun z => by unfold partsK at z; unfold fxw; rw [if_neg (by omega), if_neg h3]
            by_cases h4 : kd (inft t i) = 4 ∨ kd (inft t i) = 5
            · have hk : partsK (kd (inft t i)) := by unfold partsK; omega
              have h5 : itw (kd (inft t i)) = 3 := by unfold itw; rw [if_pos h4]
              rw [if_pos h4] at hr
              have hm : (w - 3) % 3 = 0 := by
                by_cases z : (w - 3) % 3 = 0
                · exact z
                · rw [if_neg z] at hr; split at hr <;> cases hr
              rw [hf hk, h5] at hwd
              have := h1 ((w - 3) / 3) (by rw [ic_parts hk]; omega)
              unfold pnT at this
              rw [h5, show 3 + 3 * ((w - 3) / 3) = w by omega] at this
              exact this
            · rw [if_neg h4] at hr
              have hhalf : partsK (kd (inft t i)) → itw (kd (inft t i)) = 2 → (w - 3) % 2 = 0 → sg + wdT t i w < cnt := by
                intro hk h5 hm
                rw [hf hk, h5] at hwd
                have := h1 ((w - 3) / 2) (by rw [ic_parts hk]; omega)
                unfold pnT at this
                rw [h5, show 3 + 2 * ((w - 3) / 2) = w by omega] at this
                exact this
              by_cases h6 : kd (inft t i) = 6
              · rw [if_pos h6] at hr
                refine hhalf (by unfold partsK; omega) (by unfold itw; rw [if_neg h4, if_pos (by omega)]) ?_
                by_cases z : (w - 3) % 2 = 0
                · exact z
                · rw [if_neg z] at hr; cases hr
              · rw [if_neg h6] at hr
                by_cases h13 : kd (inft t i) = 13
                · rw [if_pos h13] at hr
                  refine hhalf (by unfold partsK; omega) (by unfold itw; rw [if_neg h4, if_pos (by omega)]) ?_
                  by_cases z : (w - 3) % 2 = 0
                  · exact z
                  · rw [if_neg z] at hr; cases hr
                · rw [if_neg h13] at hr; cases hr
theorem ownOK_y {k : Nat} {t : Nat → Nat} {a sg : Nat} {z7 z8 z9 : Bool} (h7 : z7 = true ↔ t (sg + num t a 4) = 0) (h8 : z8 = true ↔ k = 1 ∨ k = 7 ∨ k = 8 ∨ k = 12) (h9 : z9 = true ↔ k = 2 ∨ k = 3 ∨ (9 ≤ k ∧ k ≤ 11) ∨ k = 13) (hk : 1 ≤ k ∧ k ≤ 13) :
    ownOK k t a sg = true ↔ ¬ (z8 = true ∧ z7 = true) ∧ ¬ (z9 = true ∧ z7 = false) := by
  have h7f : z7 = false ↔ t (sg + num t a 4) ≠ 0 := by
    constructor
    · intro z y; rw [h7.mpr y] at z; cases z
    · intro z; exact eq_false_of_ne_true fun y => z (h7.mp y)
  unfold ownOK
  rw [h7, h8, h9, h7f]
  by_cases a1 : k = 4 ∨ k = 5 ∨ k = 6
  · rw [if_pos a1]; exact ⟨fun _ => ⟨by omega, by omega⟩, fun _ => rfl⟩
  · rw [if_neg a1]
    by_cases a2 : k = 1 ∨ k = 7 ∨ k = 8 ∨ k = 12
    · rw [if_pos a2, decide_eq_true_iff]; exact ⟨fun y => ⟨fun q => y q.2, by omega⟩, fun y q => y.1 ⟨a2, q⟩⟩
    · rw [if_neg a2, decide_eq_true_iff]
      exact ⟨fun y => ⟨fun q => a2 q.1, fun q => q.2 y⟩, fun y => Classical.byContradiction fun q => y.2 ⟨by omega, q⟩⟩
theorem Told_congr {f t : Nat → Nat} {a m p : Nat} (h : ∀ i, i < 12 → f (a + i) = t (a + i)) (h1 : t (a + 7) % 32 = 1 → ∀ i, i < 16 → f (a + i) = t (a + i)) : Told f a m p ↔ Told t a m p := by
  unfold Told
  have e2 : num f (a + 4) 2 = num t (a + 4) 2 := num_congr fun i hi => by rw [Nat.add_assoc]; exact h (4 + i) (by omega)
  have e4 : num f (a + 8) 4 = num t (a + 8) 4 := num_congr fun i hi => by rw [Nat.add_assoc]; exact h (8 + i) (by omega)
  rw [h 6 (by omega), h 7 (by omega), e2, e4]
  by_cases k1 : t (a + 7) % 32 = 1
  · have g := h1 k1
    rw [g 12 (by omega), g 13 (by omega), g 14 (by omega), g 15 (by omega)]
  · constructor
    · rintro ⟨y1, y2, y3, y4, y5, y6, y7, y8, -, y10⟩; exact ⟨y1, y2, y3, y4, y5, y6, y7, y8, fun z => absurd z k1, y10⟩
    · rintro ⟨y1, y2, y3, y4, y5, y6, y7, y8, -, y10⟩; exact ⟨y1, y2, y3, y4, y5, y6, y7, y8, fun z => absurd z k1, y10⟩
