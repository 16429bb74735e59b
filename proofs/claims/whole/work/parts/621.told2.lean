/-! names as the reference tells of them anew; its draft -/
def CM (te : Nat → Nat) (s c : Nat) : Prop := (∀ s', s' < s → te s' ≤ c) ∧ (c = 0 ∨ ∃ s', s' < s ∧ te s' = c)
def TO (t : Nat → Nat) (sg S : Nat) (te pl le fp : Nat → Nat) (nc s : Nat) (tl ta : Nat → Nat) (tn ss : Nat) : Prop := CM te s tn ∧ tn ≤ nc ∧ (∀ k, k < tn → tl k < S ∧ seqn t (pl (k + 1)) (sg + tl k) ∧ ta k = fp (k + 1)) ∧ ss = 1 + stLen le tn
theorem DOK.at {t : Nat → Nat} {pl le fr : Nat → Nat} {nc fb : Nat} (h : DOK t pl le fr nc fb) : ∀ d, d + 1 ≤ nc → fr (d + 1) = 1 + stLen le d := by
  obtain ⟨-, -, -, h3, h4, h5⟩ := h
  intro d
  induction d with
  | zero => intro hd; rw [(h4 (by omega)).1]; rfl
  | succ d ih => intro hd; rw [h3 (d + 1) (by omega) (by omega), ih (by omega)]; simp only [stLen]; omega
theorem CM.next {te : Nat → Nat} {s c : Nat} (h : CM te s c) (hs : te s ≤ c) : CM te (s + 1) c := by
  refine ⟨fun s' hs' => ?_, ?_⟩
  · by_cases e : s' = s
    · rw [e]; exact hs
    · exact h.1 s' (by omega)
  · rcases h.2 with h2 | ⟨s', a, b⟩
    · exact Or.inl h2
    · exact Or.inr ⟨s', by omega, b⟩
theorem CM.new {te : Nat → Nat} {s c : Nat} (h : CM te s c) (hs : te s = c + 1) : CM te (s + 1) (c + 1) := by
  refine ⟨fun s' hs' => ?_, Or.inr ⟨s, by omega, hs⟩⟩
  by_cases e : s' = s
  · rw [e]; omega
  · have := h.1 s' (by omega); omega
theorem TO.zero {t : Nat → Nat} {sg S nc fb s tn ss : Nat} {L : List Nat} {te pl le fp tl ta : Nat → Nat} (hN : NOK t sg L te pl le fp nc fb) (hs : s < L.length) (h : TO t sg S te pl le fp nc s tl ta tn ss) (h0 : lfr t (sg + L.getD s 0) = 0) : te s = 0 ∧ TO t sg S te pl le fp nc (s + 1) tl ta tn ss := by
  have : te s = 0 := by
    rcases hN.2.2.1 s hs with ⟨-, z⟩ | ⟨z, -⟩
    · exact z
    · exact absurd h0 z
  exact ⟨this, h.1.next (by omega), h.2⟩
theorem TO.found {t : Nat → Nat} {sg S nc fb s tn ss k : Nat} {L : List Nat} {te pl le fp tl ta : Nat → Nat} (hN : NOK t sg L te pl le fp nc fb) (hs : s < L.length) (h : TO t sg S te pl le fp nc s tl ta tn ss) (h0 : lfr t (sg + L.getD s 0) ≠ 0) (hk : k < tn) (hq : seqn t (sg + tl k) (sg + L.getD s 0)) : te s = k + 1 ∧ TO t sg S te pl le fp nc (s + 1) tl ta tn ss := by
  have : te s = k + 1 := by
    rcases hN.2.2.1 s hs with ⟨z, -⟩ | ⟨-, a, b, c⟩
    · exact absurd z h0
    · have hx : seqn t (pl (te s)) (pl (k + 1)) := c.tr (hq.sy.tr (h.2.2.1 k hk).2.1.sy)
      have h2 := h.2.1
      rcases Nat.lt_trichotomy (te s) (k + 1) with z | z | z
      · exact absurd hx (hN.1.2.2.1 _ _ a z (by omega))
      · exact z
      · exact absurd hx.sy (hN.1.2.2.1 _ _ (by omega) z b)
  exact ⟨this, h.1.next (by omega), h.2⟩
theorem TO.new {t : Nat → Nat} {sg S nc fb s tn ss : Nat} {L : List Nat} {te pl le fp tl ta : Nat → Nat} (hN : NOK t sg L te pl le fp nc fb) (hs : s < L.length) (h : TO t sg S te pl le fp nc s tl ta tn ss) (h0 : lfr t (sg + L.getD s 0) ≠ 0) (hno : ∀ k, k < tn → ¬ seqn t (sg + tl k) (sg + L.getD s 0)) (hx : L.getD s 0 < S) :
    te s = tn + 1 ∧ tn + 1 ≤ nc ∧ fp (tn + 1) = ss ∧ TO t sg S te pl le fp nc (s + 1) (gu tl tn (L.getD s 0)) (gu ta tn ss) (tn + 1) (ss + (lfr t (sg + L.getD s 0) + 1)) := by
  obtain ⟨hD, -, q1, q2, -⟩ := hN
  obtain ⟨hC, hn, hk, hss⟩ := h
  rcases q1 s hs with ⟨z, -⟩ | ⟨-, a, b, c⟩
  · exact absurd z h0
  have hgt : tn < te s := Nat.lt_of_not_le fun z => by
    obtain ⟨g1, g2, -⟩ := hk (te s - 1) (by omega)
    rw [show te s - 1 + 1 = te s by omega] at g2
    exact hno (te s - 1) (by omega) (g2.sy.tr c)
  have he : te s = tn + 1 := by
    obtain ⟨sd, d1, d2, d3, d4⟩ := q2 (tn + 1) (by omega) (by omega)
    rcases Nat.lt_trichotomy sd s with z | z | z
    · have := hC.1 sd z; omega
    · rw [← z]; exact d3
    · have := d4 s z; omega
  obtain ⟨sd, d1, d2, d3, d4⟩ := q2 (tn + 1) (by omega) (by omega)
  have hsd : sd = s := by
    rcases Nat.lt_trichotomy sd s with z | z | z
    · have := hC.1 sd z; omega
    · exact z
    · have := d4 s z; omega
  rw [hsd] at d2
  have hfp : fp (tn + 1) = ss := by rw [hD.at tn (by omega), hss]
  refine ⟨he, by omega, hfp, hC.new he, by omega, fun k hk' => ?_, ?_⟩
  · by_cases e : k = tn
    · subst e; rw [gu_s, gu_s]; exact ⟨hx, by rw [d2]; exact seqn.rf _ _, hfp.symm⟩
    · rw [gu_n _ _ e, gu_n _ _ e]; exact hk k (by omega)
  · simp only [stLen]
    have := (hD.2.1 (tn + 1) (by omega) (by omega)).1
    rw [this, ← d2, hss]; omega
theorem putD_at (df : Nat → Nat) (dr : Nat) (f : Nat → Nat) (n j : Nat) : putD df dr f n j = if dr ≤ j ∧ j < dr + n ∧ j < 16384 then f (j - dr) else df j := by
  induction n with
  | zero => simp only [putD]; rw [if_neg (by omega)]
  | succ n ih =>
    simp only [putD]
    by_cases z : dr + n < 16384
    · rw [if_pos z]
      by_cases e : j = dr + n
      · subst e; rw [gu_s, if_pos (by omega)]; congr 1; omega
      · rw [gu_n _ _ e, ih]
        by_cases y : dr ≤ j ∧ j < dr + n ∧ j < 16384
        · rw [if_pos y, if_pos (by omega)]
        · rw [if_neg y, if_neg (by omega)]
    · rw [if_neg z, ih]
      by_cases y : dr ≤ j ∧ j < dr + n ∧ j < 16384
      · rw [if_pos y, if_pos (by omega)]
      · rw [if_neg y, if_neg (by omega)]
/-- the draft behind its place B, as far as it reaches -/
def DL (B : Nat) (df : Nat → Nat) (dr : Nat) (P : List Nat) : Prop := dr = B + P.length ∧ (∀ j, j < P.length → B + j < 16384 → df (B + j) = P.getD j 0) ∧ ∀ j, df j < 256
theorem leB_at {v n i : Nat} (h : i < n) : (leB v n).getD i 0 = v / 256 ^ i % 256 := by
  unfold leB; simp [List.getD_eq_getElem?_getD, h]
theorem DL.put {B dr v : Nat} {df : Nat → Nat} {P : List Nat} (h : DL B df dr P) (hv : v < 2 ^ 64) (n : Nat) : DL B (putD df dr (vb (lN v)) n) (dr + n) (P ++ leB v n) := by
  obtain ⟨h1, h2, h3⟩ := h
  refine ⟨by rw [List.length_append, leB_len]; omega, fun j hj hB => ?_, fun j => ?_⟩
  · rw [List.length_append, leB_len] at hj
    rw [putD_at]
    by_cases z : j < P.length
    · rw [if_neg (by omega), h2 j z hB]
      simp [List.getD_eq_getElem?_getD, List.getElem?_append_left z]
    · rw [if_pos (by omega), vb_lN hv, show B + j - dr = j - P.length by omega, ← leB_at (v := v) (n := n) (by omega)]
      simp [List.getD_eq_getElem?_getD, List.getElem?_append_right (Nat.le_of_not_lt z)]
  · rw [putD_at]; split
    · exact vb_lt _ _
    · exact h3 j
theorem leB_two (v a b : Nat) : leB v (a + b) = leB v a ++ leB (v / 256 ^ a) b := by
  unfold leB
  rw [List.range_add, List.map_append, List.map_map]
  congr 1
  refine List.map_congr_left (fun i _ => ?_)
  simp only [Function.comp]
  rw [Nat.pow_add, Nat.div_div_eq_div_mul]
theorem leB_mod (v n : Nat) {m : Nat} (h : ∀ i, i < n → v / 256 ^ i % 256 = m / 256 ^ i % 256) : leB v n = leB m n := by
  unfold leB; exact List.map_congr_left (fun i hi => h i (List.mem_range.mp hi))
/-- the info word in its pieces -/
theorem leB_info {a k f : Nat} (ha : a < 65536) (hk : k < 32) (hf : f < 2) : leB (a + k * 16777216 + f * 2147483648) 4 = leB a 2 ++ leB 0 1 ++ leB (128 * f + k) 1 := by
  rw [show (4 : Nat) = 2 + (1 + 1) from rfl, leB_two, leB_two, List.append_assoc]
  have e0 : leB (a + k * 16777216 + f * 2147483648) 2 = leB a 2 := leB_mod _ _ (fun i hi => by
    rcases (show i = 0 ∨ i = 1 by omega) with e | e <;> subst e <;> omega)
  have e1 : leB ((a + k * 16777216 + f * 2147483648) / 256 ^ 2) 1 = leB 0 1 := leB_mod _ _ (fun i hi => by
    rw [show i = 0 by omega]; omega)
  have e2 : leB ((a + k * 16777216 + f * 2147483648) / 256 ^ 2 / 256 ^ 1) 1 = leB (128 * f + k) 1 := leB_mod _ _ (fun i hi => by
    rw [show i = 0 by omega]; omega)
  rw [e0, e1, e2]
theorem leB_1 {x : Nat} (h : x < 256) : leB x 1 = [x] := by
  unfold leB; simp; omega
