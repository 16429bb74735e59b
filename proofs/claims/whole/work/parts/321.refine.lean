/-! the classes of types that are alike to a depth, as Folding holds them -/
def RD (t : Nat → Nat) (sg N d : Nat) (nw fi pa bi : Nat → Nat) (cn lb : Nat) : Prop :=
  (1 ≤ cn ∧ cn ≤ N + 1) ∧
  (∀ i, i ≤ N → nw i < cn ∧ fi (nw i) ≤ i ∧ alk t sg d (fi (nw i)) i) ∧
  (∀ c, c < cn → fi c ≤ N ∧ nw (fi c) = c) ∧
  (∀ c e, c < cn → e < cn → c ≠ e → ¬ alk t sg (max (bi c) (bi e)) (fi c) (fi e)) ∧
  (∀ c, 0 < c → c < cn → pa c < c ∧ bi (pa c) < bi c ∧ alk t sg (bi c - 1) (fi c) (fi (pa c))) ∧
  (∀ c, c < cn → bi c ≤ d ∧ bi c ≤ lb) ∧ bi 0 = 0 ∧ ((cn = 1 ∧ lb = 0) ∨ ∃ c, 0 < c ∧ c < cn ∧ bi c = lb) ∧ fi 0 = 0
theorem RD.part {t : Nat → Nat} {sg N d cn lb : Nat} {nw fi pa bi : Nat → Nat} (h : RD t sg N d nw fi pa bi cn lb) {i j : Nat} (hi : i ≤ N) (hj : j ≤ N) : nw i = nw j ↔ alk t sg d i j := by
  obtain ⟨-, h1, h2, h3, -, h5, -⟩ := h
  obtain ⟨a1, -, a3⟩ := h1 i hi
  obtain ⟨b1, -, b3⟩ := h1 j hj
  refine ⟨fun z => a3.sy.tr (by rw [z]; exact b3), fun z => ?_⟩
  by_cases e : nw i = nw j
  · exact e
  · have hx := h3 _ _ a1 b1 e
    have := ((a3.tr z).tr b3.sy).le (Nat.max_le.mpr ⟨(h5 _ a1).1, (h5 _ b1).1⟩)
    exact absurd this hx
/-- the class that a class was in before this round -/
def oc (B : Nat) (pa : Nat → Nat) (c : Nat) : Nat := if c < B then c else pa c
def RI (t : Nat → Nat) (sg N d B : Nat) (wa fi0 pa0 bi0 : Nat → Nat) (lb0 i k : Nat) (nw fi : Nat → Nat) (sb : Nat → Option Nat) (pa bi : Nat → Nat) (cn lb : Nat) : Prop :=
  B ≤ cn ∧
  (∀ c, c < cn → fi c ≤ N ∧ wa (fi c) = oc B pa c ∧ (c < B → fi c = fi0 c ∧ pa c = pa0 c ∧ bi c = bi0 c) ∧ (B ≤ c → fi c < k ∧ pa c < B ∧ bi c = d + 1)) ∧
  (∀ c, c < cn → (sb c = none → ∀ e, c < e → e < cn → oc B pa e ≠ oc B pa c) ∧ (∀ c', sb c = some c' → c < c' ∧ c' < cn ∧ oc B pa c' = oc B pa c ∧ ∀ e, c < e → e < c' → oc B pa e ≠ oc B pa c)) ∧
  (∀ c e, c < cn → e < cn → c ≠ e → oc B pa c = oc B pa e → ¬ alk t sg (d + 1) (fi c) (fi e)) ∧
  (∀ j, j < i → nw j < cn ∧ oc B pa (nw j) = wa j ∧ alk t sg (d + 1) (fi (nw j)) j ∧ fi (nw j) ≤ j) ∧
  ((cn = B ∧ lb = lb0) ∨ (B < cn ∧ lb = d + 1))
/-- so many different numbers up to N: there is room -/
def mkF (f : Nat → Nat) : Nat → (Nat → Nat)
  | 0 => fun _ => 0
  | c + 1 => gu (mkF f c) (f c) 1
theorem mkF_at (f : Nat → Nat) : ∀ c j, (mkF f c j = 1 ∧ ∃ e, e < c ∧ f e = j) ∨ (mkF f c j = 0 ∧ ∀ e, e < c → f e ≠ j)
  | 0, j => Or.inr ⟨rfl, fun e he => absurd he (by omega)⟩
  | c + 1, j => by
    simp only [mkF]
    by_cases h : j = f c
    · subst h; exact Or.inl ⟨gu_s _ _ _, c, by omega, rfl⟩
    · rw [gu_n _ _ h]
      rcases mkF_at f c j with ⟨a, e, e1, e2⟩ | ⟨a, e1⟩
      · exact Or.inl ⟨a, e, by omega, e2⟩
      · exact Or.inr ⟨a, fun e he => by by_cases z : e = c; (subst z; exact fun y => h y.symm); exact e1 e (by omega)⟩
theorem mkF_sum {f : Nat → Nat} {N : Nat} : ∀ c, (∀ e, e < c → f e ≤ N) → (∀ e e', e < e' → e' < c → f e ≠ f e') → sumN (mkF f c) (N + 1) = c
  | 0, _, _ => sumN_0 _ (fun _ _ => rfl)
  | c + 1, h1, h2 => by
    simp only [mkF]
    have h0 : mkF f c (f c) = 0 := by
      rcases mkF_at f c (f c) with ⟨-, e, e1, e2⟩ | ⟨a, -⟩
      · exact absurd e2 (h2 e c e1 (by omega))
      · exact a
    rw [sumN_gu h0, mkF_sum c (fun e he => h1 e (by omega)) (fun e e' a b => h2 e e' a (by omega)), if_pos (by have := h1 c (by omega); omega)]
theorem room_le {f : Nat → Nat} {N c : Nat} (h1 : ∀ e, e < c → f e ≤ N) (h2 : ∀ e e', e < e' → e' < c → f e ≠ f e') : c ≤ N + 1 := by
  have := sumN_le (f := mkF f c) (fun j => by rcases mkF_at f c j with ⟨a, -⟩ | ⟨a, -⟩ <;> omega) (N + 1)
  rw [mkF_sum c h1 h2] at this
  exact this
theorem room_lt {f : Nat → Nat} {N c i : Nat} (h1 : ∀ e, e < c → f e ≤ N) (h2 : ∀ e e', e < e' → e' < c → f e ≠ f e') (hi : i ≤ N) (h3 : ∀ e, e < c → f e ≠ i) : c < N + 1 := by
  have h0 : mkF f c i = 0 := by
    rcases mkF_at f c i with ⟨-, e, e1, e2⟩ | ⟨a, -⟩
    · exact absurd e2 (h3 e e1)
    · exact a
  have := sumN_lt (f := mkF f c) (fun j => by rcases mkF_at f c j with ⟨a, -⟩ | ⟨a, -⟩ <;> omega) h0 (N + 1) (by omega)
  rw [mkF_sum c h1 h2] at this
  exact this
theorem RI.inj {t : Nat → Nat} {sg N d B lb0 i k cn lb : Nat} {wa fi0 pa0 bi0 nw fi pa bi : Nat → Nat} {sb : Nat → Option Nat} (h : RI t sg N d B wa fi0 pa0 bi0 lb0 i k nw fi sb pa bi cn lb) : ∀ e e', e < e' → e' < cn → fi e ≠ fi e' := by
  intro e e' h1 h2 z
  have a := (h.2.1 e (by omega)).2.1
  have b := (h.2.1 e' h2).2.1
  rw [z] at a
  exact h.2.2.2.1 e e' (by omega) h2 (by omega) (a.symm.trans b) (by rw [z]; exact alk.rf _ _ _ _)
theorem RI.weak {t : Nat → Nat} {sg N d B lb0 i k k' cn lb : Nat} {wa fi0 pa0 bi0 nw fi pa bi : Nat → Nat} {sb : Nat → Option Nat} (h : RI t sg N d B wa fi0 pa0 bi0 lb0 i k nw fi sb pa bi cn lb) (hk : k ≤ k') : RI t sg N d B wa fi0 pa0 bi0 lb0 i k' nw fi sb pa bi cn lb :=
  ⟨h.1, fun c hc => ⟨(h.2.1 c hc).1, (h.2.1 c hc).2.1, (h.2.1 c hc).2.2.1, fun hb => ⟨Nat.lt_of_lt_of_le ((h.2.1 c hc).2.2.2 hb).1 hk, ((h.2.1 c hc).2.2.2 hb).2⟩⟩, h.2.2⟩
/-- where the walk for type i stands: at the class c; those ahead of it are not alike with i -/
def atC (t : Nat → Nat) (sg d B : Nat) (wa fi pa : Nat → Nat) (cn i c : Nat) : Prop := c < cn ∧ oc B pa c = wa i ∧ fi c ≤ i ∧ ∀ e, e < c → oc B pa e = wa i → ¬ alk t sg (d + 1) (fi e) i
theorem RI.born {t : Nat → Nat} {sg N d B lb0 i c cn lb : Nat} {wa fi0 pa0 bi0 nw fi pa bi : Nat → Nat} {sb : Nat → Option Nat} (h : RI t sg N d B wa fi0 pa0 bi0 lb0 i (i + 1) nw fi sb pa bi cn lb) (hi : i ≤ N) (hwB : wa i < B) (hc : atC t sg d B wa fi pa cn i c) (hs : sb c = none) (hna : ¬ alk t sg (d + 1) (fi c) i) :
    RI t sg N d B wa fi0 pa0 bi0 lb0 i (i + 1) nw (gu fi cn i) (go (go sb cn none) c (some cn)) (gu pa cn (wa i)) (gu bi cn (d + 1)) (cn + 1) (d + 1) ∧ atC t sg d B wa (gu fi cn i) (gu pa cn (wa i)) (cn + 1) i cn := by
  obtain ⟨hB, h1, h2, h3, h4, h5⟩ := h
  obtain ⟨c1, c2, c3, c4⟩ := hc
  have hoc : ∀ e, e < cn → oc B (gu pa cn (wa i)) e = oc B pa e := fun e he => by unfold oc; split; rfl; exact gu_n _ _ (by omega)
  have hon : oc B (gu pa cn (wa i)) cn = wa i := by unfold oc; rw [if_neg (by omega)]; exact gu_s _ _ _
  have hfi : ∀ e, e < cn → gu fi cn i e = fi e := fun e he => gu_n _ _ (by omega)
  have hnone : ∀ e, e < cn → oc B pa e = wa i → ¬ alk t sg (d + 1) (fi e) i := by
    intro e he ho
    rcases Nat.lt_trichotomy e c with z | z | z
    · exact c4 e z ho
    · subst z; exact hna
    · exact absurd (ho.trans c2.symm) ((h2 c c1).1 hs e z he)
  refine ⟨⟨by omega, fun e he => ?_, fun e he => ?_, fun e e' he he' hne ho => ?_, fun j hj => ?_, Or.inr ⟨by omega, rfl⟩⟩, ⟨by omega, hon, by rw [gu_s]; exact Nat.le_refl _, fun e he ho => ?_⟩⟩
  · by_cases z : e = cn
    · subst z
      rw [gu_s, hon, gu_s, gu_s]
      exact ⟨hi, rfl, fun y => absurd y (by omega), fun _ => ⟨by omega, hwB, rfl⟩⟩
    · have he2 : e < cn := by omega
      rw [hfi e he2, hoc e he2, gu_n _ _ z, gu_n _ _ z]
      exact h1 e he2
  · by_cases z : e = cn
    · subst z
      rw [go_n _ _ (by omega), go_s]
      exact ⟨fun _ e' y1 y2 => by omega, fun c' y => by cases y⟩
    · have he2 : e < cn := by omega
      by_cases z2 : e = c
      · subst z2
        rw [go_s]
        refine ⟨fun y => (by cases y), fun c' y => ?_⟩
        cases y
        refine ⟨c1, by omega, by rw [hon, hoc e c1]; exact c2.symm, fun e' y1 y2 => by rw [hoc e' y2, hoc e c1]; exact (h2 e c1).1 hs e' y1 y2⟩
      · rw [go_n _ _ z2, go_n _ _ z, hoc e he2]
        refine ⟨fun y e' y1 y2 => ?_, fun c' y => ?_⟩
        · by_cases z3 : e' = cn
          · subst z3
            rw [hon]
            intro y3
            rcases Nat.lt_trichotomy e c with w | w | w
            · exact (h2 e he2).1 y c w c1 (c2.trans y3)
            · exact z2 w
            · exact (h2 c c1).1 hs e w he2 (y3.symm.trans c2.symm)
          · rw [hoc e' (by omega)]; exact (h2 e he2).1 y e' y1 (by omega)
        · obtain ⟨g1, g2, g3, g4⟩ := (h2 e he2).2 c' y
          exact ⟨g1, by omega, by rw [hoc c' g2]; exact g3, fun e' y1 y2 => by rw [hoc e' (by omega)]; exact g4 e' y1 y2⟩
  · by_cases z : e = cn
    · subst z
      have he3 : e' < e := by omega
      rw [gu_s, hfi e' he3]
      rw [hon, hoc e' he3] at ho
      exact fun y => hnone e' he3 ho.symm y.sy
    · have he2 : e < cn := by omega
      rw [hfi e he2]
      by_cases z2 : e' = cn
      · subst z2
        rw [gu_s]
        rw [hon, hoc e he2] at ho
        exact hnone e he2 ho
      · rw [hfi e' (by omega)]
        rw [hoc e he2, hoc e' (by omega)] at ho
        exact h3 e e' he2 (by omega) hne ho
  · obtain ⟨g1, g2, g3, g4⟩ := h4 j hj
    rw [hoc _ g1, hfi _ g1]
    exact ⟨by omega, g2, g3, g4⟩
  · rw [hfi e (by omega)]
    rw [hoc e (by omega)] at ho
    exact hnone e (by omega) ho
theorem RI.next {t : Nat → Nat} {sg N d B lb0 i c c' cn lb : Nat} {wa fi0 pa0 bi0 nw fi pa bi : Nat → Nat} {sb : Nat → Option Nat} (h : RI t sg N d B wa fi0 pa0 bi0 lb0 i (i + 1) nw fi sb pa bi cn lb) (hf0 : fi0 (wa i) ≤ i) (hc : atC t sg d B wa fi pa cn i c) (hs : sb c = some c') (hna : ¬ alk t sg (d + 1) (fi c) i) : atC t sg d B wa fi pa cn i c' := by
  obtain ⟨c1, c2, c3, c4⟩ := hc
  obtain ⟨g1, g2, g3, g4⟩ := (h.2.2.1 c c1).2 c' hs
  refine ⟨g2, g3.trans c2, ?_, fun e he ho => ?_⟩
  · obtain ⟨-, -, q3, q4⟩ := h.2.1 c' g2
    by_cases z : c' < B
    · have : oc B pa c' = c' := if_pos z
      rw [(q3 z).1, ← this, g3, c2]; exact hf0
    · have := (q4 (by omega)).1; omega
  · rcases Nat.lt_trichotomy e c with z | z | z
    · exact c4 e z ho
    · subst z; exact hna
    · exact absurd (ho.trans c2.symm) (g4 e z he)
theorem RI.put {t : Nat → Nat} {sg N d B lb0 i c cn lb : Nat} {wa fi0 pa0 bi0 nw fi pa bi : Nat → Nat} {sb : Nat → Option Nat} (h : RI t sg N d B wa fi0 pa0 bi0 lb0 i (i + 1) nw fi sb pa bi cn lb) (hc : atC t sg d B wa fi pa cn i c) (ha : alk t sg (d + 1) (fi c) i) : RI t sg N d B wa fi0 pa0 bi0 lb0 (i + 1) (i + 1) (gu nw i c) fi sb pa bi cn lb := by
  obtain ⟨hB, h1, h2, h3, h4, h5⟩ := h
  refine ⟨hB, h1, h2, h3, fun j hj => ?_, h5⟩
  by_cases z : j = i
  · subst z; rw [gu_s]; exact ⟨hc.1, hc.2.1, ha, hc.2.2.1⟩
  · rw [gu_n _ _ z]; exact h4 j (by omega)
theorem RI.done {t : Nat → Nat} {sg N d B lb0 cn lb : Nat} {wa fi0 pa0 bi0 nw fi pa bi : Nat → Nat} {sb : Nat → Option Nat} (h0 : RD t sg N d wa fi0 pa0 bi0 B lb0) (h : RI t sg N d B wa fi0 pa0 bi0 lb0 (N + 1) (N + 1) nw fi sb pa bi cn lb) :
    RD t sg N (d + 1) nw fi pa bi cn lb ∧ (cn = B → ∀ j, j ≤ N → nw j = wa j) := by
  have hinj := h.inj
  obtain ⟨hB, h1, h2, h3, h4, h5⟩ := h
  obtain ⟨⟨z1, z2⟩, y1, y2, y3, y4, y5, y6, y7, y8⟩ := id h0
  have hb : ∀ c, c < cn → c < B → oc B pa c = c := fun c _ hc => if_pos hc
  have hnwfi : ∀ c, c < cn → nw (fi c) = c := by
    intro c hc
    obtain ⟨g1, g2, g3, g4⟩ := h4 (fi c) (by have := (h1 c hc).1; omega)
    by_cases e : nw (fi c) = c
    · exact e
    · exact absurd g3 (h3 _ _ g1 hc e (g2.trans (h1 c hc).2.1))
  have hbd : ∀ c, c < cn → bi c ≤ d + 1 := by
    intro c hc
    by_cases z : c < B
    · rw [((h1 c hc).2.2.1 z).2.2]; have := (y5 c z).1; omega
    · rw [((h1 c hc).2.2.2 (by omega)).2.2]; exact Nat.le_refl _
  have hpar : ∀ i, i ≤ N → ∀ j, j ≤ N → (wa i = wa j ↔ alk t sg d i j) := fun i hi j hj => h0.part hi hj
  refine ⟨⟨⟨by omega, room_le (fun e he => (h1 e he).1) hinj⟩, fun i hi => ?_, fun c hc => ⟨(h1 c hc).1, hnwfi c hc⟩, fun c e hc he hne => ?_, fun c hc0 hc => ?_, fun c hc => ⟨hbd c hc, ?_⟩, ?_, ?_, ?_⟩, fun hcn j hj => ?_⟩
  · obtain ⟨g1, g2, g3, g4⟩ := h4 i (by omega)
    exact ⟨g1, g4, g3⟩
  · by_cases zc : c < B
    · by_cases ze : e < B
      · obtain ⟨q1, -, q3⟩ := (h1 c hc).2.2.1 zc
        obtain ⟨r1, -, r3⟩ := (h1 e he).2.2.1 ze
        rw [q1, q3, r1, r3]
        exact y3 c e zc ze hne
      · have e1 := ((h1 e he).2.2.2 (by omega)).2.2
        have hm : max (bi c) (bi e) = d + 1 := by rw [e1]; exact Nat.max_eq_right (hbd c hc)
        rw [hm]
        intro w
        have : wa (fi c) = wa (fi e) := (hpar _ (h1 c hc).1 _ (h1 e he).1).mpr w.dn
        exact h3 c e hc he hne (by rw [← (h1 c hc).2.1, ← (h1 e he).2.1]; exact this) w
    · have e1 := ((h1 c hc).2.2.2 (by omega)).2.2
      have hm : max (bi c) (bi e) = d + 1 := by rw [e1]; exact Nat.max_eq_left (hbd e he)
      rw [hm]
      intro w
      have : wa (fi c) = wa (fi e) := (hpar _ (h1 c hc).1 _ (h1 e he).1).mpr w.dn
      exact h3 c e hc he hne (by rw [← (h1 c hc).2.1, ← (h1 e he).2.1]; exact this) w
  · by_cases zc : c < B
    · obtain ⟨q1, q2, q3⟩ := (h1 c hc).2.2.1 zc
      obtain ⟨p1, p2, p3⟩ := y4 c hc0 zc
      have hp : pa c < cn := by omega
      obtain ⟨r1, -, r3⟩ := (h1 (pa c) hp).2.2.1 (by omega)
      refine ⟨by omega, ?_, ?_⟩
      · rw [r3, q3, q2]; exact p2
      · rw [q1, q3, r1, q2]; exact p3
    · obtain ⟨q1, q2, q3⟩ := (h1 c hc).2.2.2 (by omega)
      have hp : pa c < cn := by omega
      obtain ⟨r1, -, r3⟩ := (h1 (pa c) hp).2.2.1 q2
      have hoc : oc B pa c = pa c := if_neg zc
      refine ⟨by omega, ?_, ?_⟩
      · rw [r3, q3]; have := (y5 (pa c) q2).1; omega
      · rw [q3, r1, show d + 1 - 1 = d by omega]
        have : wa (fi c) = wa (fi0 (pa c)) := by rw [(h1 c hc).2.1, hoc, (y2 _ q2).2]
        exact (hpar _ (h1 c hc).1 _ (y2 _ q2).1).mp this
  · rcases h5 with ⟨w1, w2⟩ | ⟨w1, w2⟩
    · rw [((h1 c hc).2.2.1 (by omega)).2.2, w2]; exact (y5 c (by omega)).2
    · rw [w2]; exact hbd c hc
  · rw [((h1 0 (by omega)).2.2.1 (by omega)).2.2]; exact y6
  · rcases h5 with ⟨w1, w2⟩ | ⟨w1, w2⟩
    · rcases y7 with ⟨v1, v2⟩ | ⟨c, v1, v2, v3⟩
      · exact Or.inl ⟨by omega, by omega⟩
      · exact Or.inr ⟨c, v1, by omega, by rw [((h1 c (by omega)).2.2.1 v2).2.2, w2]; exact v3⟩
    · exact Or.inr ⟨B, by omega, w1, by rw [w2]; exact ((h1 B w1).2.2.2 (Nat.le_refl _)).2.2⟩
  · rw [((h1 0 (by omega)).2.2.1 (by omega)).1]; exact y8
  · obtain ⟨g1, g2, -⟩ := h4 j (by omega)
    rw [← g2]
    exact (if_pos (by omega)).symm
/-- what the rows hold stays small -/
def FB (nw wa fi : Nat → Nat) (sb : Nat → Option Nat) (pa bi fr : Nat → Nat) : Prop := (∀ j, nw j ≤ 200 ∧ wa j ≤ 200 ∧ fi j ≤ 200 ∧ pa j ≤ 200 ∧ bi j ≤ 201 ∧ fr j ≤ 200) ∧ ∀ j c, sb j = some c → c ≤ 200
theorem oI_neg {o : Option Nat} (h : ∀ c, o = some c → c ≤ 200) : ¬ 0 ≤ oI o ↔ o = none := by
  cases o with
  | none => exact ⟨fun _ => rfl, fun _ => by decide⟩
  | some c => exact ⟨fun z => absurd (nI_pos' (by have := h c rfl; omega)) z, fun z => by cases z⟩
