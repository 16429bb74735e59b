/-! an accepted text as the reference keeps it -/
def MT (t : Nat → Nat) (sg S N : Nat) : Prop := okUpTo t sg (sg + S) N ∧ hiAll t N ≤ N ∧ t (sg + (S - 1)) = 0 ∧ (1 ≤ S ∧ S ≤ 8192 ∧ sg < 2 ^ 20) ∧ ∀ i, t i < 256
theorem MT.of {t : Nat → Nat} {cnt N : Nat} (h : TxtOK t cnt N) (hc : cnt ≤ 8192) (ht : ∀ i, t i < 256) : MT t (24 + num t 12 4) (cnt - (24 + num t 12 4)) N := by
  obtain ⟨h1, h2, h3, h4⟩ := h
  obtain ⟨g1, g2, g3, g4, g5, g6⟩ := headE_0 h4
  have e : 24 + num t 12 4 + (cnt - (24 + num t 12 4)) = cnt := by omega
  refine ⟨by rw [e]; exact h1, h3, ?_, by omega, ht⟩
  rw [show 24 + num t 12 4 + (cnt - (24 + num t 12 4) - 1) = cnt - 1 by omega]
  exact g5
theorem MT.at {t : Nat → Nat} {sg S N j : Nat} (h : MT t sg S N) (hj : j < N) : infoOK (inft t (j + 1)) = true ∧ wdT t (j + 1) 0 < S ∧ (∀ p, p < ic (inft t (j + 1)) → pnT t (j + 1) p < S) ∧ itc t j + ic (inft t (j + 1)) ≤ 600 ∧ 1 ≤ kd (inft t (j + 1)) ∧ kd (inft t (j + 1)) ≤ 13 := by
  have h1 := h.1
  obtain ⟨-, h2⟩ := h1.2.2.2 j hj
  obtain ⟨-, -, g1, g2, -, g3, -⟩ := teE_0 h2
  have g4 := namesIn_iff.mp g3
  have g5 := (infoOK_iff h.2.2.2.2 (off t (j + 1))).mp g2
  have g6 : kd (inft t (j + 1)) = t (off t (j + 1) + 7) % 32 := kd_b h.2.2.2.2 _
  exact ⟨g2, by omega, fun p hp => by have := g4.2 p hp; omega, g1, by omega, by omega⟩
def MS (t : Nat → Nat) (sg S N : Nat) (fL fN fK fV fF fR fM fO fT fB pN pT pU : Nat → Nat) : Prop := MT t sg S N ∧ ((∀ k, k < S → fL k = t (sg + k)) ∧ ∀ i, fL i < 256) ∧ MdA t N fN fK fV fF fR fM fO fT fB pN pT pU
def MSi (t : Nat → Nat) (S i : Nat) (fN fK fV fF fR fM fO fT fB pN pT pU : Nat → Nat) : Prop :=
  infoOK (inft t i) = true ∧ (fN i = wdT t i 0 ∧ fN i < S) ∧ (fK i = kd (inft t i) ∧ 1 ≤ fK i ∧ fK i ≤ 13) ∧ (fV i = tl (inft t i) ∧ fV i < 65536) ∧ (fF i = fl (inft t i) ∧ fF i < 2) ∧ (fR i = wdT t i 2 ∧ fR i < 2 ^ 32) ∧ (fM i = moT t i ∧ fM i < 2 ^ 32) ∧ (fO i = onT t i ∧ fO i < 2 ^ 32) ∧ (fT i = twT t i ∧ fT i < 2 ^ 32) ∧ (fB i = itc t (i - 1) ∧ fB (i + 1) = fB i + ic (inft t i) ∧ fB (i + 1) ≤ 600) ∧ (mref fK fB i = nrT t i ∧ ∀ q, q < nrT t i → mrf fK fB fO fT fR pT i q = rfT t i q) ∧ ∀ p, p < ic (inft t i) → (pN (fB i + p) = pnT t i p ∧ pN (fB i + p) < S) ∧ (pT (fB i + p) = ptT t i p ∧ pT (fB i + p) < 2 ^ 32) ∧ (pU (fB i + p) = puT t i p ∧ pU (fB i + p) < 2 ^ 32)
theorem wdT_lt {t : Nat → Nat} (ht : ∀ i, t i < 256) (i w : Nat) : wdT t i w < 2 ^ 32 := num4_lt ht _
theorem MS.at {t : Nat → Nat} {sg S N i : Nat} {fL fN fK fV fF fR fM fO fT fB pN pT pU : Nat → Nat} (h : MS t sg S N fL fN fK fV fF fR fM fO fT fB pN pT pU) (h1 : 1 ≤ i) (h2 : i ≤ N) : MSi t S i fN fK fV fF fR fM fO fT fB pN pT pU := by
  obtain ⟨hT, -, hM⟩ := h
  obtain ⟨j, rfl⟩ : ∃ j, i = j + 1 := ⟨i - 1, by omega⟩
  have hj : j < N := by omega
  obtain ⟨a1, a2, a3, a4, a5, a6⟩ := hT.at hj
  have ht := hT.2.2.2.2
  obtain ⟨e1, e2, e3, e4, e5, e6, e7, e8⟩ := hM.1 j hj
  obtain ⟨b1, b2⟩ := hM.be hj
  have hw := wdT_lt ht (j + 1)
  refine ⟨a1, ⟨e1, by omega⟩, ⟨e2, by omega, by omega⟩, ⟨e3, by have := tl_lt (inft t (j + 1)); omega⟩, ⟨e4, by have := fl_lt (inft t (j + 1)); omega⟩, ⟨e5, by rw [e5]; exact hw 2⟩, ⟨e6, ?_⟩, ⟨e7, ?_⟩, ⟨e8, ?_⟩, ⟨by rw [b1]; rfl, by rw [b2, b1], by omega⟩, ⟨mref_eq hM hj, fun q hq => mrf_eq hM hj hq⟩, fun p hp => ?_⟩
  · rw [e6]; unfold moT; split
    · exact hw 3
    · split
      · exact hw 5
      · decide
  · rw [e7]; unfold onT; split
    · exact hw 3
    · decide
  · rw [e8]; unfold twT; split
    · exact hw 4
    · decide
  · obtain ⟨q1, q2, q3⟩ := hM.2.2.1 j p hj hp
    rw [b1]
    refine ⟨⟨q1, by rw [q1]; exact a3 p hp⟩, ⟨q2, ?_⟩, ⟨q3, ?_⟩⟩
    · rw [q2]; unfold ptT; split
      · decide
      · exact hw _
    · rw [q3]; unfold puT; split
      · exact hw _
      · split
        · decide
        · exact hw _
theorem MS.nr {t : Nat → Nat} {sg S N i : Nat} {fL fN fK fV fF fR fM fO fT fB pN pT pU : Nat → Nat} (h : MS t sg S N fL fN fK fV fF fR fM fO fT fB pN pT pU) (h1 : 1 ≤ i) (h2 : i ≤ N) : nrT t i ≤ 602 := by
  obtain ⟨-, -, -, -, -, -, -, -, -, ⟨-, b2, b3⟩, -⟩ := h.at h1 h2
  have hl : nrT t i ≤ 2 + ic (inft t i) := refs_len t i
  omega
theorem MS.rf {t : Nat → Nat} {sg S N i q : Nat} {fL fN fK fV fF fR fM fO fT fB pN pT pU : Nat → Nat} (h : MS t sg S N fL fN fK fV fF fR fM fO fT fB pN pT pU) (h1 : 1 ≤ i) (h2 : i ≤ N) (hq : q < nrT t i) : rfT t i q ≤ N ∧ (fK i = 3 ∨ fB i + q ≤ 600) := by
  obtain ⟨-, -, ⟨k1, -⟩, -, -, -, -, -, -, ⟨-, b2, b3⟩, -⟩ := h.at h1 h2
  refine ⟨rfT_le h.1.2.1 h1 h2 hq, ?_⟩
  by_cases z : kd (inft t i) = 3
  · exact Or.inl (by omega)
  · have := nr_in hq z; exact Or.inr (by omega)
/-- the strings, as the reference keeps them -/
theorem MS.seq {t : Nat → Nat} {sg S N a b : Nat} {fL fN fK fV fF fR fM fO fT fB pN pT pU : Nat → Nat} (h : MS t sg S N fL fN fK fV fF fR fM fO fT fB pN pT pU) (ha : a < S) (hb : b < S) : seqn fL a b ↔ seqn t (sg + a) (sg + b) := seqn_sh h.2.1.1 h.1.2.2.1 ha hb h.1.2.2.2.1.2.1
theorem MS.z {t : Nat → Nat} {sg S N : Nat} {fL fN fK fV fF fR fM fO fT fB pN pT pU : Nat → Nat} (h : MS t sg S N fL fN fK fV fF fR fM fO fT fB pN pT pU) : fL (S - 1) = 0 := by
  have := h.1.2.2.2.1
  rw [h.2.1.1 _ (by omega)]; exact h.1.2.2.1
theorem MS_ic {t : Nat → Nat} {sg S N i j : Nat} {fL fN fK fV fF fR fM fO fT fB pN pT pU : Nat → Nat} (h : MS t sg S N fL fN fK fV fF fR fM fO fT fB pN pT pU) (h1 : 1 ≤ i) (h2 : i ≤ N) (g1 : 1 ≤ j) (g2 : j ≤ N) (ek : fK i = fK j) (ev : fV i = fV j) : fB (i + 1) - fB i = fB (j + 1) - fB j := by
  obtain ⟨-, -, ⟨k1, -⟩, ⟨v1, -⟩, -, -, -, -, -, ⟨-, b2, -⟩, -⟩ := h.at h1 h2
  obtain ⟨-, -, ⟨k1', -⟩, ⟨v1', -⟩, -, -, -, -, -, ⟨-, b2', -⟩, -⟩ := h.at g1 g2
  have : ic (inft t i) = ic (inft t j) := by
    unfold ic
    rw [← k1, ← k1', ← v1, ← v1', ek, ev]
  omega
/-- the labels by the reference's own arrays -/
theorem MS_lab {t : Nat → Nat} {sg S N i j : Nat} {fL fN fK fV fF fR fM fO fT fB pN pT pU : Nat → Nat} (h : MS t sg S N fL fN fK fV fF fR fM fO fT fB pN pT pU) (h1 : 1 ≤ i) (h2 : i ≤ N) (g1 : 1 ≤ j) (g2 : j ≤ N) : lab t sg i j ↔ (fK i = fK j ∧ fV i = fV j ∧ fF i = fF j ∧ fM i = fM j) ∧ seqn fL (fN i) (fN j) ∧ (trB (fK i) = true ∨ fR i = fR j) ∧ ∀ p, p < fB (i + 1) - fB i → pU (fB i + p) = pU (fB j + p) ∧ seqn fL (pN (fB i + p)) (pN (fB j + p)) := by
  have hS := h
  have hic := MS_ic h h1 h2 g1 g2
  obtain ⟨a0, ⟨a1, a1'⟩, ⟨k1, -⟩, ⟨v1, -⟩, ⟨f1, -⟩, ⟨r1, -⟩, ⟨m1, -⟩, -, -, ⟨-, b2, -⟩, -, p1⟩ := h.at h1 h2
  obtain ⟨c0, ⟨c1, c1'⟩, ⟨k2, -⟩, ⟨v2, -⟩, ⟨f2, -⟩, ⟨r2, -⟩, ⟨m2, -⟩, -, -, ⟨-, d2, -⟩, -, p2⟩ := h.at g1 g2
  rw [lab_iff h.1.2.2.2.2 a0 c0, ← k1, ← k2, ← v1, ← v2, ← f1, ← f2, ← m1, ← m2, ← r1, ← r2, ← a1, ← c1, hS.seq a1' c1']
  constructor
  · rintro ⟨e1, e2, e3, e4⟩
    refine ⟨e1, e2, e3, fun p hp => ?_⟩
    have hi := hic e1.1 e1.2.1
    obtain ⟨⟨x1, x2⟩, -, x3, -⟩ := p1 p (by omega)
    obtain ⟨⟨y1, y2⟩, -, y3, -⟩ := p2 p (by omega)
    rw [x3, y3, hS.seq x2 y2, x1, y1]
    exact e4 p (by omega)
  · rintro ⟨e1, e2, e3, e4⟩
    refine ⟨e1, e2, e3, fun p hp => ?_⟩
    have hi := hic e1.1 e1.2.1
    obtain ⟨⟨x1, x2⟩, -, x3, -⟩ := p1 p (by omega)
    obtain ⟨⟨y1, y2⟩, -, y3, -⟩ := p2 p (by omega)
    have := e4 p (by omega)
    rw [x3, y3, hS.seq x2 y2, x1, y1] at this
    exact this
