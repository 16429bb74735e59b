/-! the table of depths, as the reference makes it -/
theorem sumN_mono {f g : Nat → Nat} : ∀ n, (∀ j, j < n → f j ≤ g j) → sumN f n ≤ sumN g n
  | 0, _ => Nat.le_refl _
  | n + 1, h => by simp only [sumN]; have := sumN_mono n (fun j hj => h j (by omega)); have := h n (by omega); omega
theorem sumN_monoLt {f g : Nat → Nat} {x : Nat} : ∀ n, x < n → (∀ j, j < n → f j ≤ g j) → f x < g x → sumN f n < sumN g n
  | 0, hx, _, _ => absurd hx (by omega)
  | n + 1, hx, h, hl => by
    simp only [sumN]
    by_cases e : x = n
    · subst e; have := sumN_mono (f := f) (g := g) x (fun j hj => h j (by omega)); omega
    · have := sumN_monoLt n (by omega) (fun j hj => h j (by omega)) hl; have := h n (by omega); omega
def zz (M : Nat → Nat) (x : Nat) : Nat := if M x = 0 then 1 else 0
def zc (M : Nat → Nat) : Nat := sumN (zz M) 40804
theorem zc_le (M : Nat → Nat) : zc M ≤ 40804 := sumN_le (fun j => by unfold zz; split <;> omega) _
theorem zz_gu {M : Nat → Nat} {x v : Nat} (hv : v ≠ 0) (j : Nat) : zz (gu M x v) j ≤ zz M j := by
  unfold zz
  by_cases e : j = x
  · subst e; rw [gu_s, if_neg hv]; exact Nat.zero_le _
  · rw [gu_n _ _ e]; exact Nat.le_refl _
theorem zc_gu {M : Nat → Nat} {x v : Nat} (hv : v ≠ 0) : zc (gu M x v) ≤ zc M := sumN_mono _ (fun j _ => zz_gu hv j)
theorem zc_lt {M : Nat → Nat} {x v : Nat} (hx : x < 40804) (h0 : M x = 0) (hv : v ≠ 0) : zc (gu M x v) < zc M :=
  sumN_monoLt _ hx (fun j _ => zz_gu hv j) (by unfold zz; rw [gu_s, if_neg hv, if_pos h0]; decide)
theorem gu_same {M : Nat → Nat} {x v : Nat} (h : M x = v) : gu M x v = M := by
  funext j
  by_cases e : j = x
  · rw [e, gu_s, h]
  · rw [gu_n _ _ e]
/-- a round of the table: number d + 1; dn: the pairs that this round has seen -/
def AM (t : Nat → Nat) (sg N d : Nat) (dn : Nat → Nat → Prop) (M : Nat → Nat) : Prop :=
  (∀ i j, i ≤ N → j ≤ N → M (202 * i + j) = M (202 * j + i)) ∧
  ∀ i j, i ≤ N → j ≤ N → (M (202 * i + j) = 0 ∧ alk t sg d i j ∧ (dn i j → alk t sg (d + 1) i j)) ∨ (1 ≤ M (202 * i + j) ∧ M (202 * i + j) ≤ d + 1 ∧ ¬ alk t sg (M (202 * i + j)) i j ∧ alk t sg (M (202 * i + j) - 1) i j)
theorem AM.le {t : Nat → Nat} {sg N d : Nat} {dn : Nat → Nat → Prop} {M : Nat → Nat} (h : AM t sg N d dn M) {i j : Nat} (hi : i ≤ N) (hj : j ≤ N) : M (202 * i + j) ≤ d + 1 := by
  rcases h.2 i j hi hj with ⟨a, -⟩ | ⟨-, a, -⟩ <;> omega
theorem AM.imp {t : Nat → Nat} {sg N d : Nat} {dn dn' : Nat → Nat → Prop} {M : Nat → Nat} (h : AM t sg N d dn M) (hd : ∀ i j, i ≤ N → j ≤ N → dn' i j → dn i j) : AM t sg N d dn' M :=
  ⟨h.1, fun i j hi hj => (h.2 i j hi hj).imp (fun ⟨a, b, c⟩ => ⟨a, b, fun z => c (hd i j hi hj z)⟩) id⟩
theorem AM.low {t : Nat → Nat} {sg N d : Nat} {dn : Nat → Nat → Prop} {M : Nat → Nat} (h : AM t sg N d dn M) {i j : Nat} (hi : i ≤ N) (hj : j ≤ N) : (0 < M (202 * i + j) ∧ M (202 * i + j) < d + 1) ↔ ¬ alk t sg d i j := by
  rcases h.2 i j hi hj with ⟨a, b, -⟩ | ⟨a, b, c, e⟩
  · exact ⟨fun z => absurd z.1 (by omega), fun z => absurd b z⟩
  · refine ⟨fun z y => c (y.le (by omega)), fun z => ⟨by omega, ?_⟩⟩
    by_cases g : M (202 * i + j) = d + 1
    · rw [g, Nat.add_sub_cancel] at e; exact absurd e z
    · omega
def dnS (dn : Nat → Nat → Prop) (i j a b : Nat) : Prop := dn a b ∨ (a = i ∧ b = j) ∨ (a = j ∧ b = i)
theorem ix_inj {a b i j : Nat} (hb : b < 202) (hj : j < 202) : 202 * a + b = 202 * i + j ↔ a = i ∧ b = j := by omega
/-- a pair that is told apart already -/
theorem AM.skip {t : Nat → Nat} {sg N d : Nat} {dn : Nat → Nat → Prop} {M : Nat → Nat} (h : AM t sg N d dn M) {i j : Nat} (hi : i ≤ N) (hj : j ≤ N) (h0 : M (202 * i + j) ≠ 0) : AM t sg N d (dnS dn i j) M := by
  refine ⟨h.1, fun a b ha hb => ?_⟩
  rcases h.2 a b ha hb with ⟨q, r, s⟩ | q
  · refine Or.inl ⟨q, r, ?_⟩
    rintro (z | ⟨z1, z2⟩ | ⟨z1, z2⟩)
    · exact s z
    · subst z1 z2; exact absurd q h0
    · subst z1 z2; rw [h.1 _ _ ha hb] at q; exact absurd q h0
  · exact Or.inr q
theorem alk_step {t : Nat → Nat} {sg d i j : Nat} (h1 : 1 ≤ d) (hi : i ≠ 0) (ha : alk t sg d i j) : alk t sg (d + 1) i j ↔ ∀ k, k < nrT t i → alk t sg d (rfT t i k) (rfT t j k) := by
  obtain ⟨e, rfl⟩ : ∃ e, d = e + 1 := ⟨d - 1, by omega⟩
  rcases ha with ⟨g, -⟩ | ⟨g1, g2, g3, -⟩
  · exact absurd g hi
  · constructor
    · rintro (⟨g, -⟩ | ⟨-, -, -, g⟩)
      · exact absurd g hi
      · exact g
    · intro g; exact Or.inr ⟨g1, g2, g3, g⟩
theorem alk_nr {t : Nat → Nat} {sg d i j : Nat} (h1 : 1 ≤ d) (hi : i ≠ 0) (ha : alk t sg d i j) : nrT t i = nrT t j ∧ j ≠ 0 := by
  obtain ⟨e, rfl⟩ : ∃ e, d = e + 1 := ⟨d - 1, by omega⟩
  rcases ha with ⟨g, -⟩ | ⟨-, g, g3, -⟩
  · exact absurd g hi
  · exact ⟨g3.nr, g⟩
theorem AM.z {t : Nat → Nat} {sg N d : Nat} {dn : Nat → Nat → Prop} {M : Nat → Nat} (h : AM t sg N d dn M) {i j : Nat} (hi : i ≤ N) (hj : j ≤ N) (h0 : M (202 * i + j) = 0) : alk t sg d i j := by
  rcases h.2 i j hi hj with ⟨-, a, -⟩ | ⟨a, -⟩
  · exact a
  · omega
/-- no reference tells them apart -/
theorem AM.stay {t : Nat → Nat} {sg N d : Nat} {dn : Nat → Nat → Prop} {M : Nat → Nat} (h : AM t sg N d dn M) {i j : Nat} (hi : i ≤ N) (hj : j ≤ N) (hh : hiAll t N ≤ N) (h1 : 1 ≤ d) (hi0 : i ≠ 0) (h0 : M (202 * i + j) = 0) (hn : ∀ k, k < nrT t i → ¬ (0 < M (202 * rfT t i k + rfT t j k) ∧ M (202 * rfT t i k + rfT t j k) < d + 1)) : AM t sg N d (dnS dn i j) M := by
  have ha := h.z hi hj h0
  obtain ⟨hnr, hj0⟩ := alk_nr h1 hi0 ha
  have hA : alk t sg (d + 1) i j := (alk_step h1 hi0 ha).mpr fun k hk => Classical.byContradiction fun z => hn k hk ((h.low (rfT_le hh (by omega) hi hk) (rfT_le hh (by omega) hj (by omega))).mpr z)
  refine ⟨h.1, fun a b ha hb => ?_⟩
  rcases h.2 a b ha hb with ⟨q, r, s⟩ | q
  · refine Or.inl ⟨q, r, ?_⟩
    rintro (z | ⟨z1, z2⟩ | ⟨z1, z2⟩)
    · exact s z
    · subst z1 z2; exact hA
    · subst z1 z2; exact hA.sy
  · exact Or.inr q
/-- a reference tells them apart -/
theorem AM.tell {t : Nat → Nat} {sg N d : Nat} {dn : Nat → Nat → Prop} {M : Nat → Nat} (h : AM t sg N d dn M) {i j k : Nat} (hi : i ≤ N) (hj : j ≤ N) (hN : N ≤ 200) (hh : hiAll t N ≤ N) (h1 : 1 ≤ d) (hi0 : i ≠ 0) (h0 : M (202 * i + j) = 0) (hk : k < nrT t i) (hb : 0 < M (202 * rfT t i k + rfT t j k) ∧ M (202 * rfT t i k + rfT t j k) < d + 1) : AM t sg N d (dnS dn i j) (gu (gu M (202 * i + j) (d + 1)) (202 * j + i) (d + 1)) := by
  have ha := h.z hi hj h0
  obtain ⟨hnr, hj0⟩ := alk_nr h1 hi0 ha
  have hA : ¬ alk t sg (d + 1) i j := fun z => (h.low (rfT_le hh (by omega) hi hk) (rfT_le hh (by omega) hj (by omega))).mp hb ((alk_step h1 hi0 ha).mp z k hk)
  have hg : ∀ a b, a ≤ N → b ≤ N → gu (gu M (202 * i + j) (d + 1)) (202 * j + i) (d + 1) (202 * a + b) = if (a = i ∧ b = j) ∨ (a = j ∧ b = i) then d + 1 else M (202 * a + b) := fun a b ha hb => by
    by_cases z : a = j ∧ b = i
    · rw [z.1, z.2, gu_s, if_pos (Or.inr ⟨rfl, rfl⟩)]
    · rw [gu_n _ _ (fun y => z ((ix_inj (by omega) (by omega)).mp y))]
      by_cases z' : a = i ∧ b = j
      · rw [z'.1, z'.2, gu_s, if_pos (Or.inl ⟨rfl, rfl⟩)]
      · rw [gu_n _ _ (fun y => z' ((ix_inj (by omega) (by omega)).mp y)), if_neg (fun y => y.elim z' z)]
  refine ⟨fun a b ha hb => ?_, fun a b ha' hb' => ?_⟩
  · rw [hg a b ha hb, hg b a hb ha, h.1 a b ha hb]
    by_cases z : (a = i ∧ b = j) ∨ (a = j ∧ b = i)
    · rw [if_pos z, if_pos (by omega)]
    · rw [if_neg z, if_neg (by omega)]
  · rw [hg a b ha' hb']
    by_cases z : (a = i ∧ b = j) ∨ (a = j ∧ b = i)
    · rw [if_pos z]
      refine Or.inr ⟨by omega, Nat.le_refl _, ?_, ?_⟩
      · rcases z with ⟨z1, z2⟩ | ⟨z1, z2⟩
        · rw [z1, z2]; exact hA
        · rw [z1, z2]; exact fun y => hA y.sy
      · rw [Nat.add_sub_cancel]
        rcases z with ⟨z1, z2⟩ | ⟨z1, z2⟩
        · rw [z1, z2]; exact ha
        · rw [z1, z2]; exact ha.sy
    · rw [if_neg z]
      rcases h.2 a b ha' hb' with ⟨q, r, s⟩ | q
      · refine Or.inl ⟨q, r, ?_⟩
        rintro (y | y)
        · exact s y
        · exact absurd y z
      · exact Or.inr q
/-- the pairs that a round has seen when it stands at I, J -/
def dnI (I J a b : Nat) : Prop := a = b ∨ a = 0 ∨ b = 0 ∨ (a < I ∧ b < I) ∨ (a = I ∧ b < J) ∨ (b = I ∧ a < J)
theorem AM.next {t : Nat → Nat} {sg N d : Nat} {dn : Nat → Nat → Prop} {M : Nat → Nat} (h : AM t sg N d dn M) (hd : ∀ a b, a ≤ N → b ≤ N → dn a b) : AM t sg N (d + 1) (dnI 2 1) M := by
  refine ⟨h.1, fun a b ha hb => ?_⟩
  rcases h.2 a b ha hb with ⟨q, r, s⟩ | ⟨q1, q2, q3, q4⟩
  · have hA := s (hd a b ha hb)
    refine Or.inl ⟨q, hA, fun z => ?_⟩
    have : a = b := by
      rcases hA with ⟨y1, y2⟩ | ⟨y1, y2, -⟩
      · omega
      · unfold dnI at z; omega
    subst this
    exact alk.rf _ _ _ _
  · exact Or.inr ⟨q1, by omega, q3, q4⟩
/-- the first table: labels -/
theorem AM.init {t : Nat → Nat} {sg N : Nat} {M : Nat → Nat} (h : ∀ i j, i ≤ N → j ≤ N → (M (202 * i + j) = 0 ∧ (i = j ∨ i ≠ 0 ∧ j ≠ 0 ∧ lab t sg i j)) ∨ (M (202 * i + j) = 1 ∧ i ≠ j ∧ (i = 0 ∨ j = 0 ∨ ¬ lab t sg i j))) : AM t sg N 1 (dnI 2 1) M := by
  have key : ∀ i j, alk t sg 1 i j ↔ (i = 0 ∧ j = 0) ∨ (i ≠ 0 ∧ j ≠ 0 ∧ lab t sg i j) := fun i j => by
    constructor
    · rintro (z | ⟨a, b, c, -⟩)
      · exact Or.inl z
      · exact Or.inr ⟨a, b, c⟩
    · rintro (z | ⟨a, b, c⟩)
      · exact Or.inl z
      · exact Or.inr ⟨a, b, c, fun _ _ => trivial⟩
  have hz : ∀ i j, i ≤ N → j ≤ N → (M (202 * i + j) = 0 ∧ alk t sg 1 i j) ∨ (M (202 * i + j) = 1 ∧ ¬ alk t sg 1 i j) := fun i j hi hj => by
    rcases h i j hi hj with ⟨a, b⟩ | ⟨a, b, c⟩
    · refine Or.inl ⟨a, ?_⟩
      rcases b with b | b
      · rw [b]; exact alk.rf _ _ _ _
      · exact (key i j).mpr (Or.inr b)
    · refine Or.inr ⟨a, fun z => ?_⟩
      rcases (key i j).mp z with ⟨y1, y2⟩ | ⟨y1, y2, y3⟩
      · omega
      · rcases c with c | c | c
        · exact y1 c
        · exact y2 c
        · exact c y3
  refine ⟨fun i j hi hj => ?_, fun i j hi hj => ?_⟩
  · rcases hz i j hi hj with ⟨a, b⟩ | ⟨a, b⟩ <;> rcases hz j i hj hi with ⟨c, d⟩ | ⟨c, d⟩
    · rw [a, c]
    · exact absurd b.sy d
    · exact absurd d.sy b
    · rw [a, c]
  · rcases hz i j hi hj with ⟨a, b⟩ | ⟨a, b⟩
    · refine Or.inl ⟨a, b, fun z => ?_⟩
      have : i = j := by
        rcases (key i j).mp b with ⟨y1, y2⟩ | ⟨y1, y2, -⟩
        · omega
        · unfold dnI at z; omega
      subst this
      exact alk.rf _ _ _ _
    · rw [a]; exact Or.inr ⟨Nat.le_refl _, by decide, b, trivial⟩
theorem AM.fin {t : Nat → Nat} {sg N d : Nat} {dn : Nat → Nat → Prop} {M : Nat → Nat} (hh : hiAll t N ≤ N) (h : AM t sg N d dn M) (hd : ∀ a b, a ≤ N → b ≤ N → dn a b) (hs : ∀ a b, a ≤ N → b ≤ N → M (202 * a + b) ≤ d) : ∀ i j, i ≤ N → j ≤ N → Apart t sg (M (202 * i + j)) i j := by
  have key : ∀ i j, i ≤ N → j ≤ N → alk t sg d i j → alk t sg (d + 1) i j := fun i j hi hj ha => by
    rcases h.2 i j hi hj with ⟨-, -, s⟩ | ⟨q1, q2, q3, -⟩
    · exact s (hd i j hi hj)
    · exact absurd (ha.le (hs i j hi hj)) q3
  intro i j hi hj
  rcases h.2 i j hi hj with ⟨q, r, s⟩ | ⟨q1, q2, q3, q4⟩
  · exact Or.inl ⟨q, fun e => (alk_stable hh key e i j hi hj r).le (by omega)⟩
  · exact Or.inr ⟨q1, q3, q4⟩
theorem Apart.uniq {t : Nat → Nat} {sg r r' i j : Nat} (h : Apart t sg r i j) (h' : Apart t sg r' i j) : r = r' := by
  rcases h with ⟨a, b⟩ | ⟨a, b, c⟩ <;> rcases h' with ⟨a', b'⟩ | ⟨a', b', c'⟩
  · omega
  · exact absurd (b _) b'
  · exact absurd (b' _) b
  · by_cases z : r < r'
    · exact absurd (c'.le (by omega)) b
    · by_cases y : r' < r
      · exact absurd (c.le (by omega)) b'
      · omega
/-- the leader: the least one that is alike to every depth; its number: how many lead up to it -/
def ldB (ld : Nat → Nat) (j : Nat) : Bool := decide (ld j = j)
def LdA (t : Nat → Nat) (sg : Nat) (ld : Nat → Nat) (i : Nat) : Prop := (1 ≤ ld i ∧ ld i ≤ i) ∧ (∀ e, alk t sg e i (ld i)) ∧ ∀ j, 1 ≤ j → j < ld i → ¬ ∀ e, alk t sg e i j
def LdOK (t : Nat → Nat) (sg N : Nat) (ld nu : Nat → Nat) : Prop := ∀ i, 1 ≤ i → i ≤ N → LdA t sg ld i ∧ nu i = cntP (ldB ld) (ld i)
theorem cntP_congr {p q : Nat → Bool} : ∀ n, (∀ j, 1 ≤ j → j ≤ n → p j = q j) → cntP p n = cntP q n
  | 0, _ => rfl
  | n + 1, h => by simp only [cntP]; rw [cntP_congr n (fun j a b => h j a (by omega)), h (n + 1) (by omega) (by omega)]
theorem LdA.idem {t : Nat → Nat} {sg i : Nat} {ld : Nat → Nat} (h : LdA t sg ld i) (h' : LdA t sg ld (ld i)) : ld (ld i) = ld i := by
  obtain ⟨⟨a1, a2⟩, b, c⟩ := h
  obtain ⟨⟨a1', a2'⟩, b', c'⟩ := h'
  by_cases z : ld (ld i) < ld i
  · exact absurd (fun e => (b e).tr (b' e)) (c _ a1' z)
  · omega
/-- both sides have the same leaders and numbers -/
theorem FoldOK.ld {t : Nat → Nat} {sg N cn lb : Nat} {nw fi pa bi fr ld nu : Nat → Nat} (h : FoldOK t sg N nw fi pa bi fr cn lb) (hL : LdOK t sg N ld nu) {i : Nat} (h1 : 1 ≤ i) (h2 : i ≤ N) : fi (nw i) = ld i ∧ fr (fi (nw i)) = nu i := by
  obtain ⟨⟨d, hR⟩, hF, hr0, hr⟩ := h
  have e1 : ∀ i, 1 ≤ i → i ≤ N → fi (nw i) = ld i := fun i h1 h2 => by
    obtain ⟨⟨⟨a1, a2⟩, b, c⟩, -⟩ := hL i h1 h2
    have g := (hR.2.1 i h2).2.1
    have gz : 1 ≤ fi (nw i) := by
      rcases Nat.eq_zero_or_pos (fi (nw i)) with z | z
      · have y := hF 1 i h2
        rw [z] at y
        rcases y with ⟨-, y⟩ | ⟨y, -⟩
        · omega
        · exact absurd rfl y
      · exact z
    by_cases z : fi (nw i) < ld i
    · exact absurd (fun e => (hF e i h2).sy) (c _ gz z)
    · have : nw (ld i) = nw i := (hR.part (by omega) h2).mpr (b d).sy
      have g2 := (hR.2.1 (ld i) (by omega)).2.1
      rw [this] at g2
      omega
  refine ⟨e1 i h1 h2, ?_⟩
  obtain ⟨hA, hnu⟩ := hL i h1 h2
  have hA2 := hL (ld i) hA.1.1 (by have := hA.1.2; omega)
  rw [hnu, e1 i h1 h2]
  have hid := hA.idem hA2.1
  rw [hr (ld i) hA.1.1 (by have := hA.1.2; omega) (by rw [e1 _ hA.1.1 (by have := hA.1.2; omega)]; exact hid)]
  exact cntP_congr _ (fun j a b => by unfold ldr ldB; rw [e1 j a (by have := hA.1.2; omega)])
