/-! labels, and how deep types are alike -/
def labW (t : Nat → Nat) (sg a b w : Nat) : Prop := (rl (kd (inft t a)) w = 1 → seqn t (sg + wdT t a w) (sg + wdT t b w)) ∧ (rl (kd (inft t a)) w = 0 → wdT t a w = wdT t b w)
def lab (t : Nat → Nat) (sg a b : Nat) : Prop := inft t a = inft t b ∧ ∀ w, w < wds (inft t a) → labW t sg a b w
theorem labW.rf (t : Nat → Nat) (sg a w : Nat) : labW t sg a a w := ⟨fun _ => seqn.rf _ _, fun _ => rfl⟩
theorem lab.rf (t : Nat → Nat) (sg a : Nat) : lab t sg a a := ⟨rfl, fun w _ => labW.rf t sg a w⟩
theorem lab.sy {t : Nat → Nat} {sg a b : Nat} (h : lab t sg a b) : lab t sg b a :=
  ⟨h.1.symm, fun w hw => by
    have := h.2 w (by rw [h.1]; exact hw)
    unfold labW at this ⊢
    rw [← h.1]
    exact ⟨fun z => (this.1 z).sy, fun z => (this.2 z).symm⟩⟩
theorem lab.tr {t : Nat → Nat} {sg a b c : Nat} (h : lab t sg a b) (h' : lab t sg b c) : lab t sg a c :=
  ⟨h.1.trans h'.1, fun w hw => by
    have h1 := h.2 w hw
    have h2 := h'.2 w (by rw [← h.1]; exact hw)
    unfold labW at h1 h2 ⊢
    rw [← h.1] at h2
    exact ⟨fun z => (h1.1 z).tr (h2.1 z), fun z => (h1.2 z).trans (h2.2 z)⟩⟩
/-- the k-th reference -/
def rfT (t : Nat → Nat) (i k : Nat) : Nat := (refs t i).getD k 0
def nrT (t : Nat → Nat) (i : Nat) : Nat := (refs t i).length
theorem rfW_lenE (t : Nat → Nat) (a b k w : Nat) : (rfW t a k w).length = (rfW t b k w).length := by
  induction w with
  | zero => rfl
  | succ w ih =>
    simp only [rfW]
    split
    · rw [List.length_append, List.length_append, ih, List.length_singleton, List.length_singleton]
    · exact ih
theorem lab.nr {t : Nat → Nat} {sg a b : Nat} (h : lab t sg a b) : nrT t a = nrT t b := by
  unfold nrT refs
  rw [h.1]
  exact rfW_lenE _ _ _ _ _
def alk (t : Nat → Nat) (sg : Nat) : Nat → Nat → Nat → Prop
  | 0, _, _ => True
  | d + 1, i, j => (i = 0 ∧ j = 0) ∨ (i ≠ 0 ∧ j ≠ 0 ∧ lab t sg i j ∧ ∀ k, k < nrT t i → alk t sg d (rfT t i k) (rfT t j k))
theorem alk.rf (t : Nat → Nat) (sg : Nat) : ∀ d i, alk t sg d i i
  | 0, _ => trivial
  | d + 1, i => by
    by_cases h : i = 0
    · exact Or.inl ⟨h, h⟩
    · exact Or.inr ⟨h, h, lab.rf t sg i, fun k _ => alk.rf t sg d _⟩
theorem alk.sy {t : Nat → Nat} {sg : Nat} : ∀ {d i j}, alk t sg d i j → alk t sg d j i
  | 0, _, _, _ => trivial
  | d + 1, i, j, h => by
    rcases h with ⟨h1, h2⟩ | ⟨h1, h2, h3, h4⟩
    · exact Or.inl ⟨h2, h1⟩
    · exact Or.inr ⟨h2, h1, h3.sy, fun k hk => (h4 k (by rw [h3.nr]; exact hk)).sy⟩
theorem alk.tr {t : Nat → Nat} {sg : Nat} : ∀ {d i j k}, alk t sg d i j → alk t sg d j k → alk t sg d i k
  | 0, _, _, _, _, _ => trivial
  | d + 1, i, j, k, h, h' => by
    rcases h with ⟨h1, h2⟩ | ⟨h1, h2, h3, h4⟩
    · rcases h' with ⟨g1, g2⟩ | ⟨g1, _⟩
      · exact Or.inl ⟨h1, g2⟩
      · exact absurd h2 g1
    · rcases h' with ⟨g1, _⟩ | ⟨g1, g2, g3, g4⟩
      · exact absurd g1 h2
      · exact Or.inr ⟨h1, g2, h3.tr g3, fun m hm => (h4 m hm).tr (g4 m (by rw [← h3.nr]; exact hm))⟩
theorem alk.dn {t : Nat → Nat} {sg : Nat} : ∀ {d i j}, alk t sg (d + 1) i j → alk t sg d i j
  | 0, _, _, _ => trivial
  | d + 1, i, j, h => by
    rcases h with h | ⟨h1, h2, h3, h4⟩
    · exact Or.inl h
    · exact Or.inr ⟨h1, h2, h3, fun k hk => (h4 k hk).dn⟩
theorem alk.le {t : Nat → Nat} {sg d e i j : Nat} (h : alk t sg d i j) (he : e ≤ d) : alk t sg e i j := by
  induction d with
  | zero => rw [show e = 0 by omega]; trivial
  | succ d ih =>
    by_cases z : e = d + 1
    · rw [z]; exact h
    · exact ih h.dn (by omega)
/-- a slot's name is the one that the word tells of -/
theorem prefix_getD {L M : List Nat} {x : Nat} : (L ++ [x] ++ M).getD L.length 0 = x := by
  simp [List.getD_eq_getElem?_getD]
theorem nmW_pre (t : Nat → Nat) (a k : Nat) {w w' : Nat} (h : w ≤ w') : ∃ M, nmW t a k w' = nmW t a k w ++ M := by
  induction w' with
  | zero => rw [show w = 0 by omega]; exact ⟨[], by simp⟩
  | succ w' ih =>
    by_cases e : w = w' + 1
    · subst e; exact ⟨[], by simp⟩
    · obtain ⟨M, hM⟩ := ih (by omega)
      simp only [nmW]
      split
      · exact ⟨M ++ [num t (a + 4 * w') 4], by rw [hM, List.append_assoc]⟩
      · exact ⟨M, hM⟩
theorem nmA_pre (t : Nat → Nat) {m N : Nat} (h : m ≤ N) : ∃ M, nmA t N = nmA t m ++ M := by
  induction N with
  | zero => rw [show m = 0 by omega]; exact ⟨[], by simp⟩
  | succ N ih =>
    by_cases e : m = N + 1
    · subst e; exact ⟨[], by simp⟩
    · obtain ⟨M, hM⟩ := ih (by omega)
      simp only [nmA]
      exact ⟨M ++ _, by rw [hM, List.append_assoc]⟩
theorem nm_slot {t : Nat → Nat} {m N w : Nat} (hm : m < N) (hw : w < wds (inft t (m + 1))) (hr : rl (kd (inft t (m + 1))) w = 1) : (nmP t m w).length < (nmA t N).length ∧ (nmA t N).getD (nmP t m w).length 0 = wdT t (m + 1) w := by
  obtain ⟨M, hM⟩ := nmA_pre t (show m + 1 ≤ N by omega)
  obtain ⟨M2, hM2⟩ := nmW_pre t (off t (m + 1)) (kd (inft t (m + 1))) (show w + 1 ≤ wds (inft t (m + 1)) by omega)
  have e : nmA t N = nmP t m w ++ [wdT t (m + 1) w] ++ (M2 ++ M) := by
    rw [hM]
    simp only [nmA]
    rw [hM2]
    have := nmP_s hr
    simp only [nmP] at this ⊢
    rw [List.append_assoc, List.append_assoc, ← List.append_assoc (nmA t m), this]
    simp [wdT, List.append_assoc]
  rw [e]
  refine ⟨by simp, prefix_getD⟩
theorem NOK.eq {t : Nat → Nat} {sg nc fb s s' : Nat} {L : List Nat} {te pl le fr : Nat → Nat} (h : NOK t sg L te pl le fr nc fb) (hs : s < L.length) (hs' : s' < L.length) : te s = te s' ↔ seqn t (sg + L.getD s 0) (sg + L.getD s' 0) := by
  obtain ⟨hD, -, h1, -, -⟩ := h
  obtain ⟨-, -, hne, -⟩ := hD
  rcases h1 s hs with ⟨a0, a1⟩ | ⟨a0, a1, a2, a3⟩ <;> rcases h1 s' hs' with ⟨b0, b1⟩ | ⟨b0, b1, b2, b3⟩
  · exact ⟨fun _ => ⟨by rw [a0, b0], fun j hj => by omega⟩, fun _ => by rw [a1, b1]⟩
  · exact ⟨fun z => by omega, fun z => absurd (z.1.symm.trans a0) b0⟩
  · exact ⟨fun z => by omega, fun z => absurd (z.1.trans b0) a0⟩
  · refine ⟨fun z => a3.sy.tr (by rw [z]; exact b3), fun z => ?_⟩
    have hq : seqn t (pl (te s)) (pl (te s')) := (a3.tr z).tr b3.sy
    rcases Nat.lt_trichotomy (te s) (te s') with c | c | c
    · exact absurd hq (hne _ _ a1 c b2)
    · exact c
    · exact absurd hq.sy (hne _ _ b1 c a2)
/-- references by the rows of Links -/
theorem rfA_pre (t : Nat → Nat) {m N : Nat} (h : m ≤ N) : ∃ M, rfA t N = rfA t m ++ M := by
  induction N with
  | zero => rw [show m = 0 by omega]; exact ⟨[], by simp⟩
  | succ N ih =>
    by_cases e : m = N + 1
    · subst e; exact ⟨[], by simp⟩
    · obtain ⟨M, hM⟩ := ih (by omega)
      simp only [rfA]
      exact ⟨M ++ _, by rw [hM, List.append_assoc]⟩
theorem LinksOK.at {t st to bs bk : Nat → Nat} {N i : Nat} (h : LinksOK t N st to bs bk) (h1 : 1 ≤ i) (h2 : i ≤ N) : st (i + 1) - st i = nrT t i ∧ st i ≤ st (i + 1) ∧ ∀ k, k < nrT t i → to (st i + k) = rfT t i k := by
  obtain ⟨m, rfl⟩ : ∃ m, i = m + 1 := ⟨i - 1, by omega⟩
  obtain ⟨hS, hT, -⟩ := h
  have e1 := hS.2.1 m (by omega)
  have e2 := hS.2.1 (m + 1) h2
  have e3 : (rfA t (m + 1)).length = (rfA t m).length + nrT t (m + 1) := by simp only [rfA, nrT]; rw [List.length_append]
  refine ⟨by omega, by omega, fun k hk => ?_⟩
  obtain ⟨M, hM⟩ := rfA_pre t h2
  have hlen : (rfA t m).length + k < (rfA t N).length := by rw [hM, List.length_append]; omega
  rw [e1, hT.1 _ hlen, hM]
  simp only [rfA]
  unfold rfT
  rw [List.append_assoc]
  simp only [List.getD_eq_getElem?_getD]
  rw [List.getElem?_append_right (by omega), show (rfA t m).length + k - (rfA t m).length = k by omega, List.getElem?_append_left hk]
theorem rfT_le {t : Nat → Nat} {N i k : Nat} (hh : hiAll t N ≤ N) (h1 : 1 ≤ i) (h2 : i ≤ N) (hk : k < nrT t i) : rfT t i k ≤ N := by
  obtain ⟨m, rfl⟩ : ∃ m, i = m + 1 := ⟨i - 1, by omega⟩
  exact Nat.le_trans (rfW_hi _ _ (getD_mem hk)) (Nat.le_trans (hiAll_ge N m (by omega)) hh)
def oI (o : Option Nat) : Int32 := match o with
  | none => -1
  | some n => nI n
def go (f : Nat → Option Nat) (i : Nat) (v : Option Nat) : Nat → Option Nat := fun j => if j = i then v else f j
theorem go_s (f : Nat → Option Nat) (i : Nat) (v : Option Nat) : go f i v i = v := by simp [go]
theorem go_n (f : Nat → Option Nat) {i j : Nat} (v : Option Nat) (h : j ≠ i) : go f i v j = f j := by simp [go, h]
theorem go_I (f : Nat → Option Nat) (i : Nat) (v : Option Nat) : upd (fun j => oI (f j)) i (oI v) = fun j => oI (go f i v j) := by
  funext j
  unfold upd go
  split <;> rfl
theorem nmP_le8 {t : Nat → Nat} {sg cnt N m w : Nat} (hok : okUpTo t sg cnt N) (hm : m < N) (hw : w ≤ wds (inft t (m + 1))) : (nmP t m w).length ≤ 800 := by
  obtain ⟨-, -, h8, -, -⟩ := hok.at hm
  have h9 := nmA_len t (m + 1)
  rw [← nmP_all] at h9
  have h7 : (nmP t m w).length ≤ (nmP t m (wds (inft t (m + 1)))).length := by
    simp only [nmP, List.length_append]
    have := nmW_mono t (off t (m + 1)) (kd (inft t (m + 1))) hw
    omega
  omega
