/-! both sides hold the same -/
theorem Named.congr {t tb tb' : Nat → Nat} {sg tc k i : Nat} (h : ∀ j, j < tc → tb j = tb' j) : Named t sg tb tc k i ↔ Named t sg tb' tc k i := by
  unfold Named
  constructor
  · rintro ⟨a, b, c⟩; exact ⟨a, b, fun j hj => by rw [← h j hj]; exact c j hj⟩
  · rintro ⟨a, b, c⟩; exact ⟨a, b, fun j hj => by rw [h j hj]; exact c j hj⟩
theorem Least.eq {t tb tb' : Nat → Nat} {sg sg' N tc k f r r' : Nat} (h : Least t sg N tb tc k f r) (h' : Least t sg' N tb' tc k f r') (hf : 1 ≤ f) (hg : N = 0 ∨ sg' = sg) (ht : ∀ j, j < tc → tb j = tb' j) : r = r' := by
  rcases hg with hg | hg
  · have := h.le; have := h'.le; omega
  · subst hg
    rcases h with ⟨a, b⟩ | ⟨a, b, c, d⟩ <;> rcases h' with ⟨a', b'⟩ | ⟨a', b', c', d'⟩
    · omega
    · exact absurd ((Named.congr ht).mpr c') (b _ a' b')
    · exact absurd ((Named.congr ht).mp c) (b' _ a b)
    · rcases Nat.lt_trichotomy r r' with z | z | z
      · exact absurd ((Named.congr ht).mp c) (d' _ a z)
      · exact z
      · exact absurd ((Named.congr ht).mpr c') (d _ a' z)
theorem okUpTo.uniq {t : Nat → Nat} {sg cnt m m' : Nat} (h : okUpTo t sg cnt m) (h' : okUpTo t sg cnt m') (e : off t (m + 1) = sg ∨ teE t (off t (m + 1)) sg cnt (m + 1) (itc t m) ≠ 0) (e' : off t (m' + 1) = sg ∨ teE t (off t (m' + 1)) sg cnt (m' + 1) (itc t m') ≠ 0) : m = m' := by
  have key : ∀ {a b : Nat}, okUpTo t sg cnt b → (off t (a + 1) = sg ∨ teE t (off t (a + 1)) sg cnt (a + 1) (itc t a) ≠ 0) → ¬ a < b := by
    intro a b hb he hab
    obtain ⟨g1, g2⟩ := hb.2.2.2 a hab
    rcases he with he | he
    · omega
    · exact he g2
  have h1 := key h' e
  have h2 := key h e'
  omega
theorem Judge.uniq {t : Nat → Nat} {cnt e sd e' sd' : Nat} (h : Judge t cnt e sd) (h' : Judge t cnt e' sd') : e = e' ∧ sd = sd' := by
  rcases h with ⟨a, b, c⟩ | ⟨a, b⟩ <;> rcases h' with ⟨a', b', c'⟩ | ⟨a', b'⟩
  · exact ⟨by rw [b, b'], by rw [c, c']⟩
  · exact absurd a' a
  · exact absurd a a'
  · rcases b with ⟨m, h1, h2, h3, h4, h5⟩ | ⟨m, h1, h2, h3, h4⟩ <;> rcases b' with ⟨m', g1, g2, g3, g4, g5⟩ | ⟨m', g1, g2, g3, g4⟩
    · have := h1.uniq g1 (Or.inr (by rw [← h3]; exact h4)) (Or.inr (by rw [← g3]; exact g4))
      subst this
      exact ⟨by rw [h3, g3], by rw [h5, g5]⟩
    · have := h1.uniq g1 (Or.inr (by rw [← h3]; exact h4)) (Or.inl g2)
      subst this; omega
    · have := h1.uniq g1 (Or.inl h2) (Or.inr (by rw [← g3]; exact g4))
      subst this; omega
    · have := h1.uniq g1 (Or.inl h2) (Or.inl g2)
      subst this
      exact ⟨by rw [h4, g4], by rw [h3, g3]⟩
theorem TxtOK.uniq {t : Nat → Nat} {cnt N N' : Nat} (h : TxtOK t cnt N) (h' : TxtOK t cnt N') : N = N' := h.1.uniq h'.1 (Or.inl h.2.1) (Or.inl h'.2.1)
theorem Judge.sd {t : Nat → Nat} {cnt e sd : Nat} (h : Judge t cnt e sd) : sd ≤ 300 := by
  rcases h with ⟨-, -, c⟩ | ⟨-, b⟩
  · omega
  · rcases b with ⟨m, h1, -, -, -, h5⟩ | ⟨m, -, -, h3, -⟩
    · have := h1.1; omega
    · omega
/-- how many classes there are -/
theorem cntP_sum {p : Nat → Bool} {f : Nat → Nat} : ∀ n, (∀ j, 1 ≤ j → j ≤ n → f j = if p j then 1 else 0) → f 0 = 1 → sumN f (n + 1) = cntP p n + 1
  | 0, _, h0 => by simp [sumN, cntP, h0]
  | n + 1, h, h0 => by
    have := cntP_sum n (fun j a b => h j a (by omega)) h0
    show sumN f (n + 1) + f (n + 1) = _
    rw [this, h (n + 1) (by omega) (by omega)]
    simp only [cntP]
    omega
theorem FoldOK.cls {t : Nat → Nat} {sg N cn lb : Nat} {nw fi pa bi fr ld nu : Nat → Nat} (h : FoldOK t sg N nw fi pa bi fr cn lb) (hL : LdOK t sg N ld nu) : cn - 1 = cntP (ldB ld) N ∧ 1 ≤ cn ∧ cn ≤ N + 1 := by
  have hld := fun i a b => (h.ld hL (i := i) a b).1
  obtain ⟨⟨d, hR⟩, -, -⟩ := h
  obtain ⟨hcn, h1, h2, -, -, -, -, -, h0⟩ := hR
  have hs : sumN (mkF fi cn) (N + 1) = cn := mkF_sum cn (fun e he => (h2 e he).1) (fun e e' a b z => by
    have g1 := (h2 e (by omega)).2
    have g2 := (h2 e' b).2
    rw [z, g2] at g1; omega)
  have hc := cntP_sum (p := ldB ld) (f := mkF fi cn) N (fun j a b => by
    rcases mkF_at fi cn j with ⟨z1, e, z2, z3⟩ | ⟨z1, z2⟩
    · have : ldB ld j = true := decide_eq_true (by rw [← hld j a b, ← z3, (h2 e z2).2])
      rw [z1, if_pos this]
    · have : ¬ ldB ld j = true := fun y => by
        have y := of_decide_eq_true y
        exact z2 (nw j) (h1 j b).1 (by rw [hld j a b]; exact y)
      rw [z1, if_neg this]) (by
    rcases mkF_at fi cn 0 with ⟨z1, -⟩ | ⟨-, z2⟩
    · exact z1
    · exact absurd h0 (z2 0 (by omega)))
  omega
/-- the greatest depth at which two types are still alike -/
theorem FoldOK.deep {t : Nat → Nat} {sg N cn lb g : Nat} {nw fi pa bi fr M : Nat → Nat} (h : FoldOK t sg N nw fi pa bi fr cn lb) (hA : ∀ a b, a ≤ N → b ≤ N → Apart t sg (M (202 * a + b)) a b) (hD : Deep N M g) : lb - 1 = g - 1 := by
  obtain ⟨⟨d, hR⟩, hF, -⟩ := h
  obtain ⟨hcn, h1, h2, h3, h4, h5, h6, h7, h8⟩ := hR
  obtain ⟨d1, d2, d3⟩ := hD
  -- no depth is more than lb
  have hup : ∀ a b, a ≤ N → b ≤ N → M (202 * a + b) ≤ lb := fun a b ha hb => by
    rcases hA a b ha hb with ⟨z, -⟩ | ⟨z1, z2, z3⟩
    · omega
    · by_cases e : nw a = nw b
      · exact absurd ((hF _ a ha).sy.tr (by rw [e]; exact hF _ b hb)) z2
      · have hx := h3 _ _ (h1 a ha).1 (h1 b hb).1 e
        have hm : max (bi (nw a)) (bi (nw b)) ≤ lb := Nat.max_le.mpr ⟨(h5 _ (h1 a ha).1).2, (h5 _ (h1 b hb).1).2⟩
        by_cases y : M (202 * a + b) ≤ lb
        · exact y
        · exact absurd (((hF _ a ha).tr (z3.le (by omega))).tr (hF _ b hb).sy) hx
  rcases h7 with ⟨e1, e2⟩ | ⟨c, c0, c1, c2⟩
  · rcases d3 with d3 | ⟨a, b, x, y, w⟩
    · omega
    · have := hup a b x (by omega); omega
  · -- lb is told by a class and the one that it came out of
    obtain ⟨p1, p2, p3⟩ := h4 c c0 c1
    have hb1 : 1 ≤ bi c := by omega
    have hx := h3 c (pa c) c1 (by omega) (by omega)
    rw [Nat.max_eq_left (by omega)] at hx
    have hfa := (h2 c c1).1
    have hfb := (h2 (pa c) (by omega)).1
    have hne : fi c ≠ fi (pa c) := fun z => by have g1 := (h2 c c1).2; rw [z, (h2 (pa c) (by omega)).2] at g1; omega
    have hap : ∀ a b, a ≤ N → b ≤ N → ¬ alk t sg (bi c) a b → alk t sg (bi c - 1) a b → M (202 * a + b) = bi c := fun a b ha hb n1 n2 => (hA a b ha hb).uniq (Or.inr ⟨hb1, n1, n2⟩)
    have hge : bi c ≤ g := by
      rcases Nat.lt_or_ge (fi (pa c)) (fi c) with z | z
      · have := d2 _ _ hfa z; rw [hap _ _ hfa hfb hx p3] at this; exact this
      · have := d2 _ _ hfb (show fi c < fi (pa c) by omega); rw [hap _ _ hfb hfa (fun y => hx y.sy) p3.sy] at this; exact this
    rcases d3 with d3 | ⟨a, b, x, y, w⟩
    · omega
    · have := hup a b x (by omega); omega
theorem tyA_eq {t : Nat → Nat} {sg N cn lb i w : Nat} {nw fi pa bi fr ld nu : Nat → Nat} (h : FoldOK t sg N nw fi pa bi fr cn lb) (hL : LdOK t sg N ld nu) (h1 : 1 ≤ i) (h2 : i ≤ N) : tyA t sg (fun i => fi (nw i)) (fun i => fr (fi (nw i))) i w = tyA t sg ld nu i w := by
  obtain ⟨a, b⟩ := h.ld hL h1 h2
  have e : tyA t sg (fun i => fi (nw i)) (fun i => fr (fi (nw i))) i w = if w = 0 then kd (inft t i) else if w = 1 then tl (inft t i) else if w = 2 then fl (inft t i) else if w = 3 then wdT t i 2 else if w = 4 then nrT t i else if w = 5 then lfr t (sg + wdT t i 0) else if w = 6 then fi (nw i) else fr (fi (nw i)) := rfl
  rw [e, b, a]
  rfl
theorem tyA_lt {t : Nat → Nat} (ht : ∀ i, t i < 256) {sg : Nat} {ld nu : Nat → Nat} {i w : Nat} (h1 : ld i ≤ 200) (h2 : nu i ≤ 200) (h3 : lfr t (sg + wdT t i 0) < 2 ^ 32) : tyA t sg ld nu i w < 2 ^ 63 := by
  have a := kd_lt (inft t i)
  have b := tl_lt (inft t i)
  have c := fl_lt (inft t i)
  have d := wdT_lt ht i 2
  have e : nrT t i ≤ 2 + ic (inft t i) := refs_len t i
  have f := ic_lt (inft t i)
  unfold tyA
  repeat (first | omega | split)
theorem fsum_congr {t : Nat → Nat} {p q : Nat → Bool} : ∀ n, (∀ i, 1 ≤ i → i ≤ n → p i = q i) → fsum t p n = fsum t q n
  | 0, _ => rfl
  | n + 1, h => by simp only [fsum]; rw [fsum_congr n (fun i a b => h i a (by omega)), h (n + 1) (by omega) (by omega)]
theorem FoldOK.wr {t : Nat → Nat} {sg N cn lb : Nat} {nw fi pa bi fr ld nu : Nat → Nat} (h : FoldOK t sg N nw fi pa bi fr cn lb) (hL : LdOK t sg N ld nu) (g : Nat → Nat → Nat) : fsum t (ldr nw fi) N = fsum t (ldB ld) N ∧ TLs t (fun i => fi (nw i)) g N = TLs t ld g N := by
  have hld := fun i a b => (h.ld hL (i := i) a b).1
  refine ⟨fsum_congr N (fun i a b => by unfold ldr ldB; rw [hld i a b]), TLs_congr N (fun i a b => by rw [hld i a b])⟩
theorem cut_agree {f g : Nat → Nat} {c : Nat} (h : ∀ j, j < c → f j = g j) : cut f c = cut g c := by
  funext j
  unfold cut
  by_cases z : j < c
  · rw [if_pos z, if_pos z, h j z]
  · rw [if_neg z, if_neg z]
theorem app_agree {f g : Nat → Nat} {c n : Nat} {v : Nat → Nat} (h : ∀ j, j < c → f j = g j) : ∀ j, j < c + n → app f c v n j = app g c v n j := by
  intro j hj
  rw [app_at, app_at]
  by_cases z : c ≤ j ∧ j < c + n
  · rw [if_pos z, if_pos z]
  · rw [if_neg z, if_neg z, h j (by omega)]
theorem Apart.sg0 {t : Nat → Nat} {sg sg' N r r' i j : Nat} (h : Apart t sg r i j) (h' : Apart t sg' r' i j) (hi : i ≤ N) (hj : j ≤ N) (hg : N = 0 ∨ sg' = sg) : r = r' := by
  rcases hg with hg | hg
  · have e1 : i = 0 := by omega
    have e2 : j = 0 := by omega
    subst e1 e2
    rw [h.z.mpr (fun e => alk.rf _ _ _ _), h'.z.mpr (fun e => alk.rf _ _ _ _)]
  · subst hg; exact h.uniq h'
theorem updL_s (f : Nat → Int64) (i : Nat) (v : Int64) : vp_updL f i v i = v := by simp [vp_updL]
theorem lg_self (x : Int64) : lg_cmp x x = 0 := by unfold lg_cmp; simp
theorem in_out {x : Int32} (n : Nat) (hn : n ≤ 200) (h : x.toInt < 0 ∨ (n : Int) < x.toInt) (hy : inB x.toInt64 (lN 0) (lN n) = true) : False := by
  rw [inB_hasV x hn] at hy
  have := of_decide_eq_true hy
  omega
