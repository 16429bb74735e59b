theorem in_13 {x : Int32} (h : inB x.toInt64 (lN 0) (lN 13) = true) : 0 ≤ x ∧ x ≤ nI 13 := by
  rw [inB_hasV x (by decide)] at h
  have h := of_decide_eq_true h
  have e : (nI 13).toInt = 13 := by decide
  have e0 : (0 : Int32).toInt = 0 := by decide
  rw [Int32.le_iff_toInt_le, Int32.le_iff_toInt_le, e, e0]
  exact ⟨h.1, h.2⟩
theorem wr_eq {FSc FSm fb oc oc' wr : Nat} {r r2 : Int32} {ob ob' fo O : Nat → Nat} {Lc Lm : List Nat} (hfs : FSc = FSm) (hL : Lc = Lm) (hOu : oc ≤ 16384 ∧ (∀ i, ob i < 256) ∧ (∀ i, fo i < 256) ∧ ∀ i, i < oc → fo i = ob i)
    (h : (16384 < 24 + FSc + fb ∧ r = -1 ∧ oc' = oc ∧ ob' = ob) ∨ (24 + FSc + fb ≤ 16384 ∧ oc' = 24 + FSc + fb ∧ r = nI oc' ∧ RowL ob' oc' (headL FSc fb ++ Lc)))
    (h2 : (16384 < 24 + FSm + fb ∧ r2 = -1 ∧ wr = oc ∧ O = fo) ∨ (24 + FSm + fb ≤ 16384 ∧ wr = 24 + FSm + fb ∧ r2 = nI wr ∧ RowL O wr (headL FSm fb ++ Lm))) :
    r = r2 ∧ oc' = wr ∧ (oc' ≤ 16384 ∧ (∀ i, ob' i < 256) ∧ (∀ i, O i < 256) ∧ ∀ i, i < oc' → O i = ob' i) := by
  subst hfs hL
  rcases h with ⟨a, b, c, d⟩ | ⟨a, b, c, d⟩ <;> rcases h2 with ⟨a', b', c', d'⟩ | ⟨a', b', c', d'⟩
  · subst c d; subst d'; exact ⟨by rw [b, b'], c'.symm, hOu⟩
  · omega
  · omega
  · have e : oc' = wr := by omega
    subst e
    exact ⟨by rw [c, c'], rfl, by omega, d.2.2, d'.2.2, fun i hi => by rw [d.2.1 i hi, d'.2.1 i hi]⟩
theorem look_eq {t : Nat → Nat} {sg sgm N cn lb tc oc er sd w r r2 cl : Nat} {nw fi pa bi fr M ld nu : Nat → Nat} (hFo : FoldOK t sg N nw fi pa bi fr cn lb) (hA : ∀ a b, a ≤ N → b ≤ N → Apart t sgm (M (202 * a + b)) a b ∧ M (202 * a + b) ≤ 50000) (hLd : LdOK t sgm N ld nu) (hcl : cl = cntP (ldB ld) N) (hg : N = 0 ∨ sgm = sg)
    (h : (w = 0 ∧ r = N) ∨ (w = 1 ∧ r = cn - 1) ∨ (w = 2 ∧ r = tc) ∨ (w = 3 ∧ r = oc) ∨ (w = 4 ∧ r = er) ∨ (w = 5 ∧ r = sd) ∨ (w = 6 ∧ r = lb - 1))
    (h2 : (w = 0 ∧ r2 = N) ∨ (w = 1 ∧ r2 = cl) ∨ (w = 2 ∧ r2 = tc) ∨ (w = 3 ∧ r2 = oc) ∨ (w = 4 ∧ r2 = er) ∨ (w = 5 ∧ r2 = sd) ∨ (w = 6 ∧ ∃ g, r2 = g - 1 ∧ Deep N M g)) : r = r2 := by
  have hLd' : LdOK t sg N ld nu := by
    rcases hg with hg | hg
    · intro i a b; omega
    · rw [← hg]; exact hLd
  have hA' : ∀ a b, a ≤ N → b ≤ N → Apart t sg (M (202 * a + b)) a b := fun a b ha hb => by
    rcases hg with hg | hg
    · have e1 : a = 0 := by omega
      have e2 : b = 0 := by omega
      subst e1 e2
      exact Or.inl ⟨(hA 0 0 ha hb).1.z.mpr (fun e => alk.rf _ _ _ _), fun e => alk.rf _ _ _ _⟩
    · rw [← hg]; exact (hA a b ha hb).1
  have hc := (hFo.cls hLd').1
  by_cases w6 : w = 6
  · rcases h2 with h2 | h2 | h2 | h2 | h2 | h2 | ⟨-, g, h3, h4⟩
    · omega
    · omega
    · omega
    · omega
    · omega
    · omega
    · have := hFo.deep hA' h4
      omega
  · rcases h2 with h2 | h2 | h2 | h2 | h2 | h2 | ⟨h2, -⟩ <;> omega
theorem FoldOK.cn {t : Nat → Nat} {sg N cn lb : Nat} {nw fi pa bi fr : Nat → Nat} (h : FoldOK t sg N nw fi pa bi fr cn lb) : 1 ≤ cn ∧ cn ≤ N + 1 := by
  obtain ⟨⟨d, hR⟩, -⟩ := h
  exact hR.1
