/-! the words of a type that comes anew, as the reference finds them -/
theorem DL.w1 {B dr a w : Nat} {d : Nat → Nat} {P : List Nat} {g : Nat → Nat} (h : DL B d dr (P ++ ptW g w ++ leB a 4)) (ha : a = g w) : DL B d dr (P ++ ptW g (w + 1)) := by
  rw [ha, List.append_assoc] at h; exact h
theorem DL.w3 {B dr a b c r : Nat} {d : Nat → Nat} {P : List Nat} {g : Nat → Nat} (h : DL B d dr (P ++ leB a 4 ++ leB b 2 ++ leB 0 1 ++ leB c 1 ++ leB r 4)) (ha : a = g 0) (hb : leB (g 1) 4 = leB b 2 ++ leB 0 1 ++ leB c 1) (hr : r = g 2) : DL B d dr (P ++ ptW g 3) := by
  rw [ha, hr] at h
  have e : P ++ ptW g 3 = P ++ leB (g 0) 4 ++ leB b 2 ++ leB 0 1 ++ leB c 1 ++ leB (g 2) 4 := by
    show P ++ ([] ++ leB (g 0) 4 ++ leB (g 1) 4 ++ leB (g 2) 4) = _
    rw [hb]
    simp only [List.append_assoc, List.nil_append]
  rw [e]; exact h
section
variable {t : Nat → Nat} {nw fi fr te fp : Nat → Nat} {nc m w : Nat}
theorem wv_1 {s : Nat} (h : rl (kd (inft t (m + 1))) w = 1) (hs : (nmP t m w).length = s) : wvT t nw fi fr te fp nc m w = hv nc (te s) (fp (te s)) := by
  unfold wvT; rw [if_pos h, hs]
theorem wv_2 (h : rl (kd (inft t (m + 1))) w = 2) : wvT t nw fi fr te fp nc m w = fr (fi (nw (wdT t (m + 1) w))) := by
  unfold wvT; rw [if_neg (by omega), if_pos h]
theorem wv_0 (h : rl (kd (inft t (m + 1))) w = 0) : wvT t nw fi fr te fp nc m w = wdT t (m + 1) w := by
  unfold wvT; rw [if_neg (by omega), if_neg (by omega)]
end
theorem slot_3 (t : Nat → Nat) (m : Nat) : (nmP t m (3 + fxw (kd (inft t (m + 1))))).length = (nmA t m).length + 1 := by
  unfold nmP
  rw [List.length_append, nmW_len3]
  have : cn (kd (inft t (m + 1))) (fxw (kd (inft t (m + 1)))) = 0 := by
    unfold cn fxw
    generalize kd (inft t (m + 1)) = K
    by_cases k1 : K = 1
    · subst k1; rfl
    · by_cases k3 : K = 3
      · subst k3; rfl
      · rw [if_neg k1, if_neg k3]
        by_cases z : K = 4 ∨ K = 5
        · rw [if_pos z]
        · rw [if_neg z]
          by_cases y : K = 6 ∨ K = 13
          · rw [if_pos y]
          · rw [if_neg y]
  omega
theorem slot_p {t : Nat → Nat} {m q : Nat} (hk : partsK (kd (inft t (m + 1)))) : (nmP t m (3 + itw (kd (inft t (m + 1))) * q)).length = (nmA t m).length + 1 + q := by
  unfold nmP
  rw [List.length_append, nmW_len3]
  have : cn (kd (inft t (m + 1))) (itw (kd (inft t (m + 1))) * q) = q := by
    unfold cn itw
    unfold partsK at hk
    generalize kd (inft t (m + 1)) = K at *
    by_cases z : K = 4 ∨ K = 5
    · rw [if_pos z, if_pos z]; omega
    · rw [if_neg z, if_neg z, if_pos (by omega), if_pos (by omega)]; omega
  omega
theorem slot_e (t : Nat → Nat) (m : Nat) : (nmA t (m + 1)).length = (nmA t m).length + 1 + ic (inft t (m + 1)) := by
  rw [nmA_len, nmA_len]
  have : itc t (m + 1) = itc t m + ic (inft t (m + 1)) := rfl
  omega
/-- what a type is folded to, on both sides -/
theorem FoldOK.num {t : Nat → Nat} {sg N cn lb : Nat} {nw fi pa bi fr ld nu : Nat → Nat} (h : FoldOK t sg N nw fi pa bi fr cn lb) (hL : LdOK t sg N ld nu) {x : Nat} (hx : x ≤ N) : (if x = 0 then 0 else nu x) = fr (fi (nw x)) := by
  by_cases z : x = 0
  · subst z
    obtain ⟨⟨d, hR⟩, -, hr0, -⟩ := h
    have g := (hR.2.1 0 (by omega)).2.1
    rw [if_pos rfl, show fi (nw 0) = 0 by omega, hr0]
  · rw [if_neg z]; exact ((h.ld hL (by omega) hx).2).symm
theorem MI.nu {t : Nat → Nat} {sg S N cl : Nat} {fL fN fK fV fF fR fM fO fT fB pN pT pU M ld nu : Nat → Nat} (h : MI t sg S N fL fN fK fV fF fR fM fO fT fB pN pT pU M ld nu cl) {x : Nat} (hx : x ≤ N) : (if x = 0 then 0 else nu x) ≤ 200 := by
  have := h.1.1.1.1
  by_cases z : x = 0
  · rw [if_pos z]; omega
  · rw [if_neg z]; have := (h.2.2.1.le (show 1 ≤ x by omega) hx).2; omega
/-- a type that doesn't lead tells of no new name -/
theorem TO.skip {t : Nat → Nat} {sg S N nc fb m tn ss : Nat} {te pl le fp tq ta ld nu : Nat → Nat} (hN : NOK t sg (nmA t N) te pl le fp nc fb) (hL : LdOK t sg N ld nu) (hm : m < N) (hld : ld (m + 1) ≠ m + 1) (h : TO t sg S te pl le fp nc (nmA t m).length tq ta tn ss) : TO t sg S te pl le fp nc (nmA t (m + 1)).length tq ta tn ss := by
  obtain ⟨hC, h2⟩ := h
  refine ⟨⟨fun s hs => ?_, ?_⟩, h2⟩
  · by_cases z : s < (nmA t m).length
    · exact hC.1 s z
    · obtain ⟨⟨g1, g2⟩, g3, -⟩ := (hL (m + 1) (by omega) (by omega)).1
      obtain ⟨j, hj⟩ : ∃ j, ld (m + 1) = j + 1 := ⟨ld (m + 1) - 1, by omega⟩
      have hlab : lab t sg (m + 1) (j + 1) := by
        rcases g3 1 with ⟨y, -⟩ | ⟨-, -, y, -⟩
        · omega
        · rw [← hj]; exact y
      obtain ⟨q, hq⟩ : ∃ q, s = (nmA t m).length + q := ⟨s - (nmA t m).length, by omega⟩
      have hq2 : q ≤ ic (inft t (m + 1)) := by rw [slot_e] at hs; omega
      -- the word that the slot stands for
      obtain ⟨w, hw, hr, hsl, hsl2⟩ : ∃ w, w < wds (inft t (m + 1)) ∧ rl (kd (inft t (m + 1))) w = 1 ∧ (nmP t m w).length = s ∧ (nmP t j w).length = (nmA t j).length + q := by
        by_cases q0 : q = 0
        · exact ⟨0, Nat.lt_of_lt_of_le (by decide) (wds_ge _), rfl, by rw [nmP_0, hq, q0, Nat.add_zero], by rw [nmP_0, q0, Nat.add_zero]⟩
        · have hk : partsK (kd (inft t (m + 1))) := by
            by_cases y : partsK (kd (inft t (m + 1)))
            · exact y
            · rw [ic_none y] at hq2; omega
          have hk2 : partsK (kd (inft t (j + 1))) := by rw [← hlab.1]; exact hk
          refine ⟨3 + itw (kd (inft t (m + 1))) * (q - 1), ?_, rl_n hk, by have := slot_p (q := q - 1) hk; omega, by have := slot_p (q := q - 1) hk2; rw [← hlab.1] at this; omega⟩
          rw [ic_parts hk] at hq2
          have hi2 : 2 ≤ itw (kd (inft t (m + 1))) := by
            unfold partsK at hk
            unfold itw
            by_cases y : kd (inft t (m + 1)) = 4 ∨ kd (inft t (m + 1)) = 5
            · rw [if_pos y]; decide
            · rw [if_neg y, if_pos (by omega)]; decide
          have := Nat.mul_le_mul_left (itw (kd (inft t (m + 1)))) (show q - 1 + 1 ≤ tl (inft t (m + 1)) by omega)
          rw [Nat.mul_succ] at this
          unfold wds
          omega
      have hr2 : rl (kd (inft t (j + 1))) w = 1 := by rw [← hlab.1]; exact hr
      have hw2 : w < wds (inft t (j + 1)) := by rw [← hlab.1]; exact hw
      obtain ⟨n1, n2⟩ := nm_slot hm hw hr
      obtain ⟨n3, n4⟩ := nm_slot (show j < N by omega) hw2 hr2
      have he : te (nmP t m w).length = te (nmP t j w).length := (hN.eq n1 n3).mpr (by rw [n2, n4]; exact (hlab.2 w hw).1 hr)
      rw [← hsl, he]
      refine hC.1 _ ?_
      have hjm : j + 1 ≤ m := by omega
      have l1 := slot_e t j
      have l2 : (nmA t (j + 1)).length ≤ (nmA t m).length := by rw [nmA_len, nmA_len]; have := itc_mono t hjm; omega
      rw [hsl2]
      have : ic (inft t (j + 1)) = ic (inft t (m + 1)) := by rw [hlab.1]
      omega
  · rcases hC.2 with y | ⟨s', a, b⟩
    · exact Or.inl y
    · have := slot_e t m
      exact Or.inr ⟨s', by omega, b⟩
theorem TO.all {t : Nat → Nat} {sg S N nc fb tn ss : Nat} {te pl le fp tl ta : Nat → Nat} (hN : NOK t sg (nmA t N) te pl le fp nc fb) (h : TO t sg S te pl le fp nc (nmA t N).length tl ta tn ss) : tn = nc ∧ ss = fb := by
  obtain ⟨hC, h1, -, h3⟩ := h
  have e : tn = nc := by
    rcases Nat.eq_zero_or_pos nc with z | z
    · omega
    · obtain ⟨s, d1, -, d3, -⟩ := hN.2.2.2.1 nc (by omega) (Nat.le_refl _)
      have := hC.1 s d1
      omega
  exact ⟨e, by rw [h3, e, hN.1.len]⟩
/-- the leaders' types, one behind the other -/
def TLs (t : Nat → Nat) (ld : Nat → Nat) (g : Nat → Nat → Nat) : Nat → List Nat
  | 0 => []
  | m + 1 => TLs t ld g m ++ (if ldB ld (m + 1) = true then ptW (g m) (wds (inft t (m + 1))) else [])
theorem TLs_len (t : Nat → Nat) (ld : Nat → Nat) (g : Nat → Nat → Nat) : ∀ m, (TLs t ld g m).length = fsum t (ldB ld) m
  | 0 => rfl
  | m + 1 => by
    simp only [TLs, fsum]
    rw [List.length_append, TLs_len t ld g m]
    by_cases z : ldB ld (m + 1) = true
    · rw [if_pos z, if_pos z, ptW_len]
    · rw [if_neg z, if_neg z]; rfl
theorem TO.init {t : Nat → Nat} {sg S nc : Nat} {te pl le fp tl ta : Nat → Nat} : TO t sg S te pl le fp nc (nmA t 0).length tl ta 0 1 :=
  ⟨⟨fun s hs => absurd hs (by show ¬ s < 0; omega), Or.inl rfl⟩, Nat.zero_le _, fun k hk => absurd hk (by omega), rfl⟩
