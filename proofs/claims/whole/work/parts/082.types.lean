/-! the types of a text by their bytes t: where type i lies, its info -/
def off (t : Nat → Nat) : Nat → Nat
  | 0 => 24
  | 1 => 24
  | i + 2 => off t (i + 1) + 4 * wds (num t (off t (i + 1) + 4) 4)
def inft (t : Nat → Nat) (i : Nat) : Nat := num t (off t i + 4) 4
theorem off_s (t : Nat → Nat) (m : Nat) : off t (m + 1 + 1) = off t (m + 1) + 4 * wds (inft t (m + 1)) := rfl
theorem off_ge (t : Nat → Nat) : ∀ i, 24 ≤ off t i
  | 0 => Nat.le_refl _
  | 1 => Nat.le_refl _
  | i + 2 => by rw [off_s]; have := off_ge t (i + 1); omega
theorem num4_lt {t : Nat → Nat} (ht : ∀ i, t i < 256) (k : Nat) : num t k 4 < 2 ^ 32 := num_lt ht k 4
theorem inft_lt {t : Nat → Nat} (ht : ∀ i, t i < 256) (i : Nat) : inft t i < 2 ^ 32 := num4_lt ht _
/-- N types lie one behind the other from byte 24 up to byte sg -/
def TextOK (t : Nat → Nat) (N sg : Nat) : Prop := N ≤ 200 ∧ off t (N + 1) = sg ∧ sg ≤ 8192 ∧ ∀ i, 1 ≤ i → i ≤ N → off t i < sg
def TyB (af inf wf : Nat → Nat) : Prop := ∀ j, af j < 2 ^ 20 ∧ inf j < 2 ^ 32 ∧ wf j < 2 ^ 20
def TyArr (t : Nat → Nat) (N : Nat) (af inf wf : Nat → Nat) : Prop := TyB af inf wf ∧ ∀ i, 1 ≤ i → i ≤ N → af i = off t i ∧ inf i = inft t i ∧ wf i = wds (inft t i)
theorem TyArr.step {t : Nat → Nat} (ht : ∀ i, t i < 256) {m sg : Nat} {af inf wf : Nat → Nat} (h : TyArr t m af inf wf) (ho : off t (m + 1) < sg) (hs : sg ≤ 8192) : TyArr t (m + 1) (gu af (m + 1) (off t (m + 1))) (gu inf (m + 1) (num t (off t (m + 1) + 4) 4)) (gu wf (m + 1) (wds (num t (off t (m + 1) + 4) 4))) := by
  refine ⟨fun j => ?_, fun i h1 h2 => ?_⟩
  · obtain ⟨b1, b2, b3⟩ := h.1 j
    have hi := num4_lt ht (off t (m + 1) + 4)
    have hw := wds_le (num t (off t (m + 1) + 4) 4)
    unfold gu
    split
    · exact ⟨by omega, hi, by omega⟩
    · exact ⟨b1, b2, b3⟩
  · by_cases e : i = m + 1
    · subst e
      rw [gu_s, gu_s, gu_s]
      exact ⟨rfl, rfl, rfl⟩
    · rw [gu_n _ _ e, gu_n _ _ e, gu_n _ _ e]
      exact h.2 i h1 (by omega)
/-- what is told of a type that is there; 0 for others -/
def hv (n i v : Nat) : Nat := if 1 ≤ i ∧ i ≤ n then v else 0
theorem hv_in {n i : Nat} (v : Nat) (h1 : 1 ≤ i) (h2 : i ≤ n) : hv n i v = v := if_pos ⟨h1, h2⟩
theorem hv_0 (n v : Nat) : hv n 0 v = 0 := if_neg (by omega)
theorem hv_out {n i : Nat} (v : Nat) (h : ¬ (1 ≤ i ∧ i ≤ n)) : hv n i v = 0 := if_neg h
theorem hv_le (n i v : Nat) : hv n i v ≤ v := by unfold hv; split <;> omega
def hasB (i n : Nat) : Bool := decide (1 ≤ i ∧ i ≤ n)
def hasR (x : Int32) (n : Nat) : Bool := decide (1 ≤ x.toInt ∧ x.toInt ≤ n)
def hasV (x : Int32) (n : Nat) : Bool := decide (0 ≤ x.toInt ∧ x.toInt ≤ n)
theorem i32_lt {x z : Int32} : x < z ↔ x.toInt < z.toInt := Int32.lt_iff_toInt_lt
theorem i32_le {x z : Int32} : x ≤ z ↔ x.toInt ≤ z.toInt := Int32.le_iff_toInt_le
theorem i32_eq {x z : Int32} : x = z ↔ x.toInt = z.toInt := Int32.toInt_inj.symm
