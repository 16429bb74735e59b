theorem nx_and (a b : Nat) : nI a &&& nI b = nI (a &&& b) := by
  apply Int32.toBitVec_inj.mp
  rw [Int32.toBitVec_and]
  show BitVec.ofNat 32 a &&& BitVec.ofNat 32 b = BitVec.ofNat 32 (a &&& b)
  rw [BitVec.ofNat_and]
theorem inB_N {a b c : Nat} (ha : a < 2 ^ 63) (hb : b < 2 ^ 63) (hc : c < 2 ^ 63) : inB (lN a) (lN b) (lN c) = decide (b ≤ a ∧ a ≤ c) := by
  unfold inB
  congr 1
  rw [pk_lLE hb ha, pk_lLE ha hc]
def partsK (k : Nat) : Prop := k = 4 ∨ k = 5 ∨ k = 6 ∨ k = 13
def Told (tp : Nat → Nat) (a nm np : Nat) : Prop :=
  nm ≠ 200 ∧ tp (a + 6) = 0 ∧ tp (a + 7) &&& 96 = 0 ∧ (1 ≤ tp (a + 7) % 32 ∧ tp (a + 7) % 32 ≤ 13) ∧ (num tp (a + 4) 2 = 0 ∨ partsK (tp (a + 7) % 32) ∨ tp (a + 7) % 32 = 12 ∧ num tp (a + 4) 2 ≤ 2) ∧ (tp (a + 7) ≤ 127 ∨ 4 ≤ tp (a + 7) % 32 ∧ tp (a + 7) % 32 ≤ 7) ∧
  ((tp (a + 7) % 32 = 3 ∨ tp (a + 7) % 32 = 7) → num tp (a + 8) 4 = 0) ∧ (tp (a + 7) % 32 = 6 → powB (num tp (a + 8) 4) 8 = true) ∧
  (tp (a + 7) % 32 = 1 → powB (num tp (a + 8) 4) 16 = true ∧ tp (a + 13) = 0 ∧ tp (a + 15) < 16 ∧ 0 < tp (a + 12) ∧ tp (a + 12) + tp (a + 14) ≤ 8 * num tp (a + 8) 4) ∧ (partsK (tp (a + 7) % 32) → np + num tp (a + 4) 2 ≤ 600)
