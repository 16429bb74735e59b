theorem wvT_lt {t : Nat → Nat} (ht : ∀ i, t i < 256) {N sg ns nc fb m w : Nat} {sl te pl le fp nw wa fi pa bi fr : Nat → Nat} {sb : Nat → Option Nat} (hNm : NamesOK t N sg sl te pl le fp ns nc fb) (hFB : FB nw wa fi sb pa bi fr) : wvT t nw fi fr te fp nc m w < 2 ^ 64 := by
  unfold wvT
  split
  · exact Nat.lt_trans (Nat.lt_of_le_of_lt (hv_le _ _ _) (hNm.2.1.1.1.1 _).2.2) (by decide)
  · split
    · exact Nat.lt_of_le_of_lt (hFB.1 _).2.2.2.2.2 (by decide)
    · exact Nat.lt_trans (num4_lt ht _) (by decide)
