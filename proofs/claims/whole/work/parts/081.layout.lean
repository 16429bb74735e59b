/-! how a type lies in its words: kind, how many, flag; words; what a word tells (0 plain, 1 a name, 2 a type) -/
def kd (i : Nat) : Nat := i / 2 ^ 24 % 32
def tl (i : Nat) : Nat := i % 65536
def fl (i : Nat) : Nat := i / 2 ^ 31 % 2
def fxw (k : Nat) : Nat := if k = 1 then 1 else if k = 3 then 3 else 0
def itw (k : Nat) : Nat := if k = 4 ∨ k = 5 then 3 else if k = 6 ∨ k = 13 then 2 else 0
def wds (i : Nat) : Nat := 3 + fxw (kd i) + itw (kd i) * tl i
def rlb (k w : Nat) : Nat := if k = 3 then (if w < 2 then 2 else 0) else if k = 4 ∨ k = 5 then (if w % 3 = 0 then 1 else if w % 3 = 1 then 2 else 0) else if k = 6 then (if w % 2 = 0 then 1 else 0) else if k = 13 then (if w % 2 = 0 then 1 else 2) else 0
def rl (k w : Nat) : Nat := if w = 0 then 1 else if w = 1 then 0 else if w = 2 then (if k = 2 ∨ 8 ≤ k then 2 else 0) else rlb k (w - 3)
theorem kd_lt (i : Nat) : kd i < 32 := Nat.mod_lt _ (by decide)
theorem tl_lt (i : Nat) : tl i < 65536 := Nat.mod_lt _ (by decide)
theorem fl_lt (i : Nat) : fl i < 2 := Nat.mod_lt _ (by decide)
theorem fxw_le (k : Nat) : fxw k ≤ 3 := by unfold fxw; split <;> (try split) <;> omega
theorem itw_le (k : Nat) : itw k ≤ 3 := by unfold itw; split <;> (try split) <;> omega
theorem wds_ge (i : Nat) : 3 ≤ wds i := by unfold wds; omega
theorem wds_le (i : Nat) : wds i ≤ 196611 := by
  unfold wds
  have h1 := fxw_le (kd i)
  have h2 := itw_le (kd i)
  have h3 := tl_lt i
  have h4 : itw (kd i) * tl i ≤ 3 * 65535 := Nat.mul_le_mul h2 (by omega)
  omega
theorem rlb_le (k w : Nat) : rlb k w ≤ 2 := by unfold rlb; repeat (first | omega | split)
theorem rl_le (k w : Nat) : rl k w ≤ 2 := by
  unfold rl
  split
  · omega
  · split
    · omega
    · split
      · split <;> omega
      · exact rlb_le _ _
/-- a long that isn't negative, moved to the right -/
theorem lN_shr {a : Nat} (ha : a < 2 ^ 63) {s : Nat} (hs : s < 64) : lN a >>> ((nI s).toInt64 &&& 63) = lN (a / 2 ^ s) := by
  rw [wb_c s hs]
  apply wb_inj
  rw [Int64.toBitVec_shiftRight, wb_tb, wb_tb, wb_tb, wb_sm s hs]
  apply BitVec.eq_of_toNat_eq
  have hmsb : (BitVec.ofNat 64 a).msb = false := by
    rw [BitVec.msb_eq_decide]
    simp only [BitVec.toNat_ofNat, decide_eq_false_iff_not]
    rw [Nat.mod_eq_of_lt (by omega)]
    omega
  rw [BitVec.sshiftRight_eq', BitVec.sshiftRight_eq_of_msb_false hmsb]
  rw [BitVec.toNat_ushiftRight, BitVec.toNat_ofNat, BitVec.toNat_ofNat, BitVec.toNat_ofNat, Nat.mod_eq_of_lt (by omega : s < 2 ^ 64), Nat.mod_eq_of_lt (by omega : a < 2 ^ 64), Nat.shiftRight_eq_div_pow]
  rw [Nat.mod_eq_of_lt (Nat.lt_of_le_of_lt (Nat.div_le_self _ _) (by omega))]
