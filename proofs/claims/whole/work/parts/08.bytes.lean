/-! numbers out of bytes, lowest first; eight bytes to a long -/
def num (b : Nat → Nat) (k : Nat) : Nat → Nat
  | 0 => 0
  | n + 1 => num b k n + b (k + n) * 256 ^ n
theorem num_lt {b : Nat → Nat} (hb : ∀ i, b i < 256) (k n : Nat) : num b k n < 256 ^ n := by
  induction n with
  | zero => simp [num]
  | succ n ih =>
    have h1 := hb (k + n)
    have h2 : b (k + n) * 256 ^ n ≤ 255 * 256 ^ n := Nat.mul_le_mul_right _ (by omega)
    have h3 : 256 ^ (n + 1) = 256 * 256 ^ n := by rw [Nat.pow_succ, Nat.mul_comm]
    simp only [num]
    omega
theorem num_byte {b : Nat → Nat} (hb : ∀ i, b i < 256) (k n i : Nat) (hi : i < n) : num b k n / 256 ^ i % 256 = b (k + i) := by
  induction n with
  | zero => omega
  | succ n ih =>
    simp only [num]
    by_cases h : i < n
    · rw [← ih h]
      have e : 256 ^ n = 256 ^ i * (256 * 256 ^ (n - i - 1)) := by
        rw [← Nat.pow_succ', ← Nat.pow_add]
        congr 1
        omega
      rw [e, show b (k + n) * (256 ^ i * (256 * 256 ^ (n - i - 1))) = 256 ^ i * (256 * (b (k + n) * 256 ^ (n - i - 1))) by
        rw [Nat.mul_left_comm, Nat.mul_left_comm (b (k + n))]]
      rw [Nat.add_mul_div_left _ _ (Nat.pow_pos (by decide)), Nat.add_mul_mod_self_left]
    · have e : i = n := by omega
      subst e
      rw [Nat.add_mul_div_right _ _ (Nat.pow_pos (by decide)), Nat.div_eq_of_lt (num_lt hb k i), Nat.zero_add]
      exact Nat.mod_eq_of_lt (hb _)
theorem num_bit {b : Nat → Nat} (hb : ∀ i, b i < 256) (k n m : Nat) (hm : m < 8 * n) : (num b k n).testBit m = (b (k + m / 8)).testBit (m % 8) := by
  have h1 := num_byte hb k n (m / 8) (by omega)
  rw [← h1, show (256 : Nat) = 2 ^ 8 from rfl, Nat.testBit_mod_two_pow, ← Nat.pow_mul, Nat.testBit_div_two_pow]
  have h2 : m % 8 < 8 := Nat.mod_lt _ (by decide)
  simp only [h2, decide_true, Bool.true_and]
  congr 1
  omega
theorem num_congr {b b' : Nat → Nat} {k n : Nat} (h : ∀ i, i < n → b (k + i) = b' (k + i)) : num b k n = num b' k n := by
  induction n with
  | zero => rfl
  | succ n ih => simp only [num]; rw [ih (fun i hi => h i (by omega)), h n (by omega)]
def pack (b : Nat → Nat) : Nat → Int64 := fun j => lN (num b (8 * j) 8)
theorem wb_tb (n : Nat) : (lN n).toBitVec = BitVec.ofNat 64 n := rfl
theorem wb_inj {a b : Int64} (h : a.toBitVec = b.toBitVec) : a = b := Int64.toBitVec_inj.mp h
theorem wb_tn {n : Nat} (h : n < 2 ^ 64) : (lN n).toBitVec.toNat = n := by rw [wb_tb, BitVec.toNat_ofNat, Nat.mod_eq_of_lt h]
theorem wb_of (x : Int64) : ∃ n, n < 2 ^ 64 ∧ x = lN n := ⟨x.toBitVec.toNat, x.toBitVec.isLt, wb_inj (by rw [wb_tb]; simp)⟩
theorem wb_of32 (x : Int32) : ∃ n, n < 2 ^ 32 ∧ x = nI n := ⟨x.toBitVec.toNat, x.toBitVec.isLt, Int32.toBitVec_inj.mp (by show _ = BitVec.ofNat 32 _; simp)⟩
theorem wb_c : ∀ k, k < 64 → ((nI k).toInt64 &&& 63) = lN k := by decide +kernel
theorem wb_cu : ∀ k, k < 64 → ((nI k).toInt64.toUInt64 &&& Int64.toUInt64 63) = UInt64.ofNat k := by decide +kernel
theorem wb_sm : ∀ k, k < 64 → (BitVec.ofNat 64 k).smod 64 = BitVec.ofNat 64 k := by decide +kernel
theorem wb_pw {a b : Nat} (h : a ≤ b) : 2 ^ b = 2 ^ a * 2 ^ (b - a) := by rw [← Nat.pow_add]; congr 1; omega
theorem wb_lt2 {a b : Nat} (h : a < b) : 2 ^ a < 2 ^ b := Nat.pow_lt_pow_right (by decide) h
theorem wb_mod (n : Nat) : lN n = lN (n % 2 ^ 64) := wb_inj (by rw [wb_tb, wb_tb]; apply BitVec.eq_of_toNat_eq; rw [BitVec.toNat_ofNat, BitVec.toNat_ofNat, Nat.mod_mod])
theorem wb_shr {n k : Nat} (hn : n < 2 ^ 64) (hk : k < 64) : ((lN n).toUInt64 >>> ((nI k).toInt64.toUInt64 &&& Int64.toUInt64 63)).toInt64 = lN (n / 2 ^ k) := by
  rw [wb_cu k hk]
  apply wb_inj
  apply BitVec.eq_of_toNat_eq
  show ((lN n).toUInt64 >>> UInt64.ofNat k).toNat = (BitVec.ofNat 64 _).toNat
  have h1 : (UInt64.ofNat k).toNat = k := by
    show (BitVec.ofNat 64 k).toNat = k
    rw [BitVec.toNat_ofNat, Nat.mod_eq_of_lt (by omega)]
  have h2 : (lN n).toUInt64.toNat = n := wb_tn hn
  rw [UInt64.toNat_shiftRight, h1, h2, Nat.mod_eq_of_lt hk, Nat.shiftRight_eq_div_pow, BitVec.toNat_ofNat, Nat.mod_eq_of_lt (Nat.lt_of_le_of_lt (Nat.div_le_self _ _) hn)]
theorem wb_shl (n : Nat) {k : Nat} (hk : k < 64) : lN n <<< ((nI k).toInt64 &&& 63) = lN (n * 2 ^ k) := by
  rw [wb_c k hk]
  apply wb_inj
  rw [Int64.toBitVec_shiftLeft, wb_tb, wb_tb, wb_tb, wb_sm k hk]
  apply BitVec.eq_of_toNat_eq
  rw [BitVec.shiftLeft_eq', BitVec.toNat_shiftLeft, BitVec.toNat_ofNat, BitVec.toNat_ofNat, BitVec.toNat_ofNat, Nat.mod_eq_of_lt (show k < 2 ^ 64 by omega), Nat.shiftLeft_eq, Nat.mul_mod, Nat.mod_mod, ← Nat.mul_mod]
theorem wb_and {a b : Nat} (ha : a < 2 ^ 64) (hb : b < 2 ^ 64) : lN a &&& lN b = lN (a &&& b) := by
  apply wb_inj
  rw [Int64.toBitVec_and, wb_tb, wb_tb, wb_tb]
  apply BitVec.eq_of_toNat_eq
  rw [BitVec.toNat_and, BitVec.toNat_ofNat, BitVec.toNat_ofNat, BitVec.toNat_ofNat, Nat.mod_eq_of_lt ha, Nat.mod_eq_of_lt hb, Nat.mod_eq_of_lt (Nat.and_lt_two_pow _ hb)]
theorem wb_or {a b : Nat} (ha : a < 2 ^ 64) (hb : b < 2 ^ 64) : lN a ||| lN b = lN (a ||| b) := by
  apply wb_inj
  rw [Int64.toBitVec_or, wb_tb, wb_tb, wb_tb]
  apply BitVec.eq_of_toNat_eq
  rw [BitVec.toNat_or, BitVec.toNat_ofNat, BitVec.toNat_ofNat, BitVec.toNat_ofNat, Nat.mod_eq_of_lt ha, Nat.mod_eq_of_lt hb, Nat.mod_eq_of_lt (Nat.or_lt_two_pow ha hb)]
theorem wb_mask {n k : Nat} (hn : n < 2 ^ 64) (hk : k < 64) : lN n &&& lN (2 ^ k - 1) = lN (n % 2 ^ k) := by
  rw [wb_and hn (by have := wb_lt2 hk; omega), Nat.and_two_pow_sub_one_eq_mod]
theorem wb_shrA (x : Int64) {s : Nat} (h : s ≤ 56) : (x >>> ((nI s).toInt64 &&& 63)) &&& lN 255 = lN (x.toBitVec.toNat / 2 ^ s % 256) := by
  rw [wb_c s (by omega)]
  apply wb_inj
  rw [Int64.toBitVec_and, Int64.toBitVec_shiftRight, wb_tb, wb_tb, wb_tb, wb_sm s (by omega)]
  apply BitVec.eq_of_getLsbD_eq
  intro i hi
  rw [BitVec.getLsbD_and, BitVec.getLsbD_sshiftRight', BitVec.getLsbD_ofNat, BitVec.getLsbD_ofNat]
  rw [show (256 : Nat) = 2 ^ 8 from rfl, Nat.testBit_mod_two_pow, Nat.testBit_div_two_pow, show (255 : Nat) = 2 ^ 8 - 1 from rfl, Nat.testBit_two_pow_sub_one]
  rw [BitVec.toNat_ofNat, Nat.mod_eq_of_lt (by omega : s < 2 ^ 64)]
  by_cases h8 : i < 8
  · have h1 : ¬ 64 ≤ i := by omega
    have h2 : s + i < 64 := by omega
    simp [h8, h1, h2, hi, BitVec.getLsbD, Nat.add_comm]
  · simp [h8]
theorem pack_get {b : Nat → Nat} (hb : ∀ i, b i < 256) (p : Nat) : ((pack b (p / 8)).toUInt64 >>> ((nI (8 * (p % 8))).toInt64.toUInt64 &&& Int64.toUInt64 63)).toInt64 &&& lN 255 = lN (b p) := by
  have h1 := num_lt hb (8 * (p / 8)) 8
  have h8 : p % 8 < 8 := Nat.mod_lt _ (by decide)
  unfold pack
  rw [wb_shr (by omega) (by omega), show (255 : Nat) = 2 ^ 8 - 1 from rfl, wb_mask (Nat.lt_of_le_of_lt (Nat.div_le_self _ _) (by omega)) (by decide)]
  rw [show 2 ^ (8 * (p % 8)) = 256 ^ (p % 8) by rw [Nat.pow_mul]]
  rw [num_byte hb _ _ _ h8]
  congr 2
  omega
theorem num_gu {b : Nat → Nat} (p v j : Nat) (hj : j ≠ p / 8) : num (gu b p v) (8 * j) 8 = num b (8 * j) 8 := by
  apply num_congr
  intro i hi
  exact gu_n b v (by omega)
theorem gu_lt {b : Nat → Nat} {c : Nat} (hb : ∀ i, b i < c) {p v : Nat} (hv : v < c) : ∀ i, gu b p v i < c := by
  intro i
  unfold gu
  split
  · exact hv
  · exact hb i
/-- a byte is put into its word -/
theorem pack_put {b : Nat → Nat} (hb : ∀ i, b i < 256) (p : Nat) {v : Nat} (hv : v < 256) :
    vp_updL (pack b) (p / 8) ((pack b (p / 8) &&& ((lN 255 <<< ((nI (8 * (p % 8))).toInt64 &&& 63)) ^^^ (-1))) ||| (lN v <<< ((nI (8 * (p % 8))).toInt64 &&& 63))) = pack (gu b p v) := by
  have h8 : p % 8 < 8 := Nat.mod_lt _ (by decide)
  funext j
  unfold vp_updL
  split
  next hj =>
    subst hj
    unfold pack
    rw [wb_shl _ (by omega), wb_shl _ (by omega)]
    apply wb_inj
    rw [Int64.toBitVec_or, Int64.toBitVec_and, Int64.toBitVec_xor, wb_tb, wb_tb, wb_tb, wb_tb, show (-1 : Int64).toBitVec = BitVec.allOnes 64 from rfl]
    apply BitVec.eq_of_getLsbD_eq
    intro i hi
    rw [BitVec.getLsbD_or, BitVec.getLsbD_and, BitVec.getLsbD_xor, BitVec.getLsbD_ofNat, BitVec.getLsbD_ofNat, BitVec.getLsbD_ofNat, BitVec.getLsbD_ofNat, BitVec.getLsbD_allOnes]
    rw [num_bit hb _ _ _ (by omega), num_bit (gu_lt hb hv) _ _ _ (by omega), Nat.testBit_mul_two_pow, Nat.testBit_mul_two_pow, show (255 : Nat) = 2 ^ 8 - 1 from rfl, Nat.testBit_two_pow_sub_one]
    by_cases hs : i / 8 = p % 8
    · have e1 : 8 * (p / 8) + i / 8 = p := by omega
      have e2 : 8 * (p % 8) ≤ i := by omega
      have e3 : i - 8 * (p % 8) = i % 8 := by omega
      have e4 : i % 8 < 8 := Nat.mod_lt _ (by decide)
      rw [e1, gu_s, e3]
      simp [hi, e2, e4]
    · have e1 : 8 * (p / 8) + i / 8 ≠ p := by omega
      rw [gu_n b v e1]
      by_cases e2 : 8 * (p % 8) ≤ i
      · have e5 : ¬ i - 8 * (p % 8) < 8 := by omega
        have e6 : v.testBit (i - 8 * (p % 8)) = false := Nat.testBit_lt_two_pow (Nat.lt_of_lt_of_le hv (Nat.le_trans (by decide : 256 ≤ 2 ^ 8) (Nat.pow_le_pow_right (by decide) (by omega))))
        simp [hi, e2, e5, e6]
      · simp [hi, e2]
  next hj =>
    unfold pack
    rw [num_gu p v j hj]
/-- the bytes that lie ahead of the end; 0 behind it -/
def cut (b : Nat → Nat) (c : Nat) : Nat → Nat := fun i => if i < c then b i else 0
theorem cut_lt {b : Nat → Nat} {c : Nat} (hb : ∀ i, b i < 256) : ∀ i, cut b c i < 256 := by
  intro i
  unfold cut
  split
  · exact hb i
  · decide
theorem num_or {b : Nat → Nat} (hb : ∀ i, b i < 256) (k n : Nat) (hn : n < 8) : lN (num b k n) ||| (lN (b (k + n)) <<< ((nI (8 * n)).toInt64 &&& 63)) = lN (num b k (n + 1)) := by
  have h1 := num_lt hb k n
  have h2 := num_lt hb k (n + 1)
  have e : 2 ^ (8 * n) = 256 ^ n := by rw [Nat.pow_mul]
  have h3 : 256 ^ (n + 1) ≤ 256 ^ 8 := Nat.pow_le_pow_right (by decide) (by omega)
  have h4 : (256 : Nat) ^ 8 = 2 ^ 64 := by decide
  have h5 : num b k (n + 1) = b (k + n) * 2 ^ (8 * n) + num b k n := by simp only [num]; rw [e]; omega
  rw [wb_shl _ (by omega), h5]
  rw [wb_or (by omega) (by rw [h5] at h2; omega)]
  congr 1
  rw [Nat.or_comm, Nat.mul_comm (b (k + n)), ← Nat.two_pow_add_eq_or_of_lt (by rw [e]; exact h1)]
theorem num_one (b : Nat → Nat) (k : Nat) : num b k 1 = b k := by simp [num]
/-- bytes that come behind the others -/
def app (b : Nat → Nat) (c : Nat) (f : Nat → Nat) : Nat → Nat → Nat
  | 0 => b
  | n + 1 => gu (app b c f n) (c + n) (f n)
theorem app_at (b : Nat → Nat) (c : Nat) (f : Nat → Nat) (n j : Nat) : app b c f n j = if c ≤ j ∧ j < c + n then f (j - c) else b j := by
  induction n with
  | zero => simp only [app]; rw [if_neg (by omega)]
  | succ n ih =>
    simp only [app]
    by_cases h : j = c + n
    · subst h
      rw [gu_s, if_pos (by omega)]
      congr 1
      omega
    · rw [gu_n _ _ h, ih]
      by_cases h2 : c ≤ j ∧ j < c + n
      · rw [if_pos h2, if_pos (by omega)]
      · rw [if_neg h2, if_neg (by omega)]
theorem app_lt {b : Nat → Nat} {m : Nat} (hb : ∀ i, b i < m) (c : Nat) {f : Nat → Nat} (hf : ∀ i, f i < m) : ∀ n i, app b c f n i < m
  | 0 => hb
  | n + 1 => gu_lt (app_lt hb c hf n) (hf n)
/-- the bytes of a long, lowest first -/
def vb (v : Int64) (i : Nat) : Nat := v.toBitVec.toNat / 2 ^ (8 * i) % 256
theorem vb_lt (v : Int64) (i : Nat) : vb v i < 256 := Nat.mod_lt _ (by decide)
theorem vb_lN {n : Nat} (h : n < 2 ^ 64) (i : Nat) : vb (lN n) i = n / 256 ^ i % 256 := by
  unfold vb
  rw [wb_tn h, Nat.pow_mul]
/-- are so many bytes the same -/
def sameB (b : Nat → Nat) (s : Nat) (b' : Nat → Nat) (s' n : Nat) : Bool := decide (∀ i, i < n → b (s + i) = b' (s' + i))
theorem sameB_t {b b' : Nat → Nat} {s s' n : Nat} (h : ∀ i, i < n → b (s + i) = b' (s' + i)) : sameB b s b' s' n = true := decide_eq_true h
theorem sameB_f {b b' : Nat → Nat} {s s' n i : Nat} (hi : i < n) (h : b (s + i) ≠ b' (s' + i)) : sameB b s b' s' n = false := decide_eq_false fun z => h (z i hi)
