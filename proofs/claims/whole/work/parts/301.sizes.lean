/-! how many bytes a type has -/
def oL (o : Option Nat) : Int64 := match o with
  | none => -1
  | some n => lN n
def kdT (t : Nat → Nat) (N i : Nat) : Nat := hv N i (kd (inft t i))
def wdT (t : Nat → Nat) (i w : Nat) : Nat := num t (off t i + 4 * w) 4
def leans (k : Nat) : Bool := decide (k = 3 ∨ 8 ≤ k ∧ k ≤ 11)
def nxT (t : Nat → Nat) (N i : Nat) : Nat := hv N i (wdT t i (if kdT t N i = 3 then 3 else 2))
def pth (t : Nat → Nat) (N i : Nat) : Nat → Nat
  | 0 => i
  | s + 1 => nxT t N (pth t N i s)
def ownZ (t : Nat → Nat) (N i : Nat) : Option Nat := if kdT t N i = 1 ∨ kdT t N i = 4 ∨ kdT t N i = 5 ∨ kdT t N i = 6 then some (wdT t i 2) else if kdT t N i = 2 then some 8 else none
def tmZ (s n : Nat) : Option Nat := if s * n ≤ 1000000000000 then some (s * n) else none
def stZ (t : Nat → Nat) (N p : Nat) (o : Option Nat) : Option Nat := match o with
  | none => none
  | some s => if kdT t N p = 3 then tmZ s (wdT t p 5) else some s
/-- along the way back, the last step first -/
def fdZ (t : Nat → Nat) (N i : Nat) : Nat → Option Nat → Option Nat
  | 0, o => o
  | k + 1, o => fdZ t N i k (stZ t N (pth t N i k) o)
theorem fdZ_none (t : Nat → Nat) (N i : Nat) : ∀ k, fdZ t N i k none = none
  | 0 => rfl
  | k + 1 => fdZ_none t N i k
theorem kdT_lt (t : Nat → Nat) (N i : Nat) : kdT t N i < 32 := Nat.lt_of_le_of_lt (hv_le _ _ _) (kd_lt _)
theorem kdT_in {t : Nat → Nat} {N i : Nat} (h : kdT t N i ≠ 0) : 1 ≤ i ∧ i ≤ N := by
  unfold kdT hv at h
  split at h
  next z => exact z
  next => omega
theorem hiW_ge {t : Nat → Nat} {a k : Nat} : ∀ (n w : Nat), w < n → rl k w = 2 → num t (a + 4 * w) 4 ≤ hiW t a k n
  | 0, w, h, _ => absurd h (by omega)
  | n + 1, w, h, hr => by
    simp only [hiW]
    by_cases e : w = n
    · subst e; rw [if_pos hr]; exact Nat.le_max_right _ _
    · have := hiW_ge (t := t) (a := a) n w (by omega) hr
      split
      · exact Nat.le_trans this (Nat.le_max_left _ _)
      · exact this
theorem hiAll_ge {t : Nat → Nat} : ∀ (N m : Nat), m < N → hiRef t (off t (m + 1)) ≤ hiAll t N
  | 0, m, h => absurd h (by omega)
  | N + 1, m, h => by
    by_cases e : m = N
    · subst e; exact Nat.le_max_right _ _
    · exact Nat.le_trans (hiAll_ge N m (by omega)) (Nat.le_max_left _ _)
/-- what a word tells of, where it tells of a type, is one -/
theorem wdT_le {t : Nat → Nat} {N i w : Nat} (hh : hiAll t N ≤ N) (h1 : 1 ≤ i) (h2 : i ≤ N) (hw : w < wds (inft t i)) (hr : rl (kd (inft t i)) w = 2) : wdT t i w ≤ N := by
  obtain ⟨m, rfl⟩ : ∃ m, i = m + 1 := ⟨i - 1, by omega⟩
  exact Nat.le_trans (hiW_ge _ w hw hr) (Nat.le_trans (hiAll_ge N m (by omega)) hh)
theorem nxT_le {t : Nat → Nat} {N i : Nat} (hh : hiAll t N ≤ N) (hl : leans (kdT t N i) = true) : nxT t N i ≤ N := by
  have hl := of_decide_eq_true hl
  obtain ⟨h1, h2⟩ := kdT_in (t := t) (N := N) (i := i) (by omega)
  have hk : kdT t N i = kd (inft t i) := hv_in _ h1 h2
  unfold nxT
  rw [hv_in _ h1 h2]
  rw [hk] at hl ⊢
  by_cases e : kd (inft t i) = 3
  · rw [if_pos e]
    refine wdT_le hh h1 h2 ?_ (by rw [e]; rfl)
    unfold wds
    rw [e]
    simp [fxw]
    omega
  · rw [if_neg e]
    refine wdT_le hh h1 h2 (Nat.lt_of_lt_of_le (by decide) (wds_ge _)) ?_
    unfold rl
    rw [if_neg (by omega), if_neg (by omega), if_pos rfl, if_pos (by omega)]
theorem dn_neg {k : Nat} (hk : k < 2 ^ 30) : nI k - nI 1 < 0 ↔ k = 0 := by
  constructor
  · intro h
    by_cases e : k = 0
    · exact e
    · rw [pk_sub (by omega)] at h
      exact absurd h (nI_pos (by omega))
  · intro h
    subst h
    decide
theorem dn_dec (k : Nat) : nI k + Int32.ofInt (-1) = nI k - nI 1 := by
  rw [Int32.sub_eq_add_neg]
  rfl
theorem oL_neg {o : Option Nat} (h : ∀ s, o = some s → s < 2 ^ 63) : lg_cmp (oL o) (lN 0) < 0 ↔ o = none := by
  cases o with
  | none => exact ⟨fun _ => rfl, fun _ => by decide⟩
  | some s =>
    have h1 := lc_lt (h s rfl) (show 0 < 2 ^ 63 by decide)
    exact ⟨fun z => absurd (h1.mp z) (by omega), fun z => by cases z⟩
theorem tmZ_big {s n : Nat} (hs : 0 < s) (h : 1000000000000 / s < n) : tmZ s n = none := by
  unfold tmZ
  rw [if_neg (fun z => ?_)]
  have := (Nat.le_div_iff_mul_le hs).mpr (show n * s ≤ 1000000000000 by rw [Nat.mul_comm]; exact z)
  omega
theorem tmZ_ok {s n : Nat} (hs : 0 < s) (h : n ≤ 1000000000000 / s) : tmZ s n = some (s * n) := by
  unfold tmZ
  rw [if_pos]
  have := (Nat.le_div_iff_mul_le hs).mp h
  rw [Nat.mul_comm]
  exact this
theorem fdZ_s {t : Nat → Nat} {N i k : Nat} {o : Option Nat} (hk : 1 ≤ k) : fdZ t N i (k - 1) (stZ t N (pth t N i (k - 1)) o) = fdZ t N i k o := by
  obtain ⟨k', rfl⟩ : ∃ k', k = k' + 1 := ⟨k - 1, by omega⟩
  rfl
theorem TyArr.word {t : Nat → Nat} {N : Nat} {af inf wf : Nat → Nat} (hT : TyArr t N af inf wf) (e w : Nat) : hv N e (num t (af e + 4 * w) 4) = hv N e (wdT t e w) := by
  by_cases z : 1 ≤ e ∧ e ≤ N
  · rw [hv_in _ z.1 z.2, hv_in _ z.1 z.2, (hT.2 _ z.1 z.2).1]; rfl
  · rw [hv_out _ z, hv_out _ z]
theorem TyArr.kind {t : Nat → Nat} {N : Nat} {af inf wf : Nat → Nat} (hT : TyArr t N af inf wf) (e : Nat) : hv N e (kd (inf e)) = kdT t N e := by
  unfold kdT
  by_cases z : 1 ≤ e ∧ e ≤ N
  · rw [hv_in _ z.1 z.2, hv_in _ z.1 z.2, (hT.2 _ z.1 z.2).2.1]
  · rw [hv_out _ z, hv_out _ z]
theorem TyArr.wds {t : Nat → Nat} {N : Nat} {af inf wf : Nat → Nat} (hT : TyArr t N af inf wf) (e : Nat) : hv N e (wf e) = hv N e (wds (inft t e)) := by
  by_cases z : 1 ≤ e ∧ e ≤ N
  · rw [hv_in _ z.1 z.2, hv_in _ z.1 z.2, (hT.2 _ z.1 z.2).2.2]
  · rw [hv_out _ z, hv_out _ z]
