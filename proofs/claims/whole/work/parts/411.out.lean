/-! rows as lists of bytes; the text that is written -/
def RowL (b : Nat → Nat) (c : Nat) (L : List Nat) : Prop := c = L.length ∧ (∀ j, j < c → b j = L.getD j 0) ∧ ∀ i, b i < 256
def leB (v n : Nat) : List Nat := (List.range n).map (fun i => v / 256 ^ i % 256)
theorem leB_len (v n : Nat) : (leB v n).length = n := by simp [leB]
theorem RowL.more {b : Nat → Nat} {c : Nat} {L : List Nat} (h : RowL b c L) {f : Nat → Nat} (hf : ∀ i, f i < 256) (n : Nat) : RowL (app b c f n) (c + n) (L ++ (List.range n).map f) := by
  obtain ⟨h1, h2, h3⟩ := h
  refine ⟨by simp [h1], fun j hj => ?_, app_lt h3 c hf n⟩
  rw [app_at]
  by_cases z : j < c
  · rw [if_neg (by omega), h2 j z]
    simp only [List.getD_eq_getElem?_getD]
    rw [List.getElem?_append_left (by omega)]
  · rw [if_pos (by omega)]
    simp only [List.getD_eq_getElem?_getD]
    rw [List.getElem?_append_right (by omega), ← h1]
    simp [show j - c < n by omega]
theorem RowL.low {b : Nat → Nat} {c : Nat} {L : List Nat} (h : RowL b c L) {v : Nat} (hv : v < 2 ^ 64) (n : Nat) : RowL (app b c (vb (lN v)) n) (c + n) (L ++ leB v n) := by
  have := h.more (vb_lt (lN v)) n
  rw [show (List.range n).map (vb (lN v)) = leB v n by unfold leB; congr 1; funext i; exact vb_lN hv i] at this
  exact this
theorem RowL.nil (b : Nat → Nat) (hb : ∀ i, b i < 256) : RowL b 0 [] := ⟨rfl, fun j hj => absurd hj (by omega), hb⟩
def headL (tb fb : Nat) : List Nat := leB 60319 2 ++ leB 1 1 ++ leB 0 1 ++ leB 24 4 ++ leB 0 4 ++ leB tb 4 ++ leB tb 4 ++ leB fb 4
/-- what a word of a type becomes -/
def wvT (t : Nat → Nat) (nw fi fr te fp : Nat → Nat) (nc m w : Nat) : Nat := if rl (kd (inft t (m + 1))) w = 1 then hv nc (te (nmP t m w).length) (fp (te (nmP t m w).length)) else if rl (kd (inft t (m + 1))) w = 2 then fr (fi (nw (wdT t (m + 1) w))) else wdT t (m + 1) w
def ptW (g : Nat → Nat) : Nat → List Nat
  | 0 => []
  | w + 1 => ptW g w ++ leB (g w) 4
theorem ptW_len (g : Nat → Nat) : ∀ w, (ptW g w).length = 4 * w
  | 0 => rfl
  | w + 1 => by simp only [ptW]; rw [List.length_append, ptW_len g w, leB_len]; omega
/-- the names one behind the other, with a 0 behind each -/
def stL (t : Nat → Nat) (pl le : Nat → Nat) : Nat → List Nat
  | 0 => []
  | d + 1 => stL t pl le d ++ ((List.range (le (d + 1))).map (fun i => t (pl (d + 1) + i)) ++ leB 0 1)
def stLen (le : Nat → Nat) : Nat → Nat
  | 0 => 0
  | d + 1 => stLen le d + (le (d + 1) + 1)
theorem stL_len (t : Nat → Nat) (pl le : Nat → Nat) : ∀ d, (stL t pl le d).length = stLen le d
  | 0 => rfl
  | d + 1 => by simp only [stL, stLen]; rw [List.length_append, List.length_append, stL_len t pl le d, List.length_map, List.length_range, leB_len]
theorem stLen_mono (le : Nat → Nat) {d e : Nat} (h : d ≤ e) : stLen le d ≤ stLen le e := by
  induction e with
  | zero => rw [show d = 0 by omega]; exact Nat.le_refl _
  | succ e ih =>
    by_cases z : d = e + 1
    · subst z; exact Nat.le_refl _
    · simp only [stLen]; have := ih (by omega); omega
theorem DOK.len {t : Nat → Nat} {pl le fr : Nat → Nat} {nc fb : Nat} (h : DOK t pl le fr nc fb) : fb = 1 + stLen le nc := by
  obtain ⟨-, -, -, h3, h4, h5⟩ := h
  have key : ∀ d, d + 1 ≤ nc → fr (d + 1) = 1 + stLen le d := by
    intro d
    induction d with
    | zero => intro hd; rw [(h4 (by omega)).1]; rfl
    | succ d ih => intro hd; rw [h3 (d + 1) (by omega) (by omega), ih (by omega)]; simp only [stLen]; omega
  cases nc with
  | zero => rw [h5 rfl]; rfl
  | succ n => rw [(h4 (by omega)).2, key n (by omega)]; simp only [stLen]; omega
