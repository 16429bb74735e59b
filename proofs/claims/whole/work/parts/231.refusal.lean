/-! Math.max, and what Refusal asks, in numbers -/
section GMath
variable {l : Launch} {E : gEnv} {D : va_G} {T : Nat → ClassId} {y : MethodName} {cc : ByteArray} {nL : Nat} {ret : Option FieldType} {lev mc ms : Nat} {win : va_W} {post : Option Value → va_W → Prop}
variable {n k : Nat} {ws : va_W} {lv : List (Nat × Value)} {pc pc' : Nat} {st : List Value}
theorem kM_ini : Cond.initialized "java/lang/Math" ∈ gTbl := g_in 61 (by decide +kernel) (by decide +kernel)
theorem kM_maxLs : Cond.static Lib.MathLoose.max_long.x ∈ gTbl := g_in 353 (by decide +kernel) (by decide +kernel)
set_option maxRecDepth 20000 in
theorem kM_maxLc : Cond.code Lib.MathLoose.max_long.x Lib.MathLoose.max_long.code 4 (some .long) ∈ gTbl := g_in 354 rfl rfl
theorem kM_maxIs : Cond.static Lib.Math.max.name ∈ gTbl := g_in 810 (by decide +kernel) (by decide +kernel)
set_option maxRecDepth 20000 in
theorem kM_maxIc : Cond.code Lib.Math.max.name Lib.Math.max.code 2 (some .int) ∈ gTbl := g_in 811 rfl rfl
theorem g_maxL (hE : gOK E D T y cc nL ret lev mc ms win post) {index a b : Nat} (ha : a < 2 ^ 63) (hb : b < 2 ^ 63) (hlk : Cond.methodLink y.cls index Lib.MathLoose.max_long.x ∈ gTbl) (hlev : 1 ≤ lev) (hn : n ≤ mc) (hk : k ≤ ms) (hst : (st.map fun v => v.category).sum ≤ 8) (hd : decode cc pc = .ok (.invokestatic index, 3)) (hp : pc + 3 = pc')
    (kk : G l E D nL n k ws lv pc' (.long (lN (max a b)) :: st)) : G l E D nL n k ws lv pc (.long (lN b) :: .long (lN a) :: st) := by
  subst hp
  intro H locs ls hP hD hS hl
  have hR := hE.2.2.2.2.2.2.1
  refine va_mmax_long hE.x hE.b (by rw [hE.1.2.2.1, hl.1]) hE.own (hE.ts _ hlk) (hE.ts _ kM_maxLs) (hE.ts _ kM_ini) (hE.ts _ kM_maxLc) (by rw [hR]; exact hlev) (by rw [hR]; show _ + 15 ≤ 34 * lev + 16; omega) (by rw [hR]; exact hn) (by rw [hR]; exact hk) hd ?_
  rw [show (if lN b < lN a then lN a else lN b) = lN (max a b) by
    by_cases h : b < a
    · rw [if_pos ((pk_lLT hb ha).mpr h), Nat.max_eq_left (by omega)]
    · rw [if_neg (fun z => h ((pk_lLT hb ha).mp z)), Nat.max_eq_right (by omega)]]
  exact kk H locs ls hP hD hS hl
end GMath
def smallZ (r : Nat) : Bool := decide (r = 1 ∨ r = 2 ∨ r = 4 ∨ r = 8)
def intOK (w r : Nat) : Bool := decide (w &&& 4026597120 = 0 ∧ 1 ≤ w % 256 ∧ w % 256 + w / 2 ^ 16 % 256 ≤ 8 * r)
def restOK (k r w : Nat) : Bool := if k = 1 then (smallZ r || decide (r = 16)) && intOK w r else if k = 6 then smallZ r else if k = 3 ∨ k = 7 then decide (r = 0) else true
def infoOK (i : Nat) : Bool := decide (1 ≤ kd i ∧ kd i ≤ 13 ∧ i &&& 1627324416 = 0 ∧ (itw (kd i) = 0 → tl i ≤ if kd i = 12 then 2 else 0) ∧ (fl i = 0 ∨ 4 ≤ kd i ∧ kd i ≤ 7))
def namesIn (t : Nat → Nat) (a sg cnt : Nat) : Bool := decide (∀ w, w < wds (num t (a + 4) 4) → rl (kd (num t (a + 4) 4)) w = 1 → sg + num t (a + 4 * w) 4 < cnt)
def ownOK (k : Nat) (t : Nat → Nat) (a sg : Nat) : Bool := if k = 4 ∨ k = 5 ∨ k = 6 then true else if k = 1 ∨ k = 7 ∨ k = 8 ∨ k = 12 then decide (t (sg + num t a 4) ≠ 0) else decide (t (sg + num t a 4) = 0)
/-- the greatest type that the first w words of a type tell of -/
def hiW (t : Nat → Nat) (a k : Nat) : Nat → Nat
  | 0 => 0
  | w + 1 => if rl k w = 2 then max (hiW t a k w) (num t (a + 4 * w) 4) else hiW t a k w
def hiRef (t : Nat → Nat) (a : Nat) : Nat := hiW t a (kd (num t (a + 4) 4)) (wds (num t (a + 4) 4))
theorem hiW_lt {t : Nat → Nat} (ht : ∀ i, t i < 256) (a k : Nat) : ∀ w, hiW t a k w < 2 ^ 32
  | 0 => by simp [hiW]
  | w + 1 => by
    have h1 := hiW_lt ht a k w
    have h2 := num4_lt ht (a + 4 * w)
    simp only [hiW]
    split
    · exact Nat.max_lt.mpr ⟨h1, h2⟩
    · exact h1
def ic (i : Nat) : Nat := if itw (kd i) = 0 then 0 else tl i
theorem ic_lt (i : Nat) : ic i < 65536 := by unfold ic; split; decide; exact tl_lt i
/-- the error at a type, 0 without one -/
def teE (t : Nat → Nat) (a sg cnt sd its : Nat) : Nat :=
  if sg < a + 4 * wds (num t (a + 4) 4) then 3
  else if 200 < sd ∨ 600 < its + ic (num t (a + 4) 4) ∨ infoOK (num t (a + 4) 4) = false ∨ restOK (kd (num t (a + 4) 4)) (num t (a + 8) 4) (num t (a + 12) 4) = false then 4
  else if namesIn t a sg cnt = true ∧ ownOK (kd (num t (a + 4) 4)) t a sg = true then 0 else 5
def headE (t : Nat → Nat) (cnt : Nat) : Nat :=
  if cnt < 24 ∨ num t 0 2 ≠ 60319 ∨ t 2 ≠ 1 ∨ t 3 ≠ 0 ∨ num t 4 4 ≠ 24 ∨ num t 8 4 ≠ 0 then 1
  else if num t 16 4 ≠ num t 12 4 ∨ cnt ≠ 24 + num t 12 4 + num t 20 4 ∨ num t 20 4 = 0 then 2
  else if t (24 + num t 12 4) ≠ 0 ∨ t (cnt - 1) ≠ 0 then 2 else 0
/-- members, values and parameters of the first m types -/
def itc (t : Nat → Nat) : Nat → Nat
  | 0 => 0
  | m + 1 => itc t m + ic (inft t (m + 1))
def hiAll (t : Nat → Nat) : Nat → Nat
  | 0 => 0
  | m + 1 => max (hiAll t m) (hiRef t (off t (m + 1)))
theorem hiAll_lt {t : Nat → Nat} (ht : ∀ i, t i < 256) : ∀ m, hiAll t m < 2 ^ 32
  | 0 => by simp [hiAll]
  | m + 1 => Nat.max_lt.mpr ⟨hiAll_lt ht m, hiW_lt ht _ _ _⟩
/-- the first m types are without an error -/
def okUpTo (t : Nat → Nat) (sg cnt m : Nat) : Prop := m ≤ 200 ∧ off t (m + 1) ≤ sg ∧ itc t m ≤ 600 ∧ ∀ j, j < m → off t (j + 1) < sg ∧ teE t (off t (j + 1)) sg cnt (j + 1) (itc t j) = 0
def Scan (t : Nat → Nat) (sg cnt e sd : Nat) : Prop :=
  (∃ m, okUpTo t sg cnt m ∧ off t (m + 1) < sg ∧ e = teE t (off t (m + 1)) sg cnt (m + 1) (itc t m) ∧ e ≠ 0 ∧ sd = m + 1) ∨
  (∃ m, okUpTo t sg cnt m ∧ off t (m + 1) = sg ∧ sd = 0 ∧ e = if m < hiAll t m then 6 else 0)
def Judge (t : Nat → Nat) (cnt e sd : Nat) : Prop := (headE t cnt ≠ 0 ∧ e = headE t cnt ∧ sd = 0) ∨ (headE t cnt = 0 ∧ Scan t (24 + num t 12 4) cnt e sd)
theorem teE_0 {t : Nat → Nat} {a sg cnt sd its : Nat} (h : teE t a sg cnt sd its = 0) : a + 4 * wds (num t (a + 4) 4) ≤ sg ∧ sd ≤ 200 ∧ its + ic (num t (a + 4) 4) ≤ 600 ∧ infoOK (num t (a + 4) 4) = true ∧ restOK (kd (num t (a + 4) 4)) (num t (a + 8) 4) (num t (a + 12) 4) = true ∧ namesIn t a sg cnt = true ∧ ownOK (kd (num t (a + 4) 4)) t a sg = true := by
  unfold teE at h
  split at h
  · omega
  · split at h
    · omega
    · split at h
      next h1 h2 h3 =>
        refine ⟨by omega, by omega, by omega, ?_, ?_, h3.1, h3.2⟩
        · exact eq_true_of_ne_false fun z => h2 (by simp [z])
        · exact eq_true_of_ne_false fun z => h2 (by simp [z])
      · omega
theorem okUpTo.step {t : Nat → Nat} {sg cnt m : Nat} (h : okUpTo t sg cnt m) (ho : off t (m + 1) < sg) (he : teE t (off t (m + 1)) sg cnt (m + 1) (itc t m) = 0) : okUpTo t sg cnt (m + 1) := by
  obtain ⟨h1, h2, h3, -⟩ := teE_0 he
  refine ⟨h2, h1, h3, fun j hj => ?_⟩
  by_cases e : j = m
  · subst e; exact ⟨ho, he⟩
  · exact h.2.2.2 j (by omega)
theorem zt {b : Bool} (h : b = true) : some (Value.int (nI 1)) = some (Value.int (bI b)) := by subst h; rfl
theorem zf {b : Bool} (h : b = false) : some (Value.int (nI 0)) = some (Value.int (bI b)) := by subst h; rfl
theorem bI_nar (b : Bool) : narrow .boolean (.int (bI b)) = .int (bI b) := by cases b <;> rfl
