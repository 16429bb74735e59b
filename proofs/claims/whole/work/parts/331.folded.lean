/-! the folded types: one class for those that are alike to every depth -/
def FIN (t : Nat → Nat) (sg N : Nat) (nw fi : Nat → Nat) : Prop := ∀ e i, i ≤ N → alk t sg e (fi (nw i)) i
theorem alk_stable {t : Nat → Nat} {sg N d : Nat} (hh : hiAll t N ≤ N) (h : ∀ i j, i ≤ N → j ≤ N → alk t sg d i j → alk t sg (d + 1) i j) : ∀ e i j, i ≤ N → j ≤ N → alk t sg d i j → alk t sg (d + e) i j
  | 0, i, j, _, _, ha => ha
  | e + 1, i, j, hi, hj, ha => by
    rcases h i j hi hj ha with g | ⟨g1, g2, g3, g4⟩
    · exact Or.inl g
    · refine Or.inr ⟨g1, g2, g3, fun k hk => ?_⟩
      exact alk_stable hh h e _ _ (rfT_le hh (by omega) hi hk) (rfT_le hh (by omega) hj (by rw [← g3.nr]; exact hk)) (g4 k hk)
theorem RD.fin {t : Nat → Nat} {sg N d cn lb cn' lb' : Nat} {nw fi pa bi nw' fi' pa' bi' : Nat → Nat} (hh : hiAll t N ≤ N) (h : RD t sg N d nw fi pa bi cn lb) (h' : RD t sg N (d + 1) nw' fi' pa' bi' cn' lb') (hs : ∀ j, j ≤ N → nw' j = nw j) : FIN t sg N nw' fi' := by
  have key : ∀ i j, i ≤ N → j ≤ N → alk t sg d i j → alk t sg (d + 1) i j := fun i j hi hj ha =>
    (h'.part hi hj).mp (by rw [hs i hi, hs j hj]; exact (h.part hi hj).mpr ha)
  intro e i hi
  obtain ⟨a1, a2, a3⟩ := h'.2.1 i hi
  exact (alk_stable hh key e _ _ (by omega) hi a3.dn).le (by omega)
def ldr (nw fi : Nat → Nat) (j : Nat) : Bool := decide (fi (nw j) = j)
def FrOK (N : Nat) (nw fi fr : Nat → Nat) : Prop := fr 0 = 0 ∧ ∀ i, 1 ≤ i → i ≤ N → fi (nw i) = i → fr i = cntP (ldr nw fi) i
def FoldOK (t : Nat → Nat) (sg N : Nat) (nw fi pa bi fr : Nat → Nat) (cn lb : Nat) : Prop := (∃ d, RD t sg N d nw fi pa bi cn lb) ∧ FIN t sg N nw fi ∧ FrOK N nw fi fr
/-- two types are not alike to depth r, and to no less; 0: they are one -/
def Apart (t : Nat → Nat) (sg r i j : Nat) : Prop := (r = 0 ∧ ∀ e, alk t sg e i j) ∨ (1 ≤ r ∧ ¬ alk t sg r i j ∧ alk t sg (r - 1) i j)
def DA (t : Nat → Nat) (sg : Nat) (fi bi : Nat → Nat) (i j a b r : Nat) : Prop := (r = 0 ∧ (∀ e, alk t sg e i (fi a)) ∧ ∀ e, alk t sg e j (fi b)) ∨ (1 ≤ r ∧ ¬ alk t sg r i j ∧ (∀ e, e < r → alk t sg e i (fi a)) ∧ (∀ e, e < r → alk t sg e j (fi b)) ∧ bi a ≤ r ∧ bi b ≤ r)
theorem DA.sy {t : Nat → Nat} {sg i j a b r : Nat} {fi bi : Nat → Nat} (h : DA t sg fi bi i j a b r) : DA t sg fi bi j i b a r := by
  rcases h with ⟨h1, h2, h3⟩ | ⟨h1, h2, h3, h4, h5, h6⟩
  · exact Or.inl ⟨h1, h3, h2⟩
  · exact Or.inr ⟨h1, fun z => h2 z.sy, h4, h3, h6, h5⟩
theorem RD.up {t : Nat → Nat} {sg N d cn lb i j a b r : Nat} {nw fi pa bi : Nat → Nat} (h : RD t sg N d nw fi pa bi cn lb) (hD : DA t sg fi bi i j a b r) (ha : a < cn) (hb : b < cn) (hne : a ≠ b) (hle : bi b ≤ bi a) : pa a < a ∧ pa a < cn ∧ DA t sg fi bi i j (pa a) b (bi a) := by
  obtain ⟨-, -, -, h3, h4, -, h6, -⟩ := h
  have ha0 : 0 < a := by
    rcases Nat.eq_zero_or_pos a with z | z
    · subst z
      have := (h4 b (by omega) hb).2.1
      rw [h6] at hle
      omega
    · exact z
  obtain ⟨p1, p2, p3⟩ := h4 a ha0 ha
  have hx := h3 a b ha hb hne
  rw [Nat.max_eq_left hle] at hx
  refine ⟨p1, by omega, Or.inr ?_⟩
  rcases hD with ⟨d1, d2, d3⟩ | ⟨d1, d2, d3, d4, d5, d6⟩
  · exact ⟨by omega, fun z => hx (((d2 _).sy.tr z).tr (d3 _)), fun e he => (d2 e).tr (p3.le (by omega)), fun e _ => d3 e, by omega, hle⟩
  · refine ⟨by omega, fun z => ?_, fun e he => (d3 e (by omega)).tr (p3.le (by omega)), fun e he => d4 e (by omega), by omega, hle⟩
    by_cases y : bi a = r
    · rw [y] at z; exact d2 z
    · exact hx (((d3 _ (by omega)).sy.tr z).tr (d4 _ (by omega)))
theorem DA.done {t : Nat → Nat} {sg i j a r : Nat} {fi bi : Nat → Nat} (h : DA t sg fi bi i j a a r) : Apart t sg r i j := by
  rcases h with ⟨h1, h2, h3⟩ | ⟨h1, h2, h3, h4, -⟩
  · exact Or.inl ⟨h1, fun e => (h2 e).tr (h3 e).sy⟩
  · exact Or.inr ⟨h1, h2, (h3 _ (by omega)).tr (h4 _ (by omega)).sy⟩
theorem RD_0 (t : Nat → Nat) (sg : Nat) {N : Nat} {nw fi pa bi : Nat → Nat} (h1 : ∀ j, j ≤ N → nw j = 0) (h2 : fi 0 = 0) (h3 : bi 0 = 0) : RD t sg N 0 nw fi pa bi 1 0 :=
  ⟨⟨by omega, by omega⟩, fun i hi => by rw [h1 i hi, h2]; exact ⟨by omega, by omega, trivial⟩, fun c hc => by rw [show c = 0 by omega, h2]; exact ⟨by omega, h1 0 (by omega)⟩, fun c e y1 y2 y3 => absurd y3 (by omega), fun c y1 y2 => absurd y2 (by omega), fun c hc => by rw [show c = 0 by omega, h3]; exact ⟨by omega, by omega⟩, h3, Or.inl ⟨rfl, rfl⟩, h2⟩
section GMathI
variable {l : Launch} {E : gEnv} {D : va_G} {T : Nat → ClassId} {y : MethodName} {cc : ByteArray} {nL : Nat} {ret : Option FieldType} {lev mc ms : Nat} {win : va_W} {post : Option Value → va_W → Prop}
variable {n k : Nat} {ws : va_W} {lv : List (Nat × Value)} {pc pc' : Nat} {st : List Value}
theorem g_maxIR (hE : gOK E D T y cc nL ret lev mc ms win post) {index : Nat} {x z w : Int32} (hw : (if x < z then z else x) = w) (hlk : Cond.methodLink y.cls index Lib.Math.max.name ∈ gTbl) (hlev : 1 ≤ lev) (hn : n ≤ mc) (hk : k ≤ ms) (hst : (st.map fun v => v.category).sum ≤ 8) (hd : decode cc pc = .ok (.invokestatic index, 3)) (hp : pc + 3 = pc')
    (kk : G l E D nL n k ws lv pc' (.int w :: st)) : G l E D nL n k ws lv pc (.int z :: .int x :: st) := by
  subst hp
  subst hw
  intro H locs ls hP hD hS hl
  have hR := hE.2.2.2.2.2.2.1
  exact va_mmax hE.x hE.b (by rw [hE.1.2.2.1, hl.1]) hE.own (hE.ts _ hlk) (hE.ts _ kM_maxIs) (hE.ts _ kM_ini) (hE.ts _ kM_maxIc) (by rw [hR]; exact hlev) (by rw [hR]; show _ + 13 ≤ 34 * lev + 16; omega) (by rw [hR]; exact hn) (by rw [hR]; exact hk) hd (kk H locs ls hP hD hS hl)
end GMathI
