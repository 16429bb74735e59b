/-! THE LAYER G: new objects and arrays -/
section GMake
variable {l : Launch} {E : gEnv} {D : va_G} {T : Nat → ClassId} {y : MethodName} {cc : ByteArray} {nL : Nat} {ret : Option FieldType} {lev mc ms : Nat} {win : va_W} {post : Option Value → va_W → Prop}
variable {n k : Nat} {ws : va_W} {lv : List (Nat × Value)} {pc pc' : Nat} {st : List Value}
theorem g_newI (hE : gOK E D T y cc nL ret lev mc ms win post) {m : Nat} (hw : Cond.arrayClass .int ∈ gTbl) (hm : m ≤ 100000) (hc : n + 1 ≤ mc) (hk : k + m ≤ ms) (hd : decode cc pc = .ok (.newarray .int, 2)) (hp : pc + 2 = pc')
    (kk : ∀ q : Nat, G l E D nL (n + 1) (k + m) (ws ++ [(q, .inl (T 0, m, .inl (fun _ => nI 0)))]) lv pc' (.ref q :: st)) : G l E D nL n k ws lv pc (.int (nI m) :: st) := by
  subst hp
  intro H locs ls hP hD hS hl
  have hR := hE.2.2.2.2.2.2.1
  refine va_newa (D := D) (atype := .int) (ty := .int) (a0 := (m, .inl (fun _ => nI 0))) hE.x hE.b (hE.ts _ hw) rfl hE.K hP hD hS hE.hA (fun cA => rfl) (nI_pos (by omega)) (nI_clamp (by omega)) (by simp only [componentBytes]; omega) (by rw [hR]; exact hc) (by rw [hR]; exact hk) hd ?_
  intro q cA H1 hK1 hP1 hD1 hS1
  have e : T 0 = cA := Option.some.inj ((hE.K.2 0 (T 0, .int) rfl).2.symm.trans (hK1.2 3 (cA, .int) rfl).2)
  subst e
  exact kk q H1 locs ls hP1 hD1 hS1 hl
theorem g_newJ (hE : gOK E D T y cc nL ret lev mc ms win post) {m : Nat} (hw : Cond.arrayClass .long ∈ gTbl) (hm : m ≤ 100000) (hc : n + 1 ≤ mc) (hk : k + m ≤ ms) (hd : decode cc pc = .ok (.newarray .long, 2)) (hp : pc + 2 = pc')
    (kk : ∀ q : Nat, G l E D nL (n + 1) (k + m) (ws ++ [(q, .inl (T 1, m, .inr (.inl (fun _ => lN 0))))]) lv pc' (.ref q :: st)) : G l E D nL n k ws lv pc (.int (nI m) :: st) := by
  subst hp
  intro H locs ls hP hD hS hl
  have hR := hE.2.2.2.2.2.2.1
  refine va_newa (D := D) (atype := .long) (ty := .long) (a0 := (m, .inr (.inl (fun _ => lN 0)))) hE.x hE.b (hE.ts _ hw) rfl hE.K hP hD hS hE.hA (fun cA => rfl) (nI_pos (by omega)) (nI_clamp (by omega)) (by simp only [componentBytes]; omega) (by rw [hR]; exact hc) (by rw [hR]; exact hk) hd ?_
  intro q cA H1 hK1 hP1 hD1 hS1
  have e : T 1 = cA := Option.some.inj ((hE.K.2 1 (T 1, .long) rfl).2.symm.trans (hK1.2 3 (cA, .long) rfl).2)
  subst e
  exact kk q H1 locs ls hP1 hD1 hS1 hl
theorem g_newZ (hE : gOK E D T y cc nL ret lev mc ms win post) {m : Nat} (hw : Cond.arrayClass .boolean ∈ gTbl) (hm : m ≤ 100000) (hc : n + 1 ≤ mc) (hk : k + m ≤ ms) (hd : decode cc pc = .ok (.newarray .boolean, 2)) (hp : pc + 2 = pc')
    (kk : ∀ q : Nat, G l E D nL (n + 1) (k + m) (ws ++ [(q, .inl (T 2, m, .inl (fun _ => nI 0)))]) lv pc' (.ref q :: st)) : G l E D nL n k ws lv pc (.int (nI m) :: st) := by
  subst hp
  intro H locs ls hP hD hS hl
  have hR := hE.2.2.2.2.2.2.1
  refine va_newa (D := D) (atype := .boolean) (ty := .boolean) (a0 := (m, .inl (fun _ => nI 0))) hE.x hE.b (hE.ts _ hw) rfl hE.K hP hD hS hE.hA (fun cA => rfl) (nI_pos (by omega)) (nI_clamp (by omega)) (by simp only [componentBytes]; omega) (by rw [hR]; exact hc) (by rw [hR]; exact hk) hd ?_
  intro q cA H1 hK1 hP1 hD1 hS1
  have e : T 2 = cA := Option.some.inj ((hE.K.2 2 (T 2, .boolean) rfl).2.symm.trans (hK1.2 3 (cA, .boolean) rfl).2)
  subst e
  exact kk q H1 locs ls hP1 hD1 hS1 hl
theorem g_new (hE : gOK E D T y cc nL ret lev mc ms win post) {ci N index : Nat} {C : String} {U : u_T} {ty : Nat → FieldType} (hcl : gC ci C U N ty) {fs : List Value} (hlk : Cond.classLink y.cls index C ∈ gTbl) (hi : Cond.instantiable C N ∈ gTbl) (hini : Cond.initialized C ∈ gTbl) (hfs : ∀ j, j < N → defaultValue (ty j) = vp_V fs j) (hc : n + 1 ≤ mc) (hk : k + N ≤ ms)
    (hd : decode cc pc = .ok (.new index, 3)) (hp : pc + 3 = pc') (kk : ∀ q : Nat, G l E D nL (n + 1) (k + N) (ws ++ [(q, .inr (ci, fs))]) lv pc' (.ref q :: st)) : G l E D nL n k ws lv pc st := by
  subst hp
  intro H locs ls hP hD hS hl
  have hR := hE.2.2.2.2.2.2.1
  exact va_new (D := D) (C := C) (T := U) (N := N) hE.x hE.b hE.ts hcl.2.1 ty hcl.2.2.1 hE.own (hE.ts _ hlk) (hE.ts _ hi) (hE.ts _ hini) hE.K hP hD hS hE.hA hcl.1 hfs (by rw [hR]; exact hc) (by rw [hR]; exact hk) hd (fun q H1 hP1 hD1 hS1 => kk q H1 locs ls hP1 hD1 hS1 hl)
theorem g_objInit (hE : gOK E D T y cc nL ret lev mc ms win post) {index a : Nat} (hlk : Cond.methodLink y.cls index objectInit ∈ gTbl) (hi : Cond.instanceMethod objectInit ∈ gTbl) (hco : Cond.code objectInit ⟨#[0xb1]⟩ 1 none ∈ gTbl) (hlev : 1 ≤ lev) (hst : (st.map fun v => v.category).sum ≤ 8) (hd : decode cc pc = .ok (.invokespecial index, 3)) (hp : pc + 3 = pc')
    (kk : G l E D nL n k ws lv pc' st) : G l E D nL n k ws lv pc (.ref a :: st) := by
  subst hp
  intro H locs ls hP hD hS hl
  have hR := hE.2.2.2.2.2.2.1
  refine W.objInit hE.x hE.b hE.own (hE.ts _ hlk) (hE.ts _ hi) (hE.ts _ hco) rfl (by rw [hE.1.2.2.1]; exact hl.1) rfl hd ?_ ?_ ?_
  · rw [hR]; exact hlev
  · rw [hR]; show 2 * 0 + (List.map (fun v => v.category) st).sum + 12 ≤ 34 * lev + 16; omega
  · exact kk H locs ls hP hD hS hl
end GMake
