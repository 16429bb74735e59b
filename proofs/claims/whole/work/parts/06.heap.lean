/-! THE LAYER G: fields, arrays, ends, calls -/
section GHeap
variable {l : Launch} {E : gEnv} {D : va_G} {T : Nat → ClassId} {y : MethodName} {cc : ByteArray} {nL : Nat} {ret : Option FieldType} {lev mc ms : Nat} {win : va_W} {post : Option Value → va_W → Prop}
variable {n k : Nat} {ws : va_W} {lv : List (Nat × Value)} {pc pc' : Nat} {st : List Value}
/-- what the tables say of a class: its row in vwCl, its words among gTbl, its fields' types, their names apart -/
abbrev gC (ci : Nat) (C : String) (U : u_T) (N : Nat) (ty : Nat → FieldType) : Prop :=
  vwCl[ci]? = some (C, U, N) ∧ (∀ w ∈ u_ws C U N, w ∈ gTbl) ∧ (∀ k, k < N → parseFieldDescriptor (U k).2.2.1 = some (ty k)) ∧ (∀ a, a < N → ∀ b, b < N → a ≠ b → (U a).2.1 ≠ (U b).2.1)
theorem g_get (hE : gOK E D T y cc nL ret lev mc ms win post) {ci N index a : Nat} {C : String} {U : u_T} {ty : Nat → FieldType} (hc : gC ci C U N ty) (q0 : Nat) {fs : List Value} (he : ws[q0]? = some (a, .inr (ci, fs))) (j : Nat) {v : Value} (hj : j < N) (hv : fs[j]? = some v)
    (hw : Cond.fieldLink y.cls index (U j).1 (U j).2.1 (U j).2.2.1 ∈ gTbl) (hd : decode cc pc = .ok (.getfield index, 3)) (hp : pc + 3 = pc') (kk : G l E D nL n k ws lv pc' (v :: st)) : G l E D nL n k ws lv pc (.ref a :: st) := by
  subst hp
  exact fun H locs ls hP hD hS hl => va_get (D := D) (C := C) (T := U) (N := N) hE.x hE.b hE.ts hc.2.1 hE.own hE.K hP q0 he hc.1 j hj (hE.ts _ hw) (fun _ h9 => h9) hv hd (kk H locs ls hP hD hS hl)
theorem g_put (hE : gOK E D T y cc nL ret lev mc ms win post) {ci N index a : Nat} {C : String} {U : u_T} {ty : Nat → FieldType} (hc : gC ci C U N ty) (q0 : Nat) {fs : List Value} (he : ws[q0]? = some (a, .inr (ci, fs))) (j : Nat) {v : Value} (ws' : va_W) (hj : j < N) (hl : j < fs.length)
    (hfin : (U j).2.2.2 = false) (hn : narrow (ty j) v = v) (hfit : fits (ty j) v = true) (hs : ws.set q0 (a, .inr (ci, fs.set j v)) = ws')
    (hw : Cond.fieldLink y.cls index (U j).1 (U j).2.1 (U j).2.2.1 ∈ gTbl) (hd : decode cc pc = .ok (.putfield index, 3)) (hp : pc + 3 = pc') (kk : G l E D nL n k ws' lv pc' st) : G l E D nL n k ws lv pc (v :: .ref a :: st) := by
  subst hp
  subst hs
  exact fun H locs ls hP hD hS hl2 => va_put (D := D) (C := C) (T := U) (N := N) (ty := ty j) hE.x hE.b hE.ts hc.2.1 ty hc.2.2.1 hc.2.2.2 hE.own hE.K hP hD hS q0 he hc.1 j hj (hE.ts _ hw) (fun _ h9 => h9) hfin (hc.2.2.1 j hj) hn hfit hl hd (fun H1 locs1 hP1 hD1 hS1 => kk H1 locs1 ls hP1 hD1 hS1 hl2)
theorem g_putF (hE : gOK E D T y cc nL ret lev mc ms win post) {ci N index a : Nat} {C : String} {U : u_T} {ty : Nat → FieldType} (hc : gC ci C U N ty) (q0 : Nat) {fs : List Value} (he : ws[q0]? = some (a, .inr (ci, fs))) (j : Nat) {v : Value} (ws' : va_W) (hj : j < N) (hl : j < fs.length)
    (hfin : (U j).2.2.2 = true) (hy : y.name = "<init>") (hdec : (U j).1 = y.cls) (hn : narrow (ty j) v = v) (hfit : fits (ty j) v = true) (hs : ws.set q0 (a, .inr (ci, fs.set j v)) = ws')
    (hw : Cond.fieldLink y.cls index (U j).1 (U j).2.1 (U j).2.2.1 ∈ gTbl) (hd : decode cc pc = .ok (.putfield index, 3)) (hp : pc + 3 = pc') (kk : G l E D nL n k ws' lv pc' st) : G l E D nL n k ws lv pc (v :: .ref a :: st) := by
  subst hp
  subst hs
  exact fun H locs ls hP hD hS hl2 => va_putF (D := D) (C := C) (T := U) (N := N) (ty := ty j) hE.x hE.b hE.ts hc.2.1 ty hc.2.2.1 hc.2.2.2 hE.own hE.K hP hD hS q0 he hc.1 j hj (hE.ts _ hw) (fun _ h9 => h9) hfin (hE.2.2.2.2.2.2.2.trans hy) hdec (hc.2.2.1 j hj) hn hfit hl hd (fun H1 locs1 hP1 hD1 hS1 => kk H1 locs1 ls hP1 hD1 hS1 hl2)
theorem g_cl {i m : Nat} (h : i < m) (hm : m < 2 ^ 31) : (nI i).toNatClampNeg = i := nI_clamp (by omega)
/-- int arrays, at a place that is a Nat -/
theorem g_iald (hE : gOK E D T y cc nL ret lev mc ms win post) (q0 : Nat) {a m i : Nat} {f : Nat → Int32} (he : ws[q0]? = some (a, .inl (T 0, m, .inl f))) (hm : m < 2 ^ 31) (hi : i < m) (hd : decode cc pc = .ok (.iaload, 1)) (hp : pc + 1 = pc')
    (kk : G l E D nL n k ws lv pc' (.int (f i) :: st)) : G l E D nL n k ws lv pc (.int (nI i) :: .ref a :: st) := by
  subst hp
  intro H locs ls hP hD hS hl
  refine va_iald (D := D) hE.x hE.b hE.K hP q0 0 he rfl (vp_in_nI hi hm) hd ?_
  rw [g_cl hi hm]
  exact kk H locs ls hP hD hS hl
theorem g_lald (hE : gOK E D T y cc nL ret lev mc ms win post) (q0 : Nat) {a m i : Nat} {f : Nat → Int64} (he : ws[q0]? = some (a, .inl (T 1, m, .inr (.inl f)))) (hm : m < 2 ^ 31) (hi : i < m) (hd : decode cc pc = .ok (.laload, 1)) (hp : pc + 1 = pc')
    (kk : G l E D nL n k ws lv pc' (.long (f i) :: st)) : G l E D nL n k ws lv pc (.int (nI i) :: .ref a :: st) := by
  subst hp
  intro H locs ls hP hD hS hl
  refine va_lald (D := D) hE.x hE.b hE.K hP q0 1 he rfl (vp_in_nI hi hm) hd ?_
  rw [g_cl hi hm]
  exact kk H locs ls hP hD hS hl
theorem g_zald (hE : gOK E D T y cc nL ret lev mc ms win post) (q0 : Nat) {a m i : Nat} {f : Nat → Int32} (he : ws[q0]? = some (a, .inl (T 2, m, .inl f))) (hm : m < 2 ^ 31) (hi : i < m) (hd : decode cc pc = .ok (.baload, 1)) (hp : pc + 1 = pc')
    (kk : G l E D nL n k ws lv pc' (.int (f i) :: st)) : G l E D nL n k ws lv pc (.int (nI i) :: .ref a :: st) := by
  subst hp
  intro H locs ls hP hD hS hl
  refine va_zald (D := D) hE.x hE.b hE.K hP q0 2 he rfl (vp_in_nI hi hm) hd ?_
  rw [g_cl hi hm]
  exact kk H locs ls hP hD hS hl
theorem g_iast (hE : gOK E D T y cc nL ret lev mc ms win post) (q0 : Nat) {a m i : Nat} {f f' : Nat → Int32} {x : Int32} (ws' : va_W) (he : ws[q0]? = some (a, .inl (T 0, m, .inl f))) (hm : m < 2 ^ 31) (hi : i < m) (hf : upd f i x = f') (hs : ws.set q0 (a, .inl (T 0, m, .inl f')) = ws') (hd : decode cc pc = .ok (.iastore, 1)) (hp : pc + 1 = pc')
    (kk : G l E D nL n k ws' lv pc' st) : G l E D nL n k ws lv pc (.int x :: .int (nI i) :: .ref a :: st) := by
  subst hp
  subst hf
  subst hs
  intro H locs ls hP hD hS hl
  refine va_iast (D := D) hE.x hE.b hE.K hP hD hS q0 0 he rfl (vp_in_nI hi hm) hd ?_
  rw [g_cl hi hm]
  exact fun H1 locs1 hP1 hD1 hS1 => kk H1 locs1 ls hP1 hD1 hS1 hl
theorem g_last (hE : gOK E D T y cc nL ret lev mc ms win post) (q0 : Nat) {a m i : Nat} {f f' : Nat → Int64} {x : Int64} (ws' : va_W) (he : ws[q0]? = some (a, .inl (T 1, m, .inr (.inl f)))) (hm : m < 2 ^ 31) (hi : i < m) (hf : vp_updL f i x = f') (hs : ws.set q0 (a, .inl (T 1, m, .inr (.inl f'))) = ws') (hd : decode cc pc = .ok (.lastore, 1)) (hp : pc + 1 = pc')
    (kk : G l E D nL n k ws' lv pc' st) : G l E D nL n k ws lv pc (.long x :: .int (nI i) :: .ref a :: st) := by
  subst hp
  subst hf
  subst hs
  intro H locs ls hP hD hS hl
  refine va_last (D := D) hE.x hE.b hE.K hP hD hS q0 1 he rfl (vp_in_nI hi hm) hd ?_
  rw [g_cl hi hm]
  exact fun H1 locs1 hP1 hD1 hS1 => kk H1 locs1 ls hP1 hD1 hS1 hl
theorem g_zast (hE : gOK E D T y cc nL ret lev mc ms win post) (q0 : Nat) {a m i : Nat} {f f' : Nat → Int32} {x : Int32} (ws' : va_W) (he : ws[q0]? = some (a, .inl (T 2, m, .inl f))) (hm : m < 2 ^ 31) (hi : i < m) (hf : upd f i (vp_nar .boolean x) = f') (hs : ws.set q0 (a, .inl (T 2, m, .inl f')) = ws') (hd : decode cc pc = .ok (.bastore, 1)) (hp : pc + 1 = pc')
    (kk : G l E D nL n k ws' lv pc' st) : G l E D nL n k ws lv pc (.int x :: .int (nI i) :: .ref a :: st) := by
  subst hp
  subst hf
  subst hs
  intro H locs ls hP hD hS hl
  refine va_zast (D := D) hE.x hE.b hE.K hP hD hS q0 2 he rfl (vp_in_nI hi hm) hd ?_
  rw [g_cl hi hm]
  exact fun H1 locs1 hP1 hD1 hS1 => kk H1 locs1 ls hP1 hD1 hS1 hl
theorem g_alen (hE : gOK E D T y cc nL ret lev mc ms win post) (q0 t0 : Nat) {a : Nat} {cA : ClassId} {x : vp_A} {ty : FieldType} (he : ws[q0]? = some (a, .inl (cA, x))) (ht : (gTys T)[t0]? = some (cA, ty)) (hd : decode cc pc = .ok (.arraylength, 1)) (hp : pc + 1 = pc')
    (kk : G l E D nL n k ws lv pc' (.int (nI x.1) :: st)) : G l E D nL n k ws lv pc (.ref a :: st) := by
  subst hp
  exact fun H locs ls hP hD hS hl => va_alen (D := D) hE.x hE.b hE.K hP q0 t0 he ht rfl hd (kk H locs ls hP hD hS hl)
-- ends
theorem gOK.mq (hE : gOK E D T y cc nL ret lev mc ms win post) {H : Heap} {locs : List Loc} {g : JFrame} (kk : W E.p l E.e E.R E.s E.m E.args E.below E.meth E.c H locs n k (MQ E.below (gQ D T post E.A) E.args E.s mc ms E.A) g) : W E.p l E.e E.R E.s E.m E.args E.below E.meth E.c H locs n k E.Q g := fun T hT X => by
  obtain ⟨t, a1, a2⟩ := kk T hT X
  exact ⟨t, a1, hE.2.2.2.1 t a2⟩
theorem gOK.iret (hE : gOK E D T y cc nL (some .int) lev mc ms win post) {v : Int32} (hq : post (some (.int v)) ws) (hn : n ≤ mc) (hk : k ≤ ms) (hd : decode cc pc = .ok (.ireturn, 1)) : G l E D nL n k ws lv pc [.int v] := by
  intro H locs ls hP hD hS hl
  refine W.widen hn hk ?_
  refine hE.mq ?_
  exact W.iret hE.x hE.b hE.2.2.2.2.1 (fun t ht hW => ⟨⟨_, ws, rfl, hq, by rw [ht]; exact hP, va_K.moved hW.alike hE.K, hD⟩, hS.F ht⟩) hS.2.2 hd hE.2.2.2.2.2.1
theorem gOK.lret (hE : gOK E D T y cc nL (some .long) lev mc ms win post) {v : Int64} (hq : post (some (.long v)) ws) (hn : n ≤ mc) (hk : k ≤ ms) (hd : decode cc pc = .ok (.lreturn, 1)) : G l E D nL n k ws lv pc [.long v] := by
  intro H locs ls hP hD hS hl
  refine W.widen hn hk ?_
  refine hE.mq ?_
  exact W.lret hE.x hE.b hE.2.2.2.2.1 (fun t ht hW => ⟨⟨_, ws, rfl, hq, by rw [ht]; exact hP, va_K.moved hW.alike hE.K, hD⟩, hS.F ht⟩) hS.2.2 hd hE.2.2.2.2.2.1
theorem gOK.zret (hE : gOK E D T y cc nL (some .boolean) lev mc ms win post) {v : Int32} (hv : narrow .boolean (.int v) = .int v) (hq : post (some (.int v)) ws) (hn : n ≤ mc) (hk : k ≤ ms) (hd : decode cc pc = .ok (.ireturn, 1)) : G l E D nL n k ws lv pc [.int v] := by
  intro H locs ls hP hD hS hl
  refine W.widen hn hk ?_
  refine hE.mq ?_
  exact W.zret hE.x hE.b hE.2.2.2.2.1 hv (fun t ht hW => ⟨⟨_, ws, rfl, hq, by rw [ht]; exact hP, va_K.moved hW.alike hE.K, hD⟩, hS.F ht⟩) hS.2.2 hd hE.2.2.2.2.2.1
theorem gOK.vret (hE : gOK E D T y cc nL none lev mc ms win post) (hq : post none ws) (hn : n ≤ mc) (hk : k ≤ ms) (hd : decode cc pc = .ok (.return_, 1)) : G l E D nL n k ws lv pc [] := by
  intro H locs ls hP hD hS hl
  refine W.widen hn hk ?_
  refine hE.mq ?_
  exact W.vret hE.x hE.b hE.2.2.2.2.1 (fun t ht hW => ⟨⟨_, ws, rfl, hq, by rw [ht]; exact hP, va_K.moved hW.alike hE.K, hD⟩, hS.F ht⟩) hS.2.2 hd hE.2.2.2.2.2.1
theorem gOK.aret {cn : String} (hE : gOK E D T y cc nL (some (.object cn)) lev mc ms win post) {a : Nat} (hq : post (some (.ref a)) ws) (hn : n ≤ mc) (hk : k ≤ ms) (hd : decode cc pc = .ok (.areturn, 1)) : G l E D nL n k ws lv pc [.ref a] := by
  intro H locs ls hP hD hS hl
  refine W.widen hn hk ?_
  refine hE.mq ?_
  exact W.aret hE.x hE.b hE.2.2.2.2.1 (Or.inl ⟨_, rfl⟩) (Or.inr ⟨_, rfl⟩) (fun t ht hW => ⟨⟨_, ws, rfl, hq, by rw [ht]; exact hP, va_K.moved hW.alike hE.K, hD⟩, hS.F ht⟩) hS.2.2 hd hE.2.2.2.2.2.1
end GHeap
