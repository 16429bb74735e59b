/-! THE LAYER G: methods that throw, and their catching -/
section GThrow
abbrev xIA : String := "java/lang/IllegalArgumentException"
abbrev xIS : String := "java/lang/IllegalStateException"
abbrev xNS : String := "java/util/NoSuchElementException"
/-- the words of a throw that no list carries -/
def zN (U : State) : Prop := (va_Nw (.declares (Bundle.init0 "java/lang/RuntimeException")) U ∧ va_Nw (.declares (Bundle.init0 "java/lang/Exception")) U ∧ va_Nw (.declares (Bundle.init0 Bundle.tN)) U) ∧ va_Nw (.castable xIA xIA) U ∧ va_Nw (.castable xIS xIS) U ∧ va_Nw (.castable xNS xNS) U ∧ va_Nc xIS xIA U
def zT (A : Nat → Prop) (U : State) (H : Heap) : Prop := zN U ∧ vx_Zq Bundle.tN "UNASSIGNED_STACK" Bundle.steD A U H ∧ vx_Zq Bundle.tN "SUPPRESSED_SENTINEL" Bundle.listD A U H
theorem zN.warm {s U : State} (hW : s.WarmedH U.vm) (h : zN s) : zN U := by
  obtain ⟨⟨a, b, c⟩, d, e, f, g⟩ := h
  exact ⟨⟨a.warmD hW, b.warmD hW, c.warmD hW⟩, d.warmC hW, e.warmC hW, f.warmC hW, g.moved hW.alike⟩
theorem zT.call {A B : Nat → Prop} {s U : State} {H : Heap} {locs : List Loc} (hZ : zT A s s.heap) (hS : va_S A s.heap H locs) (hU : U.heap = H) (hW : s.WarmedH U.vm) (hAB : ∀ q, B q → A q) : zT B U U.heap := by
  obtain ⟨h0, h1, h2⟩ := hZ
  rw [hU]
  exact ⟨h0.warm hW, ((h1.kept (fun a ha hn => hS.2.1 a ha hn)).moved hW.alike).narrow hAB, ((h2.kept (fun a ha hn => hS.2.1 a ha hn)).moved hW.alike).narrow hAB⟩
/-- a contract's start, with the words of a throw -/
def PcZ (D : va_G) (T : Nat → ClassId) (av : List Value) (win : va_W) (sz : Nat) : Array Value → State → Prop := va_Pc av (fun U => U.heap.size = sz ∧ va_P D vwCl win U.heap ∧ va_K D vwCl (gTys T) U ∧ va_D (fun _ => True) win ∧ zT (va_A win sz) U U.heap)
def XT (D : va_G) (win : va_W) (X : String) (A : Nat → Prop) : String → State → State → Prop := fun E st t => E = X ∧ va_P D vwCl win t.heap ∧ va_F A st t
/-- a contract of a call that throws an X, and changes nothing -/
def ConT (l : Launch) (D : va_G) (T : Nat → ClassId) (y : MethodName) (cc : ByteArray) (nL : Nat) (ret : Option FieldType) (lev mc ms : Nat) (av : List Value) (win : va_W) (X : String) : Prop :=
  ∀ sz : Nat, vx_Met l y (Cond.code y cc nL ret :: gTbl) (gRm lev mc ms) (PcZ D T av win sz) (fun _ _ _ _ => False) (XT D win X (va_A win sz)) mc ms (va_A win sz)
/-- a contract of a method with a table of its own -/
def ConZ (l : Launch) (D : va_G) (T : Nat → ClassId) (y : MethodName) (cc : ByteArray) (hh : List (Nat × Nat × Nat × Nat)) (nL : Nat) (ret : Option FieldType) (lev mc ms : Nat) (av : List Value) (win : va_W) (post : Option Value → va_W → Prop) : Prop :=
  ∀ sz : Nat, Met l y (Cond.codeWith y cc nL ret hh :: gTbl) (gRm lev mc ms) (PcZ D T av win sz) (gQ D T post (va_A win sz)) mc ms (va_A win sz)
variable {l : Launch} {E : gEnv} {D : va_G} {T : Nat → ClassId} {y : MethodName} {cc : ByteArray} {nL : Nat} {ret : Option FieldType} {lev mc ms : Nat} {win : va_W} {post : Option Value → va_W → Prop}
variable {n k : Nat} {ws : va_W} {lv : List (Nat × Value)} {pc pc' : Nat} {st : List Value}
variable {y2 : MethodName} {cc2 : ByteArray} {nL2 : Nat} {ret2 : Option FieldType} {lev2 mc2 ms2 : Nat} {wc : va_W} {post2 : Option Value → va_W → Prop} {av : List Value}
theorem zBlind {sz : Nat} : FrameBlind (PcZ D T av wc sz) := fun a U g mk q => by
  obtain ⟨q0, q1, qP, qK, qD, ⟨⟨⟨a1, a2, a3⟩, b1, b2, b3, b4⟩, q3, q4⟩⟩ := q
  exact ⟨q0, q1, qP, va_K.moved (u := U) (U := U.calling g mk a) (Vm.Alike.refl U.vm) qK, qD, ⟨⟨va_Nw.same rfl rfl a1, va_Nw.same rfl rfl a2, va_Nw.same rfl rfl a3⟩, va_Nw.same rfl rfl b1, va_Nw.same rfl rfl b2, va_Nw.same rfl rfl b3, va_Nc.moved (u := U) (U := U.calling g mk a) (Vm.Alike.refl U.vm) b4⟩, vx_Zq.moved (u := U) (U := U.calling g mk a) (Vm.Alike.refl U.vm) q3, vx_Zq.moved (u := U) (U := U.calling g mk a) (Vm.Alike.refl U.vm) q4⟩
theorem zPre (hE : gOK E D T y cc nL ret lev mc ms win post) (hZ : zT E.A E.s E.s.heap) {H : Heap} {locs : List Loc} (hP : va_P D vwCl ws H) (hD : va_D E.A ws) (hS : va_S E.A E.s.heap H locs) (is : List Nat) (his : is.map (fun i => ws[i]?) = wc.map some) (hnd : va_nd is = true) :
    ∀ U : State, U.heap = H → E.s.WarmedH U.vm → PcZ D T av wc H.size av.toArray U := fun U hU hW => by
  obtain ⟨q0, q1, q2, q3, q4⟩ := gPre (av := av) hE hP hD is his hnd U hU hW
  exact ⟨q0, q1, q2, q3, q4, hZ.call hS hU hW (va_free (wc := wc) hD hS hE.hA is his)⟩
theorem ConT.of {av : List Value} {X : String} (hy : plainName y.cls = true) (hlen : (lg_sl av).length ≤ nL)
    (body : ∀ E : gEnv, gOK E D T y cc nL ret lev mc ms win (fun _ _ => False) → zT E.A E.s E.s.heap → (∀ x ∈ E.c.exceptionTable.toList, False) → E.Q = vx_MQ E.below (fun _ _ _ _ => False) (XT D win X E.A) E.args E.s mc ms E.A → G l E D nL 0 0 win (lv_args 0 av) 0 []) : ConT l D T y cc nL ret lev mc ms av win X := by
  intro sz
  refine vx_ofW (cc := cc) (maxL := nL) (ret := ret) hy rfl ?_
  intro p e s m args below meth c s₁ B hml htab hv
  obtain ⟨rfl, hsz, hP, hK, hD0, hZ⟩ := hv
  have hts := atoms_spec (ws := Cond.code y cc nL ret :: gTbl) B.pre
  have hown : s.vm.findClass y.cls = some m.cls := findClass_of_methodNamed B.named
  subst hsz
  have hD := hD0.self (sz := s.heap.size)
  have hl := lv_entry av (n := nL) hlen
  rw [lg_entry_eq]
  exact body (p, e, gRm lev mc ms, s, m, av.toArray, below, meth, c, vx_MQ below (fun _ _ _ _ => False) (XT D win X (va_A win s.heap.size)) av.toArray s mc ms (va_A win s.heap.size), va_A win s.heap.size)
    ⟨⟨B.exec, B.bytes, hml, hown, fun w h => hts w (List.mem_cons_of_mem _ h)⟩, hK, fun q h => Or.inr h, fun _ h => (by obtain ⟨o, _, _, ⟨⟨v, w1, _, h9, _⟩, _⟩, _⟩ := h; exact h9.elim), B.returns, B.notSynchronized, rfl, (name_of_methodNamed B.named B.method).1⟩ hZ htab rfl
    s.heap [] _ hP hD va_S.rf hl
theorem ConZ.of {av : List Value} {hh : List (Nat × Nat × Nat × Nat)} (hy : plainName y.cls = true) (hlen : (lg_sl av).length ≤ nL)
    (body : ∀ E : gEnv, gOK E D T y cc nL ret lev mc ms win post → zT E.A E.s E.s.heap → E.c.exceptionTable.toList = tableOf hh → G l E D nL 0 0 win (lv_args 0 av) 0 []) : ConZ l D T y cc hh nL ret lev mc ms av win post := by
  intro sz
  have hX : vx_Met l y (Cond.codeWith y cc nL ret hh :: gTbl) (gRm lev mc ms) (PcZ D T av win sz) (gQ D T post (va_A win sz)) (fun _ _ _ => False) mc ms (va_A win sz) := by
    refine vx_ofWH (cc := cc) (maxL := nL) (ret := ret) hy rfl ?_
    intro p e s m args below meth c s₁ B hml hv
    obtain ⟨rfl, hsz, hP, hK, hD0, hZ⟩ := hv
    have hts := atoms_spec (ws := Cond.codeWith y cc nL ret hh :: gTbl) B.pre
    have hown : s.vm.findClass y.cls = some m.cls := findClass_of_methodNamed B.named
    subst hsz
    have hD := hD0.self (sz := s.heap.size)
    have hl := lv_entry av (n := nL) hlen
    rw [lg_entry_eq]
    refine vx_ret ?_
    exact body (p, e, gRm lev mc ms, s, m, av.toArray, below, meth, c, MQ below (gQ D T post (va_A win s.heap.size)) av.toArray s mc ms (va_A win s.heap.size), va_A win s.heap.size)
      ⟨⟨B.exec, B.bytes, hml, hown, fun w h => hts w (List.mem_cons_of_mem _ h)⟩, hK, fun q h => Or.inr h, fun _ h => h, B.returns, B.notSynchronized, rfl, (name_of_methodNamed B.named B.method).1⟩ hZ (vx_table (x := y) B (hts _ List.mem_cons_self))
      s.heap [] _ hP hD va_S.rf hl
  intro p e ha hc hk s m args below hf happ hP hK
  obtain ⟨n9, o, h1, h2, h3, h4⟩ := hX p e ha hc hk s m args below hf happ hP hK
  refine ⟨n9, o, h1, h2, h3, ?_⟩
  rcases h4 with h4 | ⟨q, -, _, _, _, h5, -⟩
  · exact h4
  · exact h5.elim
/-- 'throw new X()' where nothing has been done yet -/
theorem g_throw (hE : gOK E D T y cc nL ret lev mc ms win post) (hlt : l.stackTraces = false) (hZ : zT E.A E.s E.s.heap) (htab : ∀ x ∈ E.c.exceptionTable.toList, False) {X : String} (hQ : E.Q = vx_MQ E.below (fun _ _ _ _ => False) (XT D win X E.A) E.args E.s mc ms E.A)
    {ik ic : Nat} (hfit : Bundle.fit X = true) (hk : Cond.classLink y.cls ik X ∈ gTbl) (hini : Cond.initialized X ∈ gTbl)
    (hgo : ∀ w ∈ (vx_at0 y.cls ic X ["java/lang/RuntimeException", "java/lang/Exception"]).filter goodWord, w ∈ gTbl)
    (hno : ∀ w ∈ (vx_at0 y.cls ic X ["java/lang/RuntimeException", "java/lang/Exception"]).filter (fun w => !goodWord w), w ∈ [Cond.declares (Bundle.init0 "java/lang/RuntimeException"), .declares (Bundle.init0 "java/lang/Exception"), .declares (Bundle.init0 Bundle.tN), .castable X X])
    (hot : ∀ w ∈ Cond.classLink y.cls ik X :: Cond.initialized X :: vx_at0 y.cls ic X ["java/lang/RuntimeException", "java/lang/Exception"], vx_ot w = true) (hself : va_Nw (.castable X X) E.s)
    (d0 : decode cc pc = .ok (.new ik, 3)) (d3 : decode cc (pc + 3) = .ok (.dup, 1)) (d4 : decode cc (pc + 4) = .ok (.invokespecial ic, 3)) (d7 : decode cc (pc + 7) = .ok (.athrow, 1))
    (hlev : 6 ≤ lev) (hst : (st.map fun v => v.category).sum ≤ 8) (hn : n + 1 ≤ mc) (hk9 : k + 6 ≤ ms) : G l E D nL n k win lv pc st := by
  intro H locs ls hP hD hS hl
  rw [hQ]
  have hR := hE.2.2.2.2.2.2.1
  refine vx_throw0 (own := y.cls) (cls := X) (names := ["java/lang/RuntimeException", "java/lang/Exception"]) hE.x hE.b hlt hE.own hfit (by decide) (hE.ts _ hk) (hE.ts _ hini)
    (vx_hat (fun w h => hE.ts w (hgo w h)) hno (vx_c (va_Nw.use rfl hZ.1.1.1) (vx_c (va_Nw.use rfl hZ.1.1.2.1) (vx_c (va_Nw.use rfl hZ.1.1.2.2) (vx_c (va_Nw.use rfl hself) vx_n))))) hot hZ.2.1 hZ.2.2 hS (by rw [hl.1]; exact hE.1.2.2.1.symm) d0 d3 d4 d7
    (fun x hx => (htab x hx).elim) (by rw [hR]; show 2 + 3 < lev; omega) (by rw [hR]; show _ + (13 * (2 + 1) + 42) ≤ 34 * lev + 16; omega) (by rw [hR]; exact hn) (by rw [hR]; exact hk9) hE.2.2.2.2.2.1 ?_ hS.2.2 hn hk9
  intro t hal hz hkp
  refine ⟨rfl, fun j q hq => (hP j q hq).kept (hkp _ (hP j q hq).lt), Nat.le_trans hS.1 hz, fun q h1 h2 => ?_⟩
  rw [hkp q (Nat.lt_of_lt_of_le h1 hS.1)]
  exact hS.2.1 q h1 h2
/-- a call that throws X, caught by the row x of this method's table -/
theorem g_callT (hE : gOK E D T y cc nL ret lev mc ms win post) (hZ : zT E.A E.s E.s.heap) {hh : List (Nat × Nat × Nat × Nat)} (htab : E.c.exceptionTable.toList = tableOf hh) {index b ci na N : Nat} {As rest fs : List Value} {U : u_T} {X : String} (hC : ConT l D T y2 cc2 nL2 ret2 lev2 mc2 ms2 (.ref b :: As) wc X) (hm : gM y2 cc2 nL2 ret2 na) (hlk : Cond.methodLink y.cls index y2 ∈ gTbl) (hin : Cond.instanceMethod y2 ∈ gTbl) (hsel : Cond.selects y2.cls y2 y2 ∈ gTbl)
    (hlev : lev2 + 1 ≤ lev) (hna : As.length = na) (hcs : n + mc2 ≤ mc ∧ k + ms2 ≤ ms) (q0 : Nat) (he : ws[q0]? = some (b, .inr (ci, fs))) (hc : vwCl[ci]? = some (y2.cls, U, N)) (is : List Nat) (his : is.map (fun i => ws[i]?) = wc.map some) (hnd : va_nd is = true)
    (hst : st = As.reverse ++ .ref b :: rest) (hrest : (rest.map fun v => v.category).sum ≤ 8) (hd : decode cc pc = .ok (.invokevirtual index, 3))
    (pre : List ExceptionTableEntry) (x : ExceptionTableEntry) (suf : List ExceptionTableEntry) (hsplit : tableOf hh = pre ++ x :: suf)
    (hpass : ∀ z ∈ pre, covers z pc = false ∨ (z.catchType ≠ 0 ∧ ∃ nm : String, Cond.classLink y.cls z.catchType nm ∈ gTbl ∧ va_Nc X nm E.s)) (hx : covers x pc = true) (h0 : x.catchType ≠ 0) (hlink : Cond.classLink y.cls x.catchType X ∈ gTbl) (hself : va_Nw (.castable X X) E.s) (hpc : x.handlerPc = pc')
    (kk : ∀ q : Nat, G l E D nL (n + mc2) (k + ms2) ws lv pc' [.ref q]) : G l E D nL n k ws lv pc st := by
  subst hst
  subst hpc
  intro H locs ls hP hD hS hl
  have hF := va_free (wc := wc) hD hS hE.hA is his
  have hr := vx_runV (C := y2.cls) (As := As) (rest := rest) (below := E.below) (meth := E.meth) (locs := locs) (p := E.p) (e := E.e) (g := F0 E.m pc ls (As.reverse ++ .ref b :: rest)) (cells := n) (slots := k) hE.1 (hC H.size) ⟨gCallB hE hm hlk hlev, hE.ts _ hin, hE.ts _ hsel⟩ ⟨zBlind, va_recv hE.K hP hc he, zPre hE hZ hP hD hS is his hnd⟩ rfl hna hl.1 rfl (lv_room hrest) hd (by rw [hE.2.2.2.2.2.2.1]; exact hcs)
  intro T9 hT X9
  rcases hr T9 hT X9 with ⟨v, st₀, t, T', L, h9, X', hL, e1, e2, hq, stp⟩ | ⟨q, st₀, t, T', L, E9, ce, h9, X', hL, e1, e2, ⟨hEX, hP1, hz, hkp⟩, hce, hcv, hcl, stp⟩
  · exact hq.elim
  · subst hEX
    rw [h9] at hz hkp
    have hout : ∀ (j : Nat) (q : Nat × va_E), ws[j]? = some q → j ∉ is → ¬ va_A wc H.size q.1 := by
      intro j q hq hj hA
      rcases hA with ⟨i, e, hi⟩ | hge
      · have h1 : (is.map (fun i => ws[i]?))[i]? = some (some (q.1, e)) := by rw [his, List.getElem?_map, hi]; rfl
        rw [List.getElem?_map] at h1
        cases hi2 : is[i]? with
        | none => rw [hi2] at h1; cases h1
        | some j2 =>
          rw [hi2] at h1
          have := hD.1 j j2 q (q.1, e) hq (Option.some.inj h1) rfl
          subst this
          exact hj (List.mem_of_getElem? hi2)
      · have := (hP j q hq).lt
        omega
    have hP2 : va_P D vwCl ws T'.heap := by
      intro j q hq
      by_cases hj : j ∈ is
      · obtain ⟨i, hi⟩ := List.getElem?_of_mem hj
        have h1 : (is.map (fun i => ws[i]?))[i]? = some (some q) := by rw [List.getElem?_map, hi]; exact congrArg some hq
        rw [his, List.getElem?_map] at h1
        cases hw : wc[i]? with
        | none => rw [hw] at h1; cases h1
        | some q2 =>
          rw [hw] at h1
          have : q2 = q := Option.some.inj (Option.some.inj h1)
          subst this
          rw [e1]
          exact hP1 i q2 hw
      · exact (hP j q hq).kept (by rw [e1]; exact hkp q.1 (hP j q hq).lt (hout j q hq hj))
    have hS2 : va_S E.A E.s.heap T'.heap (locs ++ L) := ⟨Nat.le_trans hS.1 (by rw [e1]; exact hz), fun q h1 h2 => by rw [e1, hkp q (Nat.lt_of_lt_of_le h1 hS.1) (fun z => h2 (hF q z))]; exact hS.2.1 q h1 h2, fun q hq => by
      rcases List.mem_append.mp hq with h | h
      · exact hS.2.2 q h
      · exact hF _ (hL q h)⟩
    obtain ⟨t2, a1, b1⟩ := vx_catch (own := y.cls) (name := E9) (E := E9) (ce := ce) (q := q) (pc := pc) (rest := rest) (Q := E.Q) hE.own pre x suf (by rw [htab]; exact hsplit) (fun z hz9 => (hpass z hz9).imp id (fun ⟨g1, nm, g2, g3⟩ => ⟨g1, nm, hE.ts _ g2, g3⟩)) hx h0 (hE.ts _ hlink) (va_Nw.use rfl hself) (by rw [e1]; exact hce) hcv hcl
      (kk q T'.heap (locs ++ L) ls hP2 hD hS2 hl) T' rfl X'
    exact ⟨t2, stp.trans a1, b1⟩
/-- a static call of a method with a table of its own -/
theorem g_callSZ (hE : gOK E D T y cc nL ret lev mc ms win post) (hZ : zT E.A E.s E.s.heap) {hh : List (Nat × Nat × Nat × Nat)} {index na : Nat} {As rest : List Value} (hC : ConZ l D T y2 cc2 hh nL2 ret2 lev2 mc2 ms2 As wc post2)
    (hm : Cond.codeWith y2 cc2 nL2 ret2 hh ∈ gTbl ∧ Cond.initialized y2.cls ∈ gTbl ∧ (y2.cls ≠ "java/lang/invoke/MethodHandle" ∧ y2.cls ≠ "java/lang/invoke/VarHandle" ∧ (parseMethodDescriptor y2.desc).map (fun d => d.parameters.length) = some na) ∧ nL2 ≤ 15) (hlk : Cond.methodLink y.cls index y2 ∈ gTbl) (hstc : Cond.static y2 ∈ gTbl)
    (hlev : lev2 + 1 ≤ lev) (hna : As.length = na) (hcs : n + mc2 ≤ mc ∧ k + ms2 ≤ ms) (is : List Nat) (his : is.map (fun i => ws[i]?) = wc.map some) (hnd : va_nd is = true)
    (hst : st = As.reverse ++ rest) (hrest : (rest.map fun v => v.category).sum ≤ 8) (hd : decode cc pc = .ok (.invokestatic index, 3)) (hp : pc + 3 = pc') (hb : gBack l E D nL n k ws wc lv pc' rest mc2 ms2 post2) : G l E D nL n k ws lv pc st := by
  subst hp
  subst hst
  intro H locs ls hP hD hS hl
  have hcw : vx_CSW E.R E.s E.args y.cls index y2 cc2 nL2 ret2 hh (Cond.codeWith y2 cc2 nL2 ret2 hh :: gTbl) (gRm lev2 mc2 ms2) mc2 ms2 na := by
    refine ⟨⟨rfl, rfl, ?_, ?_, pay_in hE.ts (fun w hw => ?_), List.mem_cons_self⟩, hE.ts _ hm.1, hE.ts _ hm.2.1, ⟨hm.2.2.1.1, hm.2.2.1.2.1⟩, fun sig h => ?_, hE.ts _ hlk, hE.ts _ hstc⟩
    · rw [hE.2.2.2.2.2.2.1]; exact hlev
    · rw [hE.2.2.2.2.2.2.1]; have := hm.2.2.2; simp only [gRm]; omega
    · rcases List.mem_cons.mp hw with rfl | hw
      · exact ⟨hm.1, g_good _ hm.1⟩
      · exact ⟨hw, g_good _ hw⟩
    · have h2 := hm.2.2.1.2.2
      rw [h] at h2
      exact (Option.some.inj h2).symm
  refine gRun hE is his hP hD hS hl (vx_runSW (As := As) (rest := rest) hE.1 (hC H.size) hcw ⟨zBlind, zPre hE hZ hP hD hS is his hnd⟩ rfl hna hl.1 rfl (lv_room hrest) hd (by rw [hE.2.2.2.2.2.2.1]; exact hcs)) hb
end GThrow
