/-! THE LAYER G: the constructor that calls a nest mate's private one -/
section GNest
abbrev wNest : Cond := .methodLinkNest RX8 23 yX4_init RX8
def PcN (D : va_G) (T : Nat → ClassId) (av : List Value) (win : va_W) (sz : Nat) : Array Value → State → Prop := va_Pc av (fun U => U.heap.size = sz ∧ va_P D vwCl win U.heap ∧ va_K D vwCl (gTys T) U ∧ va_D (fun _ => True) win ∧ va_Nw wNest U)
def ConN (l : Launch) (D : va_G) (T : Nat → ClassId) (y : MethodName) (cc : ByteArray) (nL : Nat) (ret : Option FieldType) (lev mc ms : Nat) (av : List Value) (win : va_W) (post : Option Value → va_W → Prop) : Prop :=
  ∀ sz : Nat, Met l y (Cond.code y cc nL ret :: gTbl) (gRm lev mc ms) (PcN D T av win sz) (gQ D T post (va_A win sz)) mc ms (va_A win sz)
variable {l : Launch} {E : gEnv} {D : va_G} {T : Nat → ClassId} {y : MethodName} {cc : ByteArray} {nL : Nat} {ret : Option FieldType} {lev mc ms : Nat} {win : va_W} {post : Option Value → va_W → Prop}
variable {n k : Nat} {ws : va_W} {lv : List (Nat × Value)} {pc pc' : Nat} {st : List Value}
variable {y2 : MethodName} {cc2 : ByteArray} {nL2 : Nat} {ret2 : Option FieldType} {lev2 mc2 ms2 : Nat} {wc : va_W} {post2 : Option Value → va_W → Prop} {av : List Value}
theorem ConN.of {av : List Value} (hy : plainName y.cls = true) (hlen : (lg_sl av).length ≤ nL) (body : ∀ E : gEnv, gOK E D T y cc nL ret lev mc ms win post → va_Nw wNest E.s → G l E D nL 0 0 win (lv_args 0 av) 0 []) : ConN l D T y cc nL ret lev mc ms av win post := by
  intro sz
  refine Met.ofW (cc := cc) (maxL := nL) (ret := ret) hy rfl ?_
  intro p e s m args below meth c s₁ B hml hv
  obtain ⟨rfl, hsz, hP, hK, hD0, hN⟩ := hv
  have hts := atoms_spec (ws := Cond.code y cc nL ret :: gTbl) B.pre
  have hown : s.vm.findClass y.cls = some m.cls := findClass_of_methodNamed B.named
  subst hsz
  have hD := hD0.self (sz := s.heap.size)
  have hl := lv_entry av (n := nL) hlen
  rw [lg_entry_eq]
  exact body (p, e, gRm lev mc ms, s, m, av.toArray, below, meth, c, MQ below (gQ D T post (va_A win s.heap.size)) av.toArray s mc ms (va_A win s.heap.size), va_A win s.heap.size)
    ⟨⟨B.exec, B.bytes, hml, hown, fun w h => hts w (List.mem_cons_of_mem _ h)⟩, hK, fun q h => Or.inr h, fun _ h => h, B.returns, B.notSynchronized, rfl, (name_of_methodNamed B.named B.method).1⟩ hN
    s.heap [] _ hP hD va_S.rf hl
theorem nBlind {sz : Nat} : FrameBlind (PcN D T av wc sz) := fun a U g mk q => by
  obtain ⟨q0, q1, qP, qK, qD, qN⟩ := q
  exact ⟨q0, q1, qP, va_K.moved (u := U) (U := U.calling g mk a) (Vm.Alike.refl U.vm) qK, qD, va_Nw.same rfl rfl qN⟩
theorem g_callIN (hE : gOK E D T y cc nL ret lev mc ms win post) {index b na : Nat} {host : String} {As rest : List Value} (hC : Con l D T y2 cc2 nL2 none lev2 mc2 ms2 (.ref b :: As) wc post2) (hm : gM y2 cc2 nL2 none na) (hlk : va_Nw (.methodLinkNest y.cls index y2 host) E.s) (hin : Cond.instanceMethod y2 ∈ gTbl) (hy : y2.name = "<init>")
    (hlev : lev2 + 1 ≤ lev) (hna : As.length = na) (hcs : n + mc2 ≤ mc ∧ k + ms2 ≤ ms) (is : List Nat) (his : is.map (fun i => ws[i]?) = wc.map some) (hnd : va_nd is = true)
    (hst : st = As.reverse ++ .ref b :: rest) (hrest : (rest.map fun v => v.category).sum ≤ 8) (hd : decode cc pc = .ok (.invokespecial index, 3)) (hp : pc + 3 = pc') (hb : gBack l E D nL n k ws wc lv pc' rest mc2 ms2 post2) : G l E D nL n k ws lv pc st := by
  subst hp
  subst hst
  intro H locs ls hP hD hS hl
  have hcn : va_CN E.R E.s E.args y.cls index y2 host cc2 nL2 none (Cond.code y2 cc2 nL2 none :: gTbl) (gRm lev2 mc2 ms2) mc2 ms2 na := by
    refine va_cnB na hE.ts (fun w hw => ?_) rfl rfl rfl hlk (hE.ts _ hm.2.1) hm.2.2.1 ?_
    · rcases List.mem_cons.mp hw with rfl | hw
      · exact ⟨hm.1, g_good _ hm.1⟩
      · exact ⟨hw, g_good _ hw⟩
    · rw [hE.2.2.2.2.2.2.1]
      have := hm.2.2.2
      simp only [gRm]
      omega
  exact gRun hE is his hP hD hS hl (va_runIN (As := As) (rest := rest) hE.1 (hC H.size) ⟨hcn, hy, hE.ts _ hin⟩ ⟨gBlind, gPre hE hP hD is his hnd⟩ rfl hna hl.1 rfl (lv_room hrest) hd (by rw [hE.2.2.2.2.2.2.1]; exact hcs)) hb
theorem g_callIX (hE : gOK E D T y cc nL ret lev mc ms win post) (hN : va_Nw wNest E.s) {index b na : Nat} {As rest : List Value} (hC : ConN l D T y2 cc2 nL2 none lev2 mc2 ms2 (.ref b :: As) wc post2) (hm : gM y2 cc2 nL2 none na) (hlk : Cond.methodLink y.cls index y2 ∈ gTbl) (hin : Cond.instanceMethod y2 ∈ gTbl) (hy : y2.name = "<init>")
    (hlev : lev2 + 1 ≤ lev) (hna : As.length = na) (hcs : n + mc2 ≤ mc ∧ k + ms2 ≤ ms) (is : List Nat) (his : is.map (fun i => ws[i]?) = wc.map some) (hnd : va_nd is = true)
    (hst : st = As.reverse ++ .ref b :: rest) (hrest : (rest.map fun v => v.category).sum ≤ 8) (hd : decode cc pc = .ok (.invokespecial index, 3)) (hp : pc + 3 = pc') (hb : gBack l E D nL n k ws wc lv pc' rest mc2 ms2 post2) : G l E D nL n k ws lv pc st := by
  subst hp
  subst hst
  intro H locs ls hP hD hS hl
  exact gRun hE is his hP hD hS hl (va_runI (As := As) (rest := rest) hE.1 (hC H.size) ⟨gCallB hE hm hlk hlev, hy, hE.ts _ hin⟩ ⟨nBlind, fun U hU hW => by
    obtain ⟨q0, q1, q2, q3, q4⟩ := gPre (av := .ref b :: As) hE hP hD is his hnd U hU hW
    exact ⟨q0, q1, q2, q3, q4, hN.warmM hW⟩⟩ rfl hna hl.1 rfl (lv_room hrest) hd (by rw [hE.2.2.2.2.2.2.1]; exact hcs)) hb
end GNest
