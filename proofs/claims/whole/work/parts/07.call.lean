/-! THE LAYER G: calls -/
def gSet : va_W → List Nat → va_W → va_W
  | ws, i :: is, q :: w => gSet (ws.set i q) is w
  | ws, _, _ => ws
theorem gSet_get : ∀ (is : List Nat) (w ws : va_W), is.length = w.length → ∀ (j : Nat) (q : Nat × va_E), (gSet ws is w)[j]? = some q → (∃ i : Nat, is[i]? = some j ∧ w[i]? = some q) ∨ (ws[j]? = some q ∧ j ∉ is)
  | [], [], ws, _, j, q, h => Or.inr ⟨h, List.not_mem_nil⟩
  | [], _ :: _, _, h0, _, _, _ => by simp at h0
  | _ :: _, [], _, h0, _, _, _ => by simp at h0
  | i :: is, x :: w, ws, h0, j, q, h => by
    rcases gSet_get is w (ws.set i x) (by simpa using h0) j q h with ⟨t, h1, h2⟩ | ⟨h1, h2⟩
    · exact Or.inl ⟨t + 1, by simpa using h1, by simpa using h2⟩
    · rw [List.getElem?_set] at h1
      split at h1
      next hij =>
        split at h1
        next => cases h1; exact Or.inl ⟨0, by simp [hij], rfl⟩
        next => cases h1
      next hij => exact Or.inr ⟨h1, by simp only [List.mem_cons, not_or]; exact ⟨fun z => hij z.symm, h2⟩⟩
section GCall
variable {l : Launch} {E : gEnv} {D : va_G} {T : Nat → ClassId} {y : MethodName} {cc : ByteArray} {nL : Nat} {ret : Option FieldType} {lev mc ms : Nat} {win : va_W} {post : Option Value → va_W → Prop}
variable {n k : Nat} {ws : va_W} {lv : List (Nat × Value)} {pc pc' : Nat} {st : List Value}
variable {y2 : MethodName} {cc2 : ByteArray} {nL2 : Nat} {ret2 : Option FieldType} {lev2 mc2 ms2 : Nat} {wc : va_W} {post2 : Option Value → va_W → Prop} {av : List Value}
/-- what the tables say of a method that is called: its words are there; how many parameters; its locals are few -/
abbrev gM (y2 : MethodName) (cc2 : ByteArray) (nL2 : Nat) (ret2 : Option FieldType) (na : Nat) : Prop :=
  Cond.code y2 cc2 nL2 ret2 ∈ gTbl ∧ Cond.initialized y2.cls ∈ gTbl ∧ (y2.cls ≠ "java/lang/invoke/MethodHandle" ∧ y2.cls ≠ "java/lang/invoke/VarHandle" ∧ (parseMethodDescriptor y2.desc).map (fun d => d.parameters.length) = some na) ∧ nL2 ≤ 15
theorem gCallB (hE : gOK E D T y cc nL ret lev mc ms win post) {na index : Nat} (hm : gM y2 cc2 nL2 ret2 na) (hlk : Cond.methodLink y.cls index y2 ∈ gTbl) (hlev : lev2 + 1 ≤ lev) : CallB E.R E.s E.args y.cls index y2 cc2 nL2 ret2 (Cond.code y2 cc2 nL2 ret2 :: gTbl) (gRm lev2 mc2 ms2) mc2 ms2 na := by
  refine callB_of na hE.ts (fun w hw => ?_) rfl rfl rfl (hE.ts _ hm.2.1) (hE.ts _ hlk) hm.2.2.1 ?_
  · rcases List.mem_cons.mp hw with rfl | hw
    · exact ⟨hm.1, g_good _ hm.1⟩
    · exact ⟨hw, g_good _ hw⟩
  · rw [hE.2.2.2.2.2.2.1]
    have := hm.2.2.2
    simp only [gRm]
    omega
theorem gBlind {sz : Nat} : FrameBlind (va_Pc av (fun U => U.heap.size = sz ∧ va_P D vwCl wc U.heap ∧ va_K D vwCl (gTys T) U ∧ va_D (fun _ => True) wc)) := fun a U g mk q => by
  obtain ⟨q0, q1, qP, qK, qD⟩ := q
  exact ⟨q0, q1, qP, va_K.moved (u := U) (U := U.calling g mk a) (Vm.Alike.refl U.vm) qK, qD⟩
theorem gPre (hE : gOK E D T y cc nL ret lev mc ms win post) {H : Heap} (hP : va_P D vwCl ws H) (hD : va_D E.A ws) (is : List Nat) (his : is.map (fun i => ws[i]?) = wc.map some) (hnd : va_nd is = true) :
    ∀ U : State, U.heap = H → E.s.WarmedH U.vm → va_Pc av (fun U => U.heap.size = H.size ∧ va_P D vwCl wc U.heap ∧ va_K D vwCl (gTys T) U ∧ va_D (fun _ => True) wc) av.toArray U := fun U hU hW => by
  refine ⟨rfl, by rw [hU], ?_, va_K.moved hW.alike hE.K, (hD.sub is hnd his).weaken (fun _ _ _ _ => trivial)⟩
  rw [hU]
  intro j q hq
  have h1 : (is.map (fun i => ws[i]?))[j]? = some (some q) := by rw [his, List.getElem?_map, hq]; rfl
  rw [List.getElem?_map] at h1
  cases hi : is[j]? with
  | none => rw [hi] at h1; cases h1
  | some i => rw [hi] at h1; exact hP i q (Option.some.inj h1)
/-- behind a call: what came back, and what stays -/
def gBack (l : Launch) (E : gEnv) (D : va_G) (nL n k : Nat) (ws wc : va_W) (lv : List (Nat × Value)) (pc' : Nat) (rest : List Value) (mc2 ms2 : Nat) (post2 : Option Value → va_W → Prop) : Prop :=
  ∀ (v : Option Value) (w1 : va_W), post2 v w1 → ∀ (H H1 : Heap) (locs1 : List Loc) (ls : Array Slot), va_P D vwCl ws H → va_D E.A ws → va_P D vwCl w1 H1 → va_D (va_A wc H.size) w1 → (∀ q : Nat, q < H.size → ¬ va_A wc H.size q → H1[q]? = H[q]?) → (∀ q, va_A wc H.size q → E.A q) → va_S E.A E.s.heap H1 locs1 → lv_has ls nL lv →
    W E.p l E.e E.R E.s E.m E.args E.below E.meth E.c H1 locs1 (n + mc2) (k + ms2) E.Q (F0 E.m pc' ls (v.toList ++ rest))
theorem gRun (hE : gOK E D T y cc nL ret lev mc ms win post) {rest st0 : List Value} {a : Array Value} (is : List Nat) (his : is.map (fun i => ws[i]?) = wc.map some)
    {H : Heap} {locs : List Loc} {ls : Array Slot} (hP : va_P D vwCl ws H) (hD : va_D E.A ws) (hS : va_S E.A E.s.heap H locs) (hl : lv_has ls nL lv)
    (hr : va_Run E.p l E.e E.R E.s E.m E.args E.below E.meth E.c H locs n k mc2 ms2 (F0 E.m pc ls st0) rest (gQ D T post2 (va_A wc H.size) a) (va_A wc H.size))
    (hb : gBack l E D nL n k ws wc lv (pc + 3) rest mc2 ms2 post2) : W E.p l E.e E.R E.s E.m E.args E.below E.meth E.c H locs n k E.Q (F0 E.m pc ls st0) := by
  have hF := va_free (wc := wc) hD hS hE.hA is his
  intro T hT X
  obtain ⟨v, st₀, t, T', L, h0, X', hL, e1, e2, ⟨⟨v', w1, hv, hp, hP1, -, hD1⟩, hz, hk⟩, stp⟩ := hr T hT X
  cases hv
  rw [h0] at hz hk
  obtain ⟨t2, a1, b1⟩ := hb v w1 hp H T'.heap (locs ++ L) ls hP hD (by rw [e1]; exact hP1) hD1 (fun q h1 h2 => by rw [e1]; exact hk q h1 h2) hF
    ⟨Nat.le_trans hS.1 (by rw [e1]; exact hz), fun q h1 h2 => by rw [e1, hk q (Nat.lt_of_lt_of_le h1 hS.1) (fun z => h2 (hF q z))]; exact hS.2.1 q h1 h2, fun q hq => by
      rcases List.mem_append.mp hq with h | h
      · exact hS.2.2 q h
      · exact hF _ (hL q h)⟩ hl T' rfl X'
  exact ⟨t2, stp t2 a1, b1⟩
theorem g_callV (hE : gOK E D T y cc nL ret lev mc ms win post) {index b ci na N : Nat} {As rest fs : List Value} {U : u_T} (hC : Con l D T y2 cc2 nL2 ret2 lev2 mc2 ms2 (.ref b :: As) wc post2) (hm : gM y2 cc2 nL2 ret2 na) (hlk : Cond.methodLink y.cls index y2 ∈ gTbl) (hin : Cond.instanceMethod y2 ∈ gTbl) (hsel : Cond.selects y2.cls y2 y2 ∈ gTbl)
    (hlev : lev2 + 1 ≤ lev) (hna : As.length = na) (hcs : n + mc2 ≤ mc ∧ k + ms2 ≤ ms) (q0 : Nat) (he : ws[q0]? = some (b, .inr (ci, fs))) (hc : vwCl[ci]? = some (y2.cls, U, N)) (is : List Nat) (his : is.map (fun i => ws[i]?) = wc.map some) (hnd : va_nd is = true)
    (hst : st = As.reverse ++ .ref b :: rest) (hrest : (rest.map fun v => v.category).sum ≤ 8) (hd : decode cc pc = .ok (.invokevirtual index, 3)) (hp : pc + 3 = pc') (hb : gBack l E D nL n k ws wc lv pc' rest mc2 ms2 post2) : G l E D nL n k ws lv pc st := by
  subst hp
  subst hst
  intro H locs ls hP hD hS hl
  refine gRun hE is his hP hD hS hl (va_runV (C := y2.cls) (As := As) (rest := rest) hE.1 (hC H.size) ⟨gCallB hE hm hlk hlev, hE.ts _ hin, hE.ts _ hsel⟩ ⟨gBlind, va_recv hE.K hP hc he, gPre hE hP hD is his hnd⟩ rfl hna hl.1 rfl (lv_room hrest) hd (by rw [hE.2.2.2.2.2.2.1]; exact hcs)) hb
theorem g_callS (hE : gOK E D T y cc nL ret lev mc ms win post) {index na : Nat} {As rest : List Value} (hC : Con l D T y2 cc2 nL2 ret2 lev2 mc2 ms2 As wc post2) (hm : gM y2 cc2 nL2 ret2 na) (hlk : Cond.methodLink y.cls index y2 ∈ gTbl) (hstc : Cond.static y2 ∈ gTbl)
    (hlev : lev2 + 1 ≤ lev) (hna : As.length = na) (hcs : n + mc2 ≤ mc ∧ k + ms2 ≤ ms) (is : List Nat) (his : is.map (fun i => ws[i]?) = wc.map some) (hnd : va_nd is = true)
    (hst : st = As.reverse ++ rest) (hrest : (rest.map fun v => v.category).sum ≤ 8) (hd : decode cc pc = .ok (.invokestatic index, 3)) (hp : pc + 3 = pc') (hb : gBack l E D nL n k ws wc lv pc' rest mc2 ms2 post2) : G l E D nL n k ws lv pc st := by
  subst hp
  subst hst
  intro H locs ls hP hD hS hl
  refine gRun hE is his hP hD hS hl (va_runS (As := As) (rest := rest) hE.1 (hC H.size) ⟨gCallB hE hm hlk hlev, hE.ts _ hstc⟩ ⟨gBlind, gPre hE hP hD is his hnd⟩ rfl hna hl.1 rfl (lv_room hrest) hd (by rw [hE.2.2.2.2.2.2.1]; exact hcs)) hb
theorem g_callI (hE : gOK E D T y cc nL ret lev mc ms win post) {index b na : Nat} {As rest : List Value} (hC : Con l D T y2 cc2 nL2 none lev2 mc2 ms2 (.ref b :: As) wc post2) (hm : gM y2 cc2 nL2 none na) (hlk : Cond.methodLink y.cls index y2 ∈ gTbl) (hin : Cond.instanceMethod y2 ∈ gTbl) (hy : y2.name = "<init>")
    (hlev : lev2 + 1 ≤ lev) (hna : As.length = na) (hcs : n + mc2 ≤ mc ∧ k + ms2 ≤ ms) (is : List Nat) (his : is.map (fun i => ws[i]?) = wc.map some) (hnd : va_nd is = true)
    (hst : st = As.reverse ++ .ref b :: rest) (hrest : (rest.map fun v => v.category).sum ≤ 8) (hd : decode cc pc = .ok (.invokespecial index, 3)) (hp : pc + 3 = pc') (hb : gBack l E D nL n k ws wc lv pc' rest mc2 ms2 post2) : G l E D nL n k ws lv pc st := by
  subst hp
  subst hst
  intro H locs ls hP hD hS hl
  refine gRun hE is his hP hD hS hl (va_runI (As := As) (rest := rest) hE.1 (hC H.size) ⟨gCallB hE hm hlk hlev, hy, hE.ts _ hin⟩ ⟨gBlind, gPre hE hP hD is his hnd⟩ rfl hna hl.1 rfl (lv_room hrest) hd (by rw [hE.2.2.2.2.2.2.1]; exact hcs)) hb
/-- the callee's cells keep their places -/
theorem gBackU {rest : List Value} (is : List Nat) (his : is.map (fun i => ws[i]?) = wc.map some) (hsame : ∀ v w1, post2 v w1 → w1.map Prod.fst = wc.map Prod.fst)
    (kk : ∀ v w1, post2 v w1 → G l E D nL (n + mc2) (k + ms2) (gSet ws is w1) lv pc' (v.toList ++ rest)) : gBack l E D nL n k ws wc lv pc' rest mc2 ms2 post2 := by
  intro v w1 hp H H1 locs1 ls hP hD hP1 hD1 hk hF hS hl
  have hs := hsame v w1 hp
  have hlen : is.length = wc.length := by have := congrArg List.length his; simpa using this
  have hlen1 : is.length = w1.length := by have := congrArg List.length hs; simp at this; omega
  have hat : ∀ (i : Nat) (q : Nat × va_E), wc[i]? = some q → ∃ j, is[i]? = some j ∧ ws[j]? = some q := by
    intro i q hq
    have h1 : (is.map (fun i => ws[i]?))[i]? = some (some q) := by rw [his, List.getElem?_map, hq]; rfl
    rw [List.getElem?_map] at h1
    cases hi : is[i]? with
    | none => rw [hi] at h1; cases h1
    | some j => rw [hi] at h1; exact ⟨j, rfl, Option.some.inj h1⟩
  have hfst : ∀ (i : Nat) (q : Nat × va_E), w1[i]? = some q → ∃ e, wc[i]? = some (q.1, e) := by
    intro i q hq
    have h1 : (w1.map Prod.fst)[i]? = some q.1 := by rw [List.getElem?_map, hq]; rfl
    rw [hs, List.getElem?_map] at h1
    cases hi : wc[i]? with
    | none => rw [hi] at h1; cases h1
    | some z => rw [hi] at h1; have h9 : z.1 = q.1 := Option.some.inj h1; exact ⟨z.2, by rw [← h9]⟩
  have hout : ∀ (j : Nat) (q : Nat × va_E), ws[j]? = some q → j ∉ is → ¬ va_A wc H.size q.1 := by
    intro j q hq hj hA
    rcases hA with ⟨i, e, hi⟩ | hge
    · obtain ⟨j2, h1, h2⟩ := hat i _ hi
      have := hD.1 j j2 q (q.1, e) hq h2 rfl
      subst this
      exact hj (List.mem_of_getElem? h1)
    · have := (hP j q hq).lt
      omega
  refine kk v w1 hp H1 locs1 ls (fun j q hq => ?_) ⟨fun i j p q hp2 hq hpq => ?_, fun j q hq => ?_⟩ hS hl
  · rcases gSet_get is w1 ws hlen1 j q hq with ⟨i, -, h2⟩ | ⟨h1, h2⟩
    · exact hP1 i q h2
    · exact (hP j q h1).kept (hk q.1 (hP j q h1).lt (hout j q h1 h2))
  · rcases gSet_get is w1 ws hlen1 i p hp2 with ⟨i1, a1, a2⟩ | ⟨a1, a2⟩ <;> rcases gSet_get is w1 ws hlen1 j q hq with ⟨i2, b1, b2⟩ | ⟨b1, b2⟩
    · have := hD1.1 i1 i2 p q a2 b2 hpq
      subst this
      exact Option.some.inj (a1.symm.trans b1)
    · obtain ⟨e1, c1⟩ := hfst i1 p a2
      exact absurd (Or.inl ⟨i1, e1, by rw [← hpq]; exact c1⟩) (hout j q b1 b2)
    · obtain ⟨e1, c1⟩ := hfst i2 q b2
      exact absurd (Or.inl ⟨i2, e1, by rw [hpq]; exact c1⟩) (hout i p a1 a2)
    · exact hD.1 i j p q a1 b1 hpq
  · rcases gSet_get is w1 ws hlen1 j q hq with ⟨i, -, h2⟩ | ⟨h1, h2⟩
    · exact hF _ (hD1.2 i q h2)
    · exact hD.2 j q h1
/-- a callee that only reads -/
theorem gBackR {rest : List Value} {rp : Option Value → Prop} (is : List Nat) (his : is.map (fun i => ws[i]?) = wc.map some)
    (kk : ∀ v, rp v → G l E D nL n k ws lv pc' (v.toList ++ rest)) : gBack l E D nL n k ws wc lv pc' rest 0 0 (fun v w1 => w1 = wc ∧ rp v) := by
  intro v w1 hp H H1 locs1 ls hP hD hP1 hD1 hk hF hS hl
  obtain ⟨rfl, hp⟩ := hp
  have hat : ∀ (i : Nat) (q : Nat × va_E), w1[i]? = some q → ∃ j, is[i]? = some j ∧ ws[j]? = some q := by
    intro i q hq
    have h1 : (is.map (fun i => ws[i]?))[i]? = some (some q) := by rw [his, List.getElem?_map, hq]; rfl
    rw [List.getElem?_map] at h1
    cases hi : is[i]? with
    | none => rw [hi] at h1; cases h1
    | some j => rw [hi] at h1; exact ⟨j, rfl, Option.some.inj h1⟩
  refine kk v hp H1 locs1 ls (fun j q hq => ?_) hD hS hl
  by_cases hA : va_A w1 H.size q.1
  · rcases hA with ⟨i, e, hi⟩ | hge
    · obtain ⟨j2, h1, h2⟩ := hat i _ hi
      have := hD.1 j j2 q (q.1, e) hq h2 rfl
      subst this
      have hqe : q = (q.1, e) := Option.some.inj (hq.symm.trans h2)
      have h3 := hP1 i _ hi
      rw [hqe]
      exact h3
    · have := (hP j q hq).lt
      omega
  · exact (hP j q hq).kept (hk q.1 (hP j q hq).lt hA)
/-- the callee's cells come behind the others, and new ones with them -/
theorem gBackN {rest : List Value} {wr : va_W} (is isR : List Nat) (his : is.map (fun i => ws[i]?) = wc.map some) (hR : isR.map (fun i => ws[i]?) = wr.map some) (hn : va_nd isR = true) (hdis : ∀ i ∈ isR, i ∉ is)
    (kk : ∀ v w1, post2 v w1 → G l E D nL (n + mc2) (k + ms2) (wr ++ w1) lv pc' (v.toList ++ rest)) : gBack l E D nL n k ws wc lv pc' rest mc2 ms2 post2 := by
  intro v w1 hp H H1 locs1 ls hP hD hP1 hD1 hk hF hS hl
  obtain ⟨hP2, hD2⟩ := va_join hP hD is isR his hR hn hdis hk hF hP1 hD1
  exact kk v w1 hp H1 locs1 ls hP2 hD2 hS hl
end GCall
