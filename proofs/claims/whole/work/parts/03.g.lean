/-! THE LAYER G: a state of a walk as data (world, locals, pc, stack) with heap, locals array and written places bound inside. A row an instruction, over numbers that are Nats where they can be. -/
section GLayer
abbrev gEnv : Type := Program × Env × Room × State × MethodId × Array Value × List Frame × Method × Code × (State → Prop) × (Nat → Prop)
abbrev gEnv.p (E : gEnv) : Program := E.1
abbrev gEnv.e (E : gEnv) : Env := E.2.1
abbrev gEnv.R (E : gEnv) : Room := E.2.2.1
abbrev gEnv.s (E : gEnv) : State := E.2.2.2.1
abbrev gEnv.m (E : gEnv) : MethodId := E.2.2.2.2.1
abbrev gEnv.args (E : gEnv) : Array Value := E.2.2.2.2.2.1
abbrev gEnv.below (E : gEnv) : List Frame := E.2.2.2.2.2.2.1
abbrev gEnv.meth (E : gEnv) : Method := E.2.2.2.2.2.2.2.1
abbrev gEnv.c (E : gEnv) : Code := E.2.2.2.2.2.2.2.2.1
abbrev gEnv.Q (E : gEnv) : State → Prop := E.2.2.2.2.2.2.2.2.2.1
abbrev gEnv.A (E : gEnv) : Nat → Prop := E.2.2.2.2.2.2.2.2.2.2
/-- the kinds of array: int, long, boolean -/
abbrev gTys (T : Nat → ClassId) : List (ClassId × FieldType) := [(T 0, .int), (T 1, .long), (T 2, .boolean)]
/-- the room of a method whose calls nest at most lev deep, with at most 15 locals each; at 10 it is the claim's own -/
abbrev gRm (lev mc ms : Nat) : Room := { frames := lev, cells := mc, slots := ms, locals := 34 * lev + 16 }
def gQ (D : va_G) (T : Nat → ClassId) (post : Option Value → va_W → Prop) (A : Nat → Prop) : Array Value → State → Outcome → State → Prop := fun _ st oc t =>
  (∃ (v : Option Value) (w1 : va_W), oc = .returned v ∧ post v w1 ∧ va_P D vwCl w1 t.heap ∧ va_K D vwCl (gTys T) t ∧ va_D A w1) ∧ va_F A st t
/-- a contract: from the arguments av and the world win: an answer v and a world w1 with post v w1; nothing else changed -/
def Con (l : Launch) (D : va_G) (T : Nat → ClassId) (y : MethodName) (cc : ByteArray) (nL : Nat) (ret : Option FieldType) (lev mc ms : Nat) (av : List Value) (win : va_W) (post : Option Value → va_W → Prop) : Prop :=
  ∀ sz : Nat, Met l y (Cond.code y cc nL ret :: gTbl) (gRm lev mc ms) (va_Pc av (fun U => U.heap.size = sz ∧ va_P D vwCl win U.heap ∧ va_K D vwCl (gTys T) U ∧ va_D (fun _ => True) win)) (gQ D T post (va_A win sz)) mc ms (va_A win sz)
/-- what stays the same over a method's walk -/
def gOK (E : gEnv) (D : va_G) (T : Nat → ClassId) (y : MethodName) (cc : ByteArray) (nL : Nat) (ret : Option FieldType) (lev mc ms : Nat) (win : va_W) (post : Option Value → va_W → Prop) : Prop :=
  CallFix E.p E.m E.c cc nL E.s E.args gTbl y.cls ∧ va_K D vwCl (gTys T) E.s ∧ (∀ q : Nat, E.s.heap.size ≤ q → E.A q) ∧ (∀ t, MQ E.below (gQ D T post E.A) E.args E.s mc ms E.A t → E.Q t) ∧ E.meth.sig.returnType = ret ∧ E.meth.locks = false ∧ E.R = gRm lev mc ms ∧ E.meth.name = y.name
def G (l : Launch) (E : gEnv) (D : va_G) (nL n k : Nat) (ws : va_W) (lv : List (Nat × Value)) (pc : Nat) (st : List Value) : Prop :=
  ∀ (H : Heap) (locs : List Loc) (ls : Array Slot), va_P D vwCl ws H → va_D E.A ws → va_S E.A E.s.heap H locs → lv_has ls nL lv → W E.p l E.e E.R E.s E.m E.args E.below E.meth E.c H locs n k E.Q (F0 E.m pc ls st)
variable {l : Launch} {E : gEnv} {D : va_G} {T : Nat → ClassId} {y : MethodName} {cc : ByteArray} {nL : Nat} {ret : Option FieldType} {lev mc ms : Nat} {win : va_W} {post : Option Value → va_W → Prop}
variable {n k : Nat} {ws : va_W} {lv : List (Nat × Value)} {pc pc' : Nat} {st : List Value}
theorem Con.of {av : List Value} (hy : plainName y.cls = true) (hlen : (lg_sl av).length ≤ nL) (body : ∀ E : gEnv, gOK E D T y cc nL ret lev mc ms win post → G l E D nL 0 0 win (lv_args 0 av) 0 []) : Con l D T y cc nL ret lev mc ms av win post := by
  intro sz
  refine Met.ofW (cc := cc) (maxL := nL) (ret := ret) hy rfl ?_
  intro p e s m args below meth c s₁ B hml hv
  obtain ⟨rfl, hsz, hP, hK, hD0⟩ := hv
  have hts := atoms_spec (ws := Cond.code y cc nL ret :: gTbl) B.pre
  have hown : s.vm.findClass y.cls = some m.cls := findClass_of_methodNamed B.named
  subst hsz
  have hD := hD0.self (sz := s.heap.size)
  have hl := lv_entry av (n := nL) hlen
  rw [lg_entry_eq]
  exact body (p, e, gRm lev mc ms, s, m, av.toArray, below, meth, c, MQ below (gQ D T post (va_A win s.heap.size)) av.toArray s mc ms (va_A win s.heap.size), va_A win s.heap.size)
    ⟨⟨B.exec, B.bytes, hml, hown, fun w h => hts w (List.mem_cons_of_mem _ h)⟩, hK, fun q h => Or.inr h, fun _ h => h, B.returns, B.notSynchronized, rfl, (name_of_methodNamed B.named B.method).1⟩
    s.heap [] _ hP hD va_S.rf hl
-- what a row needs of gOK
theorem gOK.x (h : gOK E D T y cc nL ret lev mc ms win post) : E.p.tables.exec = Jvm.exec := h.1.1
theorem gOK.b (h : gOK E D T y cc nL ret lev mc ms win post) : E.c.code = cc := h.1.2.1
theorem gOK.own (h : gOK E D T y cc nL ret lev mc ms win post) : E.s.vm.findClass y.cls = some E.m.cls := h.1.2.2.2.1
theorem gOK.ts (h : gOK E D T y cc nL ret lev mc ms win post) : ∀ w ∈ gTbl, w.before E.args E.s = true := h.1.2.2.2.2
theorem gOK.K (h : gOK E D T y cc nL ret lev mc ms win post) : va_K D vwCl (gTys T) E.s := h.2.1
theorem gOK.hA (h : gOK E D T y cc nL ret lev mc ms win post) : ∀ q : Nat, E.s.heap.size ≤ q → E.A q := h.2.2.1
/-- another list that is the same -/
theorem g_w {ws' : va_W} (h : ws = ws') (kk : G l E D nL n k ws' lv pc st) : G l E D nL n k ws lv pc st := h ▸ kk
theorem g_st {st' : List Value} (h : st = st') (kk : G l E D nL n k ws lv pc st') : G l E D nL n k ws lv pc st := h ▸ kk
theorem g_lv {lv' : List (Nat × Value)} (is : List Nat) (h : lv_pick lv is = lv') (kk : G l E D nL n k ws lv' pc st) : G l E D nL n k ws lv pc st := fun H locs ls hP hD hS hl => kk H locs ls hP hD hS (lv_sub hl is h)
theorem g_sub {ws' : va_W} (is : List Nat) (h : is.map (fun i => ws[i]?) = ws'.map some) (hn : va_nd is = true) (kk : G l E D nL n k ws' lv pc st) : G l E D nL n k ws lv pc st := by
  intro H locs ls hP hD hS hl
  refine kk H locs ls (fun j q hq => ?_) (hD.sub is hn h) hS hl
  have h1 : (is.map (fun i => ws[i]?))[j]? = some (some q) := by rw [h, List.getElem?_map, hq]; rfl
  rw [List.getElem?_map] at h1
  cases hi : is[j]? with
  | none => rw [hi] at h1; cases h1
  | some i => rw [hi] at h1; exact hP i q (Option.some.inj h1)
theorem g_lvw {lv' : List (Nat × Value)} (h : lv = lv') (kk : G l E D nL n k ws lv' pc st) : G l E D nL n k ws lv pc st := h ▸ kk
theorem g_eqi {x x' : Int32} (h : x = x') (kk : G l E D nL n k ws lv pc (.int x' :: st)) : G l E D nL n k ws lv pc (.int x :: st) := h ▸ kk
theorem g_eql {x x' : Int64} (h : x = x') (kk : G l E D nL n k ws lv pc (.long x' :: st)) : G l E D nL n k ws lv pc (.long x :: st) := h ▸ kk
theorem g_widen {n' k' : Nat} (h1 : n ≤ n') (h2 : k ≤ k') (kk : G l E D nL n' k' ws lv pc st) : G l E D nL n k ws lv pc st := fun H locs ls hP hD hS hl => W.widen h1 h2 (kk H locs ls hP hD hS hl)
end GLayer
