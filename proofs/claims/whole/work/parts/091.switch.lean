/-! THE LAYER G: switches over a number that is a Nat -/
section GSwitch
variable {l : Launch} {E : gEnv} {D : va_G} {T : Nat → ClassId} {y : MethodName} {cc : ByteArray} {nL : Nat} {ret : Option FieldType} {lev mc ms : Nat} {win : va_W} {post : Option Value → va_W → Prop}
variable {n k : Nat} {ws : va_W} {lv : List (Nat × Value)} {pc pc' : Nat} {st : List Value}
theorem g_tabIn (hE : gOK E D T y cc nL ret lev mc ms win post) {dflt lo hi off : Int} {offs : Array Int} {len a tgt : Nat} (j : Nat) (hj : a = j) (hjb : j < 2 ^ 31) (h1 : ¬ (j : Int) < lo) (h2 : ¬ hi < (j : Int)) (hd : decode cc pc = .ok (.tableswitch dflt lo hi offs, len)) (ho : offs[((j : Int) - lo).toNat]? = some off) (ht : (pc : Int) + off = (tgt : Int))
    (kk : G l E D nL n k ws lv tgt st) : G l E D nL n k ws lv pc (.int (nI a) :: st) := by
  subst hj
  have e := nI_toInt hjb
  exact fun H locs ls hP hD hS hl => lv_tableIn hE.x hE.b hd (by rw [e]; exact h1) (by rw [e]; exact h2) (by rw [e]; exact ho) ht (kk H locs ls hP hD hS hl)
theorem g_tabOut (hE : gOK E D T y cc nL ret lev mc ms win post) {dflt lo hi : Int} {offs : Array Int} {len a tgt : Nat} (ha : a < 2 ^ 31) (h : (a : Int) < lo ∨ hi < (a : Int)) (hd : decode cc pc = .ok (.tableswitch dflt lo hi offs, len)) (ht : (pc : Int) + dflt = (tgt : Int))
    (kk : G l E D nL n k ws lv tgt st) : G l E D nL n k ws lv pc (.int (nI a) :: st) := by
  have e := nI_toInt ha
  exact fun H locs ls hP hD hS hl => lv_tableOut hE.x hE.b hd (by rw [e]; exact h) ht (kk H locs ls hP hD hS hl)
theorem g_lookup (hE : gOK E D T y cc nL ret lev mc ms win post) {dflt off : Int} {ps : Array (Int × Int)} {len a tgt : Nat} (ha : a < 2 ^ 31) (hd : decode cc pc = .ok (.lookupswitch dflt ps, len)) (hs : (ps.toList.zip (ps.toList.drop 1)).all (fun (a, next) => a.1 < next.1) = true) (ho : Op.lookupswitch.offset ps.toList dflt (a : Int) = off) (ht : (pc : Int) + off = (tgt : Int))
    (kk : G l E D nL n k ws lv tgt st) : G l E D nL n k ws lv pc (.int (nI a) :: st) := by
  have e := nI_toInt ha
  exact fun H locs ls hP hD hS hl => lv_lookup hE.x hE.b hd hs (by rw [e]; exact ho) ht (kk H locs ls hP hD hS hl)
/-- the same over any number -/
theorem g_tabInR (hE : gOK E D T y cc nL ret lev mc ms win post) {dflt lo hi off : Int} {offs : Array Int} {len tgt : Nat} {x : Int32} (j : Int) (hj : x.toInt = j) (h1 : ¬ j < lo) (h2 : ¬ hi < j) (hd : decode cc pc = .ok (.tableswitch dflt lo hi offs, len)) (ho : offs[(j - lo).toNat]? = some off) (ht : (pc : Int) + off = (tgt : Int))
    (kk : G l E D nL n k ws lv tgt st) : G l E D nL n k ws lv pc (.int x :: st) := by
  subst hj
  exact fun H locs ls hP hD hS hl => lv_tableIn hE.x hE.b hd h1 h2 ho ht (kk H locs ls hP hD hS hl)
theorem g_tabOutR (hE : gOK E D T y cc nL ret lev mc ms win post) {dflt lo hi : Int} {offs : Array Int} {len tgt : Nat} {x : Int32} (h : x.toInt < lo ∨ hi < x.toInt) (hd : decode cc pc = .ok (.tableswitch dflt lo hi offs, len)) (ht : (pc : Int) + dflt = (tgt : Int))
    (kk : G l E D nL n k ws lv tgt st) : G l E D nL n k ws lv pc (.int x :: st) :=
  fun H locs ls hP hD hS hl => lv_tableOut hE.x hE.b hd h ht (kk H locs ls hP hD hS hl)
end GSwitch
