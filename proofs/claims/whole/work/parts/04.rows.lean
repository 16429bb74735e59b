section GRows
variable {l : Launch} {E : gEnv} {D : va_G} {T : Nat → ClassId} {y : MethodName} {cc : ByteArray} {nL : Nat} {ret : Option FieldType} {lev mc ms : Nat} {win : va_W} {post : Option Value → va_W → Prop}
variable {n k : Nat} {ws : va_W} {lv : List (Nat × Value)} {pc pc' : Nat} {st : List Value}
theorem g_iadd (hE : gOK E D T y cc nL ret lev mc ms win post) {x z : Int32} (hd : decode cc pc = .ok (.iadd, 1)) (hp : pc + 1 = pc') (kk : G l E D nL n k ws lv pc' (.int (x + z) :: st)) : G l E D nL n k ws lv pc (.int z :: .int x :: st) := by
  subst hp
  exact fun H locs ls hP hD hS hl => lv_iadd hE.x hE.b hd (kk H locs ls hP hD hS hl)
theorem g_isub (hE : gOK E D T y cc nL ret lev mc ms win post) {x z : Int32} (hd : decode cc pc = .ok (.isub, 1)) (hp : pc + 1 = pc') (kk : G l E D nL n k ws lv pc' (.int (x - z) :: st)) : G l E D nL n k ws lv pc (.int z :: .int x :: st) := by
  subst hp
  exact fun H locs ls hP hD hS hl => lv_isub hE.x hE.b hd (kk H locs ls hP hD hS hl)
theorem g_imul (hE : gOK E D T y cc nL ret lev mc ms win post) {x z : Int32} (hd : decode cc pc = .ok (.imul, 1)) (hp : pc + 1 = pc') (kk : G l E D nL n k ws lv pc' (.int (x * z) :: st)) : G l E D nL n k ws lv pc (.int z :: .int x :: st) := by
  subst hp
  exact fun H locs ls hP hD hS hl => lv_imul hE.x hE.b hd (kk H locs ls hP hD hS hl)
theorem g_iand (hE : gOK E D T y cc nL ret lev mc ms win post) {x z : Int32} (hd : decode cc pc = .ok (.iand, 1)) (hp : pc + 1 = pc') (kk : G l E D nL n k ws lv pc' (.int (x &&& z) :: st)) : G l E D nL n k ws lv pc (.int z :: .int x :: st) := by
  subst hp
  exact fun H locs ls hP hD hS hl => lv_iand hE.x hE.b hd (kk H locs ls hP hD hS hl)
theorem g_ior (hE : gOK E D T y cc nL ret lev mc ms win post) {x z : Int32} (hd : decode cc pc = .ok (.ior, 1)) (hp : pc + 1 = pc') (kk : G l E D nL n k ws lv pc' (.int (x ||| z) :: st)) : G l E D nL n k ws lv pc (.int z :: .int x :: st) := by
  subst hp
  exact fun H locs ls hP hD hS hl => lv_ior hE.x hE.b hd (kk H locs ls hP hD hS hl)
theorem g_ixor (hE : gOK E D T y cc nL ret lev mc ms win post) {x z : Int32} (hd : decode cc pc = .ok (.ixor, 1)) (hp : pc + 1 = pc') (kk : G l E D nL n k ws lv pc' (.int (x ^^^ z) :: st)) : G l E D nL n k ws lv pc (.int z :: .int x :: st) := by
  subst hp
  exact fun H locs ls hP hD hS hl => lv_ixor hE.x hE.b hd (kk H locs ls hP hD hS hl)
theorem g_ladd (hE : gOK E D T y cc nL ret lev mc ms win post) {x z : Int64} (hd : decode cc pc = .ok (.ladd, 1)) (hp : pc + 1 = pc') (kk : G l E D nL n k ws lv pc' (.long (x + z) :: st)) : G l E D nL n k ws lv pc (.long z :: .long x :: st) := by
  subst hp
  exact fun H locs ls hP hD hS hl => lv_ladd hE.x hE.b hd (kk H locs ls hP hD hS hl)
theorem g_lsub (hE : gOK E D T y cc nL ret lev mc ms win post) {x z : Int64} (hd : decode cc pc = .ok (.lsub, 1)) (hp : pc + 1 = pc') (kk : G l E D nL n k ws lv pc' (.long (x - z) :: st)) : G l E D nL n k ws lv pc (.long z :: .long x :: st) := by
  subst hp
  exact fun H locs ls hP hD hS hl => lv_lsub hE.x hE.b hd (kk H locs ls hP hD hS hl)
theorem g_lmul (hE : gOK E D T y cc nL ret lev mc ms win post) {x z : Int64} (hd : decode cc pc = .ok (.lmul, 1)) (hp : pc + 1 = pc') (kk : G l E D nL n k ws lv pc' (.long (x * z) :: st)) : G l E D nL n k ws lv pc (.long z :: .long x :: st) := by
  subst hp
  exact fun H locs ls hP hD hS hl => lv_lmul hE.x hE.b hd (kk H locs ls hP hD hS hl)
theorem g_land (hE : gOK E D T y cc nL ret lev mc ms win post) {x z : Int64} (hd : decode cc pc = .ok (.land, 1)) (hp : pc + 1 = pc') (kk : G l E D nL n k ws lv pc' (.long (x &&& z) :: st)) : G l E D nL n k ws lv pc (.long z :: .long x :: st) := by
  subst hp
  exact fun H locs ls hP hD hS hl => lv_land hE.x hE.b hd (kk H locs ls hP hD hS hl)
theorem g_lor (hE : gOK E D T y cc nL ret lev mc ms win post) {x z : Int64} (hd : decode cc pc = .ok (.lor, 1)) (hp : pc + 1 = pc') (kk : G l E D nL n k ws lv pc' (.long (x ||| z) :: st)) : G l E D nL n k ws lv pc (.long z :: .long x :: st) := by
  subst hp
  exact fun H locs ls hP hD hS hl => lv_lor hE.x hE.b hd (kk H locs ls hP hD hS hl)
theorem g_lxor (hE : gOK E D T y cc nL ret lev mc ms win post) {x z : Int64} (hd : decode cc pc = .ok (.lxor, 1)) (hp : pc + 1 = pc') (kk : G l E D nL n k ws lv pc' (.long (x ^^^ z) :: st)) : G l E D nL n k ws lv pc (.long z :: .long x :: st) := by
  subst hp
  exact fun H locs ls hP hD hS hl => lv_lxor hE.x hE.b hd (kk H locs ls hP hD hS hl)
theorem g_ldiv (hE : gOK E D T y cc nL ret lev mc ms win post) {x z : Int64} (hz : ¬ z = 0) (hd : decode cc pc = .ok (.ldiv, 1)) (hp : pc + 1 = pc') (kk : G l E D nL n k ws lv pc' (.long (x / z) :: st)) : G l E D nL n k ws lv pc (.long z :: .long x :: st) := by
  subst hp
  exact fun H locs ls hP hD hS hl => lv_ldiv hE.x hE.b hd hz (kk H locs ls hP hD hS hl)
theorem g_idiv (hE : gOK E D T y cc nL ret lev mc ms win post) {x z : Int32} (hz : ¬ z = 0) (hd : decode cc pc = .ok (.idiv, 1)) (hp : pc + 1 = pc') (kk : G l E D nL n k ws lv pc' (.int (x / z) :: st)) : G l E D nL n k ws lv pc (.int z :: .int x :: st) := by
  subst hp
  exact fun H locs ls hP hD hS hl => lv_idiv hE.x hE.b hd hz (kk H locs ls hP hD hS hl)
theorem g_irem (hE : gOK E D T y cc nL ret lev mc ms win post) {x z : Int32} (hz : ¬ z = 0) (hd : decode cc pc = .ok (.irem, 1)) (hp : pc + 1 = pc') (kk : G l E D nL n k ws lv pc' (.int (x - x / z * z) :: st)) : G l E D nL n k ws lv pc (.int z :: .int x :: st) := by
  subst hp
  exact fun H locs ls hP hD hS hl => lv_irem hE.x hE.b hd hz (kk H locs ls hP hD hS hl)
theorem g_ineg (hE : gOK E D T y cc nL ret lev mc ms win post) {x : Int32} (hd : decode cc pc = .ok (.ineg, 1)) (hp : pc + 1 = pc') (kk : G l E D nL n k ws lv pc' (.int (-x) :: st)) : G l E D nL n k ws lv pc (.int x :: st) := by
  subst hp
  exact fun H locs ls hP hD hS hl => lv_ineg hE.x hE.b hd (kk H locs ls hP hD hS hl)
theorem g_iconst (hE : gOK E D T y cc nL ret lev mc ms win post) {q : Int} (v : Int32) (hv : Int32.ofInt q = v) (hd : decode cc pc = .ok (.iconst q, 1)) (hp : pc + 1 = pc') (kk : G l E D nL n k ws lv pc' (.int v :: st)) : G l E D nL n k ws lv pc (st) := by
  subst hp
  exact fun H locs ls hP hD hS hl => lv_iconst hE.x hE.b hd hv (kk H locs ls hP hD hS hl)
theorem g_bipush (hE : gOK E D T y cc nL ret lev mc ms win post) {q : Int} (v : Int32) (hv : (Int8.ofInt q).toInt32 = v) (hd : decode cc pc = .ok (.bipush q, 2)) (hp : pc + 2 = pc') (kk : G l E D nL n k ws lv pc' (.int v :: st)) : G l E D nL n k ws lv pc (st) := by
  subst hp
  exact fun H locs ls hP hD hS hl => lv_bipush hE.x hE.b hd hv (kk H locs ls hP hD hS hl)
theorem g_sipush (hE : gOK E D T y cc nL ret lev mc ms win post) {q : Int} (v : Int32) (hv : (Int16.ofInt q).toInt32 = v) (hd : decode cc pc = .ok (.sipush q, 3)) (hp : pc + 3 = pc') (kk : G l E D nL n k ws lv pc' (.int v :: st)) : G l E D nL n k ws lv pc (st) := by
  subst hp
  exact fun H locs ls hP hD hS hl => lv_sipush hE.x hE.b hd hv (kk H locs ls hP hD hS hl)
theorem g_lconst (hE : gOK E D T y cc nL ret lev mc ms win post) {q : Fin 2} (v : Int64) (hv : Int64.ofNat (q : Nat) = v) (hd : decode cc pc = .ok (.lconst q, 1)) (hp : pc + 1 = pc') (kk : G l E D nL n k ws lv pc' (.long v :: st)) : G l E D nL n k ws lv pc (st) := by
  subst hp
  exact fun H locs ls hP hD hS hl => lv_lconst hE.x hE.b hd hv (kk H locs ls hP hD hS hl)
theorem g_ldc (hE : gOK E D T y cc nL ret lev mc ms win post) {index : Nat} {v : Int32} (hc : Cond.constant y.cls index v ∈ gTbl) (hd : decode cc pc = .ok (.ldc index, 2)) (hp : pc + 2 = pc') (kk : G l E D nL n k ws lv pc' (.int v :: st)) : G l E D nL n k ws lv pc (st) := by
  subst hp
  exact fun H locs ls hP hD hS hl => lv_ldc hE.x hE.b hE.own (hE.ts _ hc) hd (kk H locs ls hP hD hS hl)
theorem g_ldcw (hE : gOK E D T y cc nL ret lev mc ms win post) {index : Nat} {v : Int32} (hc : Cond.constant y.cls index v ∈ gTbl) (hd : decode cc pc = .ok (.ldc_w index, 3)) (hp : pc + 3 = pc') (kk : G l E D nL n k ws lv pc' (.int v :: st)) : G l E D nL n k ws lv pc (st) := by
  subst hp
  exact fun H locs ls hP hD hS hl => lv_ldcw hE.x hE.b hE.own (hE.ts _ hc) hd (kk H locs ls hP hD hS hl)
theorem g_ldc2 (hE : gOK E D T y cc nL ret lev mc ms win post) {index : Nat} {v : Int64} (hc : Cond.constantLong y.cls index v ∈ gTbl) (hd : decode cc pc = .ok (.ldc2_w index, 3)) (hp : pc + 3 = pc') (kk : G l E D nL n k ws lv pc' (.long v :: st)) : G l E D nL n k ws lv pc (st) := by
  subst hp
  exact fun H locs ls hP hD hS hl => lv_ldc2 hE.x hE.b hE.own (hE.ts _ hc) hd (kk H locs ls hP hD hS hl)
theorem g_iload_n (hE : gOK E D T y cc nL ret lev mc ms win post) {q : Fin 4} {i : Nat} {x : Int32} (j : Nat) (hj : lv[j]? = some (i, .int x)) (hi : (q : Nat) = i) (hd : decode cc pc = .ok (.iload_n q, 1)) (hp : pc + 1 = pc') (kk : G l E D nL n k ws lv pc' (.int x :: st)) : G l E D nL n k ws lv pc (st) := by
  subst hp
  exact fun H locs ls hP hD hS hl => lv_iload_n hE.x hE.b hd hi (lv_at hl j hj) (kk H locs ls hP hD hS hl)
theorem g_iload (hE : gOK E D T y cc nL ret lev mc ms win post) {i : Nat} {x : Int32} (j : Nat) (hj : lv[j]? = some (i, .int x)) (hd : decode cc pc = .ok (.iload i, 2)) (hp : pc + 2 = pc') (kk : G l E D nL n k ws lv pc' (.int x :: st)) : G l E D nL n k ws lv pc (st) := by
  subst hp
  exact fun H locs ls hP hD hS hl => lv_iload hE.x hE.b hd (lv_at hl j hj) (kk H locs ls hP hD hS hl)
theorem g_istore_n (hE : gOK E D T y cc nL ret lev mc ms win post) {q : Fin 4} {i : Nat} {x : Int32} (lv' : List (Nat × Value)) (hd : decode cc pc = .ok (.istore_n q, 1)) (hp : pc + 1 = pc') (hi : (q : Nat) = i) (hn : i < nL) (hv : (i, Value.int x) :: lv.filter (fun q => !(q.1 == i) && !(q.1 + 1 == i && q.2.category == 2)) = lv') (kk : G l E D nL n k ws lv' pc' (st)) : G l E D nL n k ws lv pc (.int x :: st) := by
  subst hp
  exact fun H locs ls hP hD hS hl => lv_istore_n hE.x hE.b hd hi hl hn hv (fun ls' hl' => kk H locs ls' hP hD hS hl')
theorem g_istore (hE : gOK E D T y cc nL ret lev mc ms win post) {i : Nat} {x : Int32} (lv' : List (Nat × Value)) (hd : decode cc pc = .ok (.istore i, 2)) (hp : pc + 2 = pc') (hn : i < nL) (hv : (i, Value.int x) :: lv.filter (fun q => !(q.1 == i) && !(q.1 + 1 == i && q.2.category == 2)) = lv') (kk : G l E D nL n k ws lv' pc' (st)) : G l E D nL n k ws lv pc (.int x :: st) := by
  subst hp
  exact fun H locs ls hP hD hS hl => lv_istore hE.x hE.b hd hl hn hv (fun ls' hl' => kk H locs ls' hP hD hS hl')
theorem g_lload_n (hE : gOK E D T y cc nL ret lev mc ms win post) {q : Fin 4} {i : Nat} {x : Int64} (j : Nat) (hj : lv[j]? = some (i, .long x)) (hi : (q : Nat) = i) (hd : decode cc pc = .ok (.lload_n q, 1)) (hp : pc + 1 = pc') (kk : G l E D nL n k ws lv pc' (.long x :: st)) : G l E D nL n k ws lv pc (st) := by
  subst hp
  exact fun H locs ls hP hD hS hl => lv_lload_n hE.x hE.b hd hi (lv_at hl j hj) (kk H locs ls hP hD hS hl)
theorem g_lload (hE : gOK E D T y cc nL ret lev mc ms win post) {i : Nat} {x : Int64} (j : Nat) (hj : lv[j]? = some (i, .long x)) (hd : decode cc pc = .ok (.lload i, 2)) (hp : pc + 2 = pc') (kk : G l E D nL n k ws lv pc' (.long x :: st)) : G l E D nL n k ws lv pc (st) := by
  subst hp
  exact fun H locs ls hP hD hS hl => lv_lload hE.x hE.b hd (lv_at hl j hj) (kk H locs ls hP hD hS hl)
theorem g_lstore_n (hE : gOK E D T y cc nL ret lev mc ms win post) {q : Fin 4} {i : Nat} {x : Int64} (lv' : List (Nat × Value)) (hd : decode cc pc = .ok (.lstore_n q, 1)) (hp : pc + 1 = pc') (hi : (q : Nat) = i) (hn : i + 1 < nL) (hv : (i, Value.long x) :: lv.filter (fun q => !(q.1 == i) && (!(q.1 == i + 1) && !(q.1 + 1 == i && q.2.category == 2))) = lv') (kk : G l E D nL n k ws lv' pc' (st)) : G l E D nL n k ws lv pc (.long x :: st) := by
  subst hp
  exact fun H locs ls hP hD hS hl => lv_lstore_n hE.x hE.b hd hi hl hn hv (fun ls' hl' => kk H locs ls' hP hD hS hl')
theorem g_lstore (hE : gOK E D T y cc nL ret lev mc ms win post) {i : Nat} {x : Int64} (lv' : List (Nat × Value)) (hd : decode cc pc = .ok (.lstore i, 2)) (hp : pc + 2 = pc') (hn : i + 1 < nL) (hv : (i, Value.long x) :: lv.filter (fun q => !(q.1 == i) && (!(q.1 == i + 1) && !(q.1 + 1 == i && q.2.category == 2))) = lv') (kk : G l E D nL n k ws lv' pc' (st)) : G l E D nL n k ws lv pc (.long x :: st) := by
  subst hp
  exact fun H locs ls hP hD hS hl => lv_lstore hE.x hE.b hd hl hn hv (fun ls' hl' => kk H locs ls' hP hD hS hl')
theorem g_aload_n (hE : gOK E D T y cc nL ret lev mc ms win post) {q : Fin 4} {i : Nat} {x : Nat} (j : Nat) (hj : lv[j]? = some (i, .ref x)) (hi : (q : Nat) = i) (hd : decode cc pc = .ok (.aload_n q, 1)) (hp : pc + 1 = pc') (kk : G l E D nL n k ws lv pc' (.ref x :: st)) : G l E D nL n k ws lv pc (st) := by
  subst hp
  exact fun H locs ls hP hD hS hl => lv_aload_n hE.x hE.b hd hi (lv_at hl j hj) (kk H locs ls hP hD hS hl)
theorem g_aload (hE : gOK E D T y cc nL ret lev mc ms win post) {i : Nat} {x : Nat} (j : Nat) (hj : lv[j]? = some (i, .ref x)) (hd : decode cc pc = .ok (.aload i, 2)) (hp : pc + 2 = pc') (kk : G l E D nL n k ws lv pc' (.ref x :: st)) : G l E D nL n k ws lv pc (st) := by
  subst hp
  exact fun H locs ls hP hD hS hl => lv_aload hE.x hE.b hd (lv_at hl j hj) (kk H locs ls hP hD hS hl)
theorem g_astore_n (hE : gOK E D T y cc nL ret lev mc ms win post) {q : Fin 4} {i : Nat} {x : Nat} (lv' : List (Nat × Value)) (hd : decode cc pc = .ok (.astore_n q, 1)) (hp : pc + 1 = pc') (hi : (q : Nat) = i) (hn : i < nL) (hv : (i, Value.ref x) :: lv.filter (fun q => !(q.1 == i) && !(q.1 + 1 == i && q.2.category == 2)) = lv') (kk : G l E D nL n k ws lv' pc' (st)) : G l E D nL n k ws lv pc (.ref x :: st) := by
  subst hp
  exact fun H locs ls hP hD hS hl => lv_astore_n hE.x hE.b hd hi hl hn hv (fun ls' hl' => kk H locs ls' hP hD hS hl')
theorem g_astore (hE : gOK E D T y cc nL ret lev mc ms win post) {i : Nat} {x : Nat} (lv' : List (Nat × Value)) (hd : decode cc pc = .ok (.astore i, 2)) (hp : pc + 2 = pc') (hn : i < nL) (hv : (i, Value.ref x) :: lv.filter (fun q => !(q.1 == i) && !(q.1 + 1 == i && q.2.category == 2)) = lv') (kk : G l E D nL n k ws lv' pc' (st)) : G l E D nL n k ws lv pc (.ref x :: st) := by
  subst hp
  exact fun H locs ls hP hD hS hl => lv_astore hE.x hE.b hd hl hn hv (fun ls' hl' => kk H locs ls' hP hD hS hl')
theorem g_iinc (hE : gOK E D T y cc nL ret lev mc ms win post) {i : Nat} {q : Int} {x : Int32} (v : Int32) (lv' : List (Nat × Value)) (j : Nat) (hj : lv[j]? = some (i, .int x)) (hd : decode cc pc = .ok (.iinc i q, 3)) (hp : pc + 3 = pc') (hx : x + Int32.ofInt q = v) (hn : i < nL) (hv : (i, Value.int v) :: lv.filter (fun q => !(q.1 == i) && !(q.1 + 1 == i && q.2.category == 2)) = lv') (kk : G l E D nL n k ws lv' pc' (st)) : G l E D nL n k ws lv pc (st) := by
  subst hp
  exact fun H locs ls hP hD hS hl => lv_iinc hE.x hE.b hd hl hj hx hn hv (fun ls' hl' => kk H locs ls' hP hD hS hl')
theorem g_ishl (hE : gOK E D T y cc nL ret lev mc ms win post) {x z : Int32} (hd : decode cc pc = .ok (.ishl, 1)) (hp : pc + 1 = pc') (kk : G l E D nL n k ws lv pc' (.int (x <<< (z &&& 31)) :: st)) : G l E D nL n k ws lv pc (.int z :: .int x :: st) := by
  subst hp
  exact fun H locs ls hP hD hS hl => lv_ishl hE.x hE.b hd (kk H locs ls hP hD hS hl)
theorem g_ishr (hE : gOK E D T y cc nL ret lev mc ms win post) {x z : Int32} (hd : decode cc pc = .ok (.ishr, 1)) (hp : pc + 1 = pc') (kk : G l E D nL n k ws lv pc' (.int (x >>> (z &&& 31)) :: st)) : G l E D nL n k ws lv pc (.int z :: .int x :: st) := by
  subst hp
  exact fun H locs ls hP hD hS hl => lv_ishr hE.x hE.b hd (kk H locs ls hP hD hS hl)
theorem g_iushr (hE : gOK E D T y cc nL ret lev mc ms win post) {x z : Int32} (v : Int32) (hv : (x.toUInt32 >>> (z.toUInt32 &&& Int32.toUInt32 31)).toInt32 = v) (hd : decode cc pc = .ok (.iushr, 1)) (hp : pc + 1 = pc') (kk : G l E D nL n k ws lv pc' (.int v :: st)) : G l E D nL n k ws lv pc (.int z :: .int x :: st) := by
  subst hp
  exact fun H locs ls hP hD hS hl => lv_iushr hE.x hE.b hd hv (kk H locs ls hP hD hS hl)
theorem g_lushr (hE : gOK E D T y cc nL ret lev mc ms win post) {x : Int64} {z : Int32} (v : Int64) (hv : (x.toUInt64 >>> (z.toInt64.toUInt64 &&& Int64.toUInt64 63)).toInt64 = v) (hd : decode cc pc = .ok (.lushr, 1)) (hp : pc + 1 = pc') (kk : G l E D nL n k ws lv pc' (.long v :: st)) : G l E D nL n k ws lv pc (.int z :: .long x :: st) := by
  subst hp
  exact fun H locs ls hP hD hS hl => lv_lushr hE.x hE.b hd hv (kk H locs ls hP hD hS hl)
theorem g_lshl (hE : gOK E D T y cc nL ret lev mc ms win post) {x : Int64} {z : Int32} (v : Int64) (hv : x <<< (z.toInt64 &&& 63) = v) (hd : decode cc pc = .ok (.lshl, 1)) (hp : pc + 1 = pc') (kk : G l E D nL n k ws lv pc' (.long v :: st)) : G l E D nL n k ws lv pc (.int z :: .long x :: st) := by
  subst hp
  exact fun H locs ls hP hD hS hl => lv_lshl hE.x hE.b hd hv (kk H locs ls hP hD hS hl)
theorem g_lshr (hE : gOK E D T y cc nL ret lev mc ms win post) {x : Int64} {z : Int32} (v : Int64) (hv : x >>> (z.toInt64 &&& 63) = v) (hd : decode cc pc = .ok (.lshr, 1)) (hp : pc + 1 = pc') (kk : G l E D nL n k ws lv pc' (.long v :: st)) : G l E D nL n k ws lv pc (.int z :: .long x :: st) := by
  subst hp
  exact fun H locs ls hP hD hS hl => lv_lshr hE.x hE.b hd hv (kk H locs ls hP hD hS hl)
theorem g_i2l (hE : gOK E D T y cc nL ret lev mc ms win post) {x : Int32} (v : Int64) (hv : x.toInt64 = v) (hd : decode cc pc = .ok (.i2l, 1)) (hp : pc + 1 = pc') (kk : G l E D nL n k ws lv pc' (.long v :: st)) : G l E D nL n k ws lv pc (.int x :: st) := by
  subst hp
  exact fun H locs ls hP hD hS hl => lv_i2l hE.x hE.b hd hv (kk H locs ls hP hD hS hl)
theorem g_l2i (hE : gOK E D T y cc nL ret lev mc ms win post) {x : Int64} (v : Int32) (hv : x.toInt32 = v) (hd : decode cc pc = .ok (.l2i, 1)) (hp : pc + 1 = pc') (kk : G l E D nL n k ws lv pc' (.int v :: st)) : G l E D nL n k ws lv pc (.long x :: st) := by
  subst hp
  exact fun H locs ls hP hD hS hl => lv_l2i hE.x hE.b hd hv (kk H locs ls hP hD hS hl)
theorem g_i2b (hE : gOK E D T y cc nL ret lev mc ms win post) {x : Int32} (v : Int32) (hv : x.toInt8.toInt32 = v) (hd : decode cc pc = .ok (.i2b, 1)) (hp : pc + 1 = pc') (kk : G l E D nL n k ws lv pc' (.int v :: st)) : G l E D nL n k ws lv pc (.int x :: st) := by
  subst hp
  exact fun H locs ls hP hD hS hl => lv_i2b hE.x hE.b hd hv (kk H locs ls hP hD hS hl)
theorem g_dup (hE : gOK E D T y cc nL ret lev mc ms win post) {a : Value} (ha : a.category = 1) (hd : decode cc pc = .ok (.dup, 1)) (hp : pc + 1 = pc') (kk : G l E D nL n k ws lv pc' (a :: a :: st)) : G l E D nL n k ws lv pc (a :: st) := by
  subst hp
  exact fun H locs ls hP hD hS hl => lv_dup hE.x hE.b hd ha (kk H locs ls hP hD hS hl)
theorem g_pop (hE : gOK E D T y cc nL ret lev mc ms win post) {a : Value} (ha : a.category = 1) (hd : decode cc pc = .ok (.pop, 1)) (hp : pc + 1 = pc') (kk : G l E D nL n k ws lv pc' (st)) : G l E D nL n k ws lv pc (a :: st) := by
  subst hp
  exact fun H locs ls hP hD hS hl => lv_pop hE.x hE.b hd ha (kk H locs ls hP hD hS hl)
theorem g_pop2_2 (hE : gOK E D T y cc nL ret lev mc ms win post) {a : Value} (ha : a.category = 2) (hd : decode cc pc = .ok (.pop2, 1)) (hp : pc + 1 = pc') (kk : G l E D nL n k ws lv pc' (st)) : G l E D nL n k ws lv pc (a :: st) := by
  subst hp
  exact fun H locs ls hP hD hS hl => lv_pop2_2 hE.x hE.b hd ha (kk H locs ls hP hD hS hl)
theorem g_dup_x1 (hE : gOK E D T y cc nL ret lev mc ms win post) {a b : Value} (ha : a.category = 1) (hb : b.category = 1) (hd : decode cc pc = .ok (.dup_x1, 1)) (hp : pc + 1 = pc') (kk : G l E D nL n k ws lv pc' (a :: b :: a :: st)) : G l E D nL n k ws lv pc (a :: b :: st) := by
  subst hp
  exact fun H locs ls hP hD hS hl => lv_dup_x1 hE.x hE.b hd ha hb (kk H locs ls hP hD hS hl)
theorem g_dup_x2 (hE : gOK E D T y cc nL ret lev mc ms win post) {a b d : Value} (ha : a.category = 1) (hb : b.category = 1) (hc : d.category = 1) (hd : decode cc pc = .ok (.dup_x2, 1)) (hp : pc + 1 = pc') (kk : G l E D nL n k ws lv pc' (a :: b :: d :: a :: st)) : G l E D nL n k ws lv pc (a :: b :: d :: st) := by
  subst hp
  exact fun H locs ls hP hD hS hl => lv_dup_x2 hE.x hE.b hd ha hb hc (kk H locs ls hP hD hS hl)
theorem g_dup2_11 (hE : gOK E D T y cc nL ret lev mc ms win post) {a b : Value} (ha : a.category = 1) (hb : b.category = 1) (hd : decode cc pc = .ok (.dup2, 1)) (hp : pc + 1 = pc') (kk : G l E D nL n k ws lv pc' (a :: b :: a :: b :: st)) : G l E D nL n k ws lv pc (a :: b :: st) := by
  subst hp
  exact fun H locs ls hP hD hS hl => lv_dup2_11 hE.x hE.b hd ha hb (kk H locs ls hP hD hS hl)
theorem g_dup2_2 (hE : gOK E D T y cc nL ret lev mc ms win post) {a : Value} (ha : a.category = 2) (hd : decode cc pc = .ok (.dup2, 1)) (hp : pc + 1 = pc') (kk : G l E D nL n k ws lv pc' (a :: a :: st)) : G l E D nL n k ws lv pc (a :: st) := by
  subst hp
  exact fun H locs ls hP hD hS hl => lv_dup2_2 hE.x hE.b hd ha (kk H locs ls hP hD hS hl)
theorem g_lcmp (hE : gOK E D T y cc nL ret lev mc ms win post) {x z : Int64} (hd : decode cc pc = .ok (.lcmp, 1)) (hp : pc + 1 = pc') (kk : G l E D nL n k ws lv pc' (.int (lg_cmp x z) :: st)) : G l E D nL n k ws lv pc (.long z :: .long x :: st) := by
  subst hp
  exact fun H locs ls hP hD hS hl => W.lcmp hE.x hE.b hd (kk H locs ls hP hD hS hl)
theorem g_goto (hE : gOK E D T y cc nL ret lev mc ms win post) {off : Int} {tgt : Nat} (hd : decode cc pc = .ok (.goto off, 3)) (ht : (pc : Int) + off = (tgt : Int)) (kk : G l E D nL n k ws lv tgt (st)) : G l E D nL n k ws lv pc (st) :=
  fun H locs ls hP hD hS hl => lv_goto hE.x hE.b hd ht (kk H locs ls hP hD hS hl)
theorem g_if_eq (hE : gOK E D T y cc nL ret lev mc ms win post) {x : Int32} {off : Int} {tgt : Nat} (hd : decode cc pc = .ok (.ifCond .eq off, 3)) (ht : (pc : Int) + off = (tgt : Int)) (hp : pc + 3 = pc') (kt : x = 0 → G l E D nL n k ws lv tgt (st)) (kf : ¬ x = 0 → G l E D nL n k ws lv pc' (st)) : G l E D nL n k ws lv pc (.int x :: st) := by
  subst hp
  exact fun H locs ls hP hD hS hl => lv_if_eq hE.x hE.b hd ht (fun h => kt h H locs ls hP hD hS hl) (fun h => kf h H locs ls hP hD hS hl)
theorem g_icmp_eq (hE : gOK E D T y cc nL ret lev mc ms win post) {x z : Int32} {off : Int} {tgt : Nat} (hd : decode cc pc = .ok (.if_icmp .eq off, 3)) (ht : (pc : Int) + off = (tgt : Int)) (hp : pc + 3 = pc') (kt : x = z → G l E D nL n k ws lv tgt (st)) (kf : ¬ x = z → G l E D nL n k ws lv pc' (st)) : G l E D nL n k ws lv pc (.int z :: .int x :: st) := by
  subst hp
  exact fun H locs ls hP hD hS hl => lv_icmp_eq hE.x hE.b hd ht (fun h => kt h H locs ls hP hD hS hl) (fun h => kf h H locs ls hP hD hS hl)
theorem g_if_ne (hE : gOK E D T y cc nL ret lev mc ms win post) {x : Int32} {off : Int} {tgt : Nat} (hd : decode cc pc = .ok (.ifCond .ne off, 3)) (ht : (pc : Int) + off = (tgt : Int)) (hp : pc + 3 = pc') (kt : ¬ x = 0 → G l E D nL n k ws lv tgt (st)) (kf : x = 0 → G l E D nL n k ws lv pc' (st)) : G l E D nL n k ws lv pc (.int x :: st) := by
  subst hp
  exact fun H locs ls hP hD hS hl => lv_if_ne hE.x hE.b hd ht (fun h => kt h H locs ls hP hD hS hl) (fun h => kf h H locs ls hP hD hS hl)
theorem g_icmp_ne (hE : gOK E D T y cc nL ret lev mc ms win post) {x z : Int32} {off : Int} {tgt : Nat} (hd : decode cc pc = .ok (.if_icmp .ne off, 3)) (ht : (pc : Int) + off = (tgt : Int)) (hp : pc + 3 = pc') (kt : ¬ x = z → G l E D nL n k ws lv tgt (st)) (kf : x = z → G l E D nL n k ws lv pc' (st)) : G l E D nL n k ws lv pc (.int z :: .int x :: st) := by
  subst hp
  exact fun H locs ls hP hD hS hl => lv_icmp_ne hE.x hE.b hd ht (fun h => kt h H locs ls hP hD hS hl) (fun h => kf h H locs ls hP hD hS hl)
theorem g_if_lt (hE : gOK E D T y cc nL ret lev mc ms win post) {x : Int32} {off : Int} {tgt : Nat} (hd : decode cc pc = .ok (.ifCond .lt off, 3)) (ht : (pc : Int) + off = (tgt : Int)) (hp : pc + 3 = pc') (kt : x < 0 → G l E D nL n k ws lv tgt (st)) (kf : ¬ x < 0 → G l E D nL n k ws lv pc' (st)) : G l E D nL n k ws lv pc (.int x :: st) := by
  subst hp
  exact fun H locs ls hP hD hS hl => lv_if_lt hE.x hE.b hd ht (fun h => kt h H locs ls hP hD hS hl) (fun h => kf h H locs ls hP hD hS hl)
theorem g_icmp_lt (hE : gOK E D T y cc nL ret lev mc ms win post) {x z : Int32} {off : Int} {tgt : Nat} (hd : decode cc pc = .ok (.if_icmp .lt off, 3)) (ht : (pc : Int) + off = (tgt : Int)) (hp : pc + 3 = pc') (kt : x < z → G l E D nL n k ws lv tgt (st)) (kf : ¬ x < z → G l E D nL n k ws lv pc' (st)) : G l E D nL n k ws lv pc (.int z :: .int x :: st) := by
  subst hp
  exact fun H locs ls hP hD hS hl => lv_icmp_lt hE.x hE.b hd ht (fun h => kt h H locs ls hP hD hS hl) (fun h => kf h H locs ls hP hD hS hl)
theorem g_if_ge (hE : gOK E D T y cc nL ret lev mc ms win post) {x : Int32} {off : Int} {tgt : Nat} (hd : decode cc pc = .ok (.ifCond .ge off, 3)) (ht : (pc : Int) + off = (tgt : Int)) (hp : pc + 3 = pc') (kt : 0 ≤ x → G l E D nL n k ws lv tgt (st)) (kf : ¬ 0 ≤ x → G l E D nL n k ws lv pc' (st)) : G l E D nL n k ws lv pc (.int x :: st) := by
  subst hp
  exact fun H locs ls hP hD hS hl => lv_if_ge hE.x hE.b hd ht (fun h => kt h H locs ls hP hD hS hl) (fun h => kf h H locs ls hP hD hS hl)
theorem g_icmp_ge (hE : gOK E D T y cc nL ret lev mc ms win post) {x z : Int32} {off : Int} {tgt : Nat} (hd : decode cc pc = .ok (.if_icmp .ge off, 3)) (ht : (pc : Int) + off = (tgt : Int)) (hp : pc + 3 = pc') (kt : z ≤ x → G l E D nL n k ws lv tgt (st)) (kf : ¬ z ≤ x → G l E D nL n k ws lv pc' (st)) : G l E D nL n k ws lv pc (.int z :: .int x :: st) := by
  subst hp
  exact fun H locs ls hP hD hS hl => lv_icmp_ge hE.x hE.b hd ht (fun h => kt h H locs ls hP hD hS hl) (fun h => kf h H locs ls hP hD hS hl)
theorem g_if_gt (hE : gOK E D T y cc nL ret lev mc ms win post) {x : Int32} {off : Int} {tgt : Nat} (hd : decode cc pc = .ok (.ifCond .gt off, 3)) (ht : (pc : Int) + off = (tgt : Int)) (hp : pc + 3 = pc') (kt : 0 < x → G l E D nL n k ws lv tgt (st)) (kf : ¬ 0 < x → G l E D nL n k ws lv pc' (st)) : G l E D nL n k ws lv pc (.int x :: st) := by
  subst hp
  exact fun H locs ls hP hD hS hl => lv_if_gt hE.x hE.b hd ht (fun h => kt h H locs ls hP hD hS hl) (fun h => kf h H locs ls hP hD hS hl)
theorem g_icmp_gt (hE : gOK E D T y cc nL ret lev mc ms win post) {x z : Int32} {off : Int} {tgt : Nat} (hd : decode cc pc = .ok (.if_icmp .gt off, 3)) (ht : (pc : Int) + off = (tgt : Int)) (hp : pc + 3 = pc') (kt : z < x → G l E D nL n k ws lv tgt (st)) (kf : ¬ z < x → G l E D nL n k ws lv pc' (st)) : G l E D nL n k ws lv pc (.int z :: .int x :: st) := by
  subst hp
  exact fun H locs ls hP hD hS hl => lv_icmp_gt hE.x hE.b hd ht (fun h => kt h H locs ls hP hD hS hl) (fun h => kf h H locs ls hP hD hS hl)
theorem g_if_le (hE : gOK E D T y cc nL ret lev mc ms win post) {x : Int32} {off : Int} {tgt : Nat} (hd : decode cc pc = .ok (.ifCond .le off, 3)) (ht : (pc : Int) + off = (tgt : Int)) (hp : pc + 3 = pc') (kt : x ≤ 0 → G l E D nL n k ws lv tgt (st)) (kf : ¬ x ≤ 0 → G l E D nL n k ws lv pc' (st)) : G l E D nL n k ws lv pc (.int x :: st) := by
  subst hp
  exact fun H locs ls hP hD hS hl => lv_if_le hE.x hE.b hd ht (fun h => kt h H locs ls hP hD hS hl) (fun h => kf h H locs ls hP hD hS hl)
theorem g_icmp_le (hE : gOK E D T y cc nL ret lev mc ms win post) {x z : Int32} {off : Int} {tgt : Nat} (hd : decode cc pc = .ok (.if_icmp .le off, 3)) (ht : (pc : Int) + off = (tgt : Int)) (hp : pc + 3 = pc') (kt : x ≤ z → G l E D nL n k ws lv tgt (st)) (kf : ¬ x ≤ z → G l E D nL n k ws lv pc' (st)) : G l E D nL n k ws lv pc (.int z :: .int x :: st) := by
  subst hp
  exact fun H locs ls hP hD hS hl => lv_icmp_le hE.x hE.b hd ht (fun h => kt h H locs ls hP hD hS hl) (fun h => kf h H locs ls hP hD hS hl)
end GRows
