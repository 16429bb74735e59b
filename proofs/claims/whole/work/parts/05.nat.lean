/-! numbers that are Nats -/
theorem g_incN (a c : Nat) : nI a + Int32.ofInt (c : Int) = nI (a + c) := by
  rw [show Int32.ofInt (c : Int) = nI c from rfl, nI_add]
/-- a table of Nats, changed at one place -/
def gu (f : Nat → Nat) (i v : Nat) : Nat → Nat := fun j => if j = i then v else f j
theorem gu_s (f : Nat → Nat) (i v : Nat) : gu f i v i = v := by simp [gu]
theorem gu_n (f : Nat → Nat) {i j : Nat} (v : Nat) (h : j ≠ i) : gu f i v j = f j := by simp [gu, h]
theorem gu_I (f : Nat → Nat) (i v : Nat) : upd (fun j => nI (f j)) i (nI v) = fun j => nI (gu f i v j) := by
  funext j
  unfold upd gu
  split <;> rfl
theorem gu_L (f : Nat → Nat) (i v : Nat) : vp_updL (fun j => lN (f j)) i (lN v) = fun j => lN (gu f i v j) := by
  funext j
  unfold vp_updL gu
  split <;> rfl
/-- a truth as a number -/
def bI (b : Bool) : Int32 := if b then 1 else 0
theorem bI_eq0 {b : Bool} : bI b = 0 ↔ b = false := by cases b <;> decide
theorem bI_ne0 {b : Bool} : ¬ bI b = 0 ↔ b = true := by cases b <;> decide
section GNat
variable {l : Launch} {E : gEnv} {D : va_G} {T : Nat → ClassId} {y : MethodName} {cc : ByteArray} {nL : Nat} {ret : Option FieldType} {lev mc ms : Nat} {win : va_W} {post : Option Value → va_W → Prop}
variable {n k : Nat} {ws : va_W} {lv : List (Nat × Value)} {pc pc' : Nat} {st : List Value}
theorem g_icmpN_eq (hE : gOK E D T y cc nL ret lev mc ms win post) {a b : Nat} {off : Int} {tgt : Nat} (ha : a < 2 ^ 31) (hb : b < 2 ^ 31) (hd : decode cc pc = .ok (.if_icmp .eq off, 3)) (ht : (pc : Int) + off = (tgt : Int)) (hp : pc + 3 = pc') (kt : a = b → G l E D nL n k ws lv tgt (st)) (kf : a ≠ b → G l E D nL n k ws lv pc' (st)) : G l E D nL n k ws lv pc (.int (nI b) :: .int (nI a) :: st) :=
  g_icmp_eq hE hd ht hp (fun h => kt ((nI_eq ha hb).mp h)) (fun h => kf (fun z => h ((nI_eq ha hb).mpr z)))
theorem g_icmpN_ne (hE : gOK E D T y cc nL ret lev mc ms win post) {a b : Nat} {off : Int} {tgt : Nat} (ha : a < 2 ^ 31) (hb : b < 2 ^ 31) (hd : decode cc pc = .ok (.if_icmp .ne off, 3)) (ht : (pc : Int) + off = (tgt : Int)) (hp : pc + 3 = pc') (kt : a ≠ b → G l E D nL n k ws lv tgt (st)) (kf : a = b → G l E D nL n k ws lv pc' (st)) : G l E D nL n k ws lv pc (.int (nI b) :: .int (nI a) :: st) :=
  g_icmp_ne hE hd ht hp (fun h => kt (fun z => h ((nI_eq ha hb).mpr z))) (fun h => kf ((nI_eq ha hb).mp h))
theorem g_icmpN_lt (hE : gOK E D T y cc nL ret lev mc ms win post) {a b : Nat} {off : Int} {tgt : Nat} (ha : a < 2 ^ 31) (hb : b < 2 ^ 31) (hd : decode cc pc = .ok (.if_icmp .lt off, 3)) (ht : (pc : Int) + off = (tgt : Int)) (hp : pc + 3 = pc') (kt : a < b → G l E D nL n k ws lv tgt (st)) (kf : b ≤ a → G l E D nL n k ws lv pc' (st)) : G l E D nL n k ws lv pc (.int (nI b) :: .int (nI a) :: st) :=
  g_icmp_lt hE hd ht hp (fun h => kt ((nI_ltI ha hb).mp h)) (fun h => kf (Nat.le_of_not_lt fun z => h ((nI_ltI ha hb).mpr z)))
theorem g_icmpN_ge (hE : gOK E D T y cc nL ret lev mc ms win post) {a b : Nat} {off : Int} {tgt : Nat} (ha : a < 2 ^ 31) (hb : b < 2 ^ 31) (hd : decode cc pc = .ok (.if_icmp .ge off, 3)) (ht : (pc : Int) + off = (tgt : Int)) (hp : pc + 3 = pc') (kt : b ≤ a → G l E D nL n k ws lv tgt (st)) (kf : a < b → G l E D nL n k ws lv pc' (st)) : G l E D nL n k ws lv pc (.int (nI b) :: .int (nI a) :: st) :=
  g_icmp_ge hE hd ht hp (fun h => kt ((nI_leI hb ha).mp h)) (fun h => kf (Nat.lt_of_not_le fun z => h ((nI_leI hb ha).mpr z)))
theorem g_icmpN_gt (hE : gOK E D T y cc nL ret lev mc ms win post) {a b : Nat} {off : Int} {tgt : Nat} (ha : a < 2 ^ 31) (hb : b < 2 ^ 31) (hd : decode cc pc = .ok (.if_icmp .gt off, 3)) (ht : (pc : Int) + off = (tgt : Int)) (hp : pc + 3 = pc') (kt : b < a → G l E D nL n k ws lv tgt (st)) (kf : a ≤ b → G l E D nL n k ws lv pc' (st)) : G l E D nL n k ws lv pc (.int (nI b) :: .int (nI a) :: st) :=
  g_icmp_gt hE hd ht hp (fun h => kt ((nI_ltI hb ha).mp h)) (fun h => kf (Nat.le_of_not_lt fun z => h ((nI_ltI hb ha).mpr z)))
theorem g_icmpN_le (hE : gOK E D T y cc nL ret lev mc ms win post) {a b : Nat} {off : Int} {tgt : Nat} (ha : a < 2 ^ 31) (hb : b < 2 ^ 31) (hd : decode cc pc = .ok (.if_icmp .le off, 3)) (ht : (pc : Int) + off = (tgt : Int)) (hp : pc + 3 = pc') (kt : a ≤ b → G l E D nL n k ws lv tgt (st)) (kf : b < a → G l E D nL n k ws lv pc' (st)) : G l E D nL n k ws lv pc (.int (nI b) :: .int (nI a) :: st) :=
  g_icmp_le hE hd ht hp (fun h => kt ((nI_leI ha hb).mp h)) (fun h => kf (Nat.lt_of_not_le fun z => h ((nI_leI ha hb).mpr z)))
theorem g_ifN_eq (hE : gOK E D T y cc nL ret lev mc ms win post) {a : Nat} {off : Int} {tgt : Nat} (ha : a < 2 ^ 31) (hd : decode cc pc = .ok (.ifCond .eq off, 3)) (ht : (pc : Int) + off = (tgt : Int)) (hp : pc + 3 = pc') (kt : a = 0 → G l E D nL n k ws lv tgt (st)) (kf : a ≠ 0 → G l E D nL n k ws lv pc' (st)) : G l E D nL n k ws lv pc (.int (nI a) :: st) :=
  g_if_eq hE hd ht hp (fun h => kt ((nI_eq ha (by decide)).mp (h.trans nI_0.symm))) (fun h => kf (fun z => h (by rw [z]; exact nI_0)))
theorem g_ifN_ne (hE : gOK E D T y cc nL ret lev mc ms win post) {a : Nat} {off : Int} {tgt : Nat} (ha : a < 2 ^ 31) (hd : decode cc pc = .ok (.ifCond .ne off, 3)) (ht : (pc : Int) + off = (tgt : Int)) (hp : pc + 3 = pc') (kt : a ≠ 0 → G l E D nL n k ws lv tgt (st)) (kf : a = 0 → G l E D nL n k ws lv pc' (st)) : G l E D nL n k ws lv pc (.int (nI a) :: st) :=
  g_if_ne hE hd ht hp (fun h => kt (fun z => h (by rw [z]; exact nI_0))) (fun h => kf ((nI_eq ha (by decide)).mp (h.trans nI_0.symm)))
theorem g_ifN_lt (hE : gOK E D T y cc nL ret lev mc ms win post) {a : Nat} {off : Int} {tgt : Nat} (ha : a < 2 ^ 31) (hd : decode cc pc = .ok (.ifCond .lt off, 3)) (ht : (pc : Int) + off = (tgt : Int)) (hp : pc + 3 = pc') (kt : False → G l E D nL n k ws lv tgt (st)) (kf : True → G l E D nL n k ws lv pc' (st)) : G l E D nL n k ws lv pc (.int (nI a) :: st) :=
  g_if_lt hE hd ht hp (fun h => kt (nI_pos ha h)) (fun h => kf (trivial))
theorem g_ifN_ge (hE : gOK E D T y cc nL ret lev mc ms win post) {a : Nat} {off : Int} {tgt : Nat} (ha : a < 2 ^ 31) (hd : decode cc pc = .ok (.ifCond .ge off, 3)) (ht : (pc : Int) + off = (tgt : Int)) (hp : pc + 3 = pc') (kt : True → G l E D nL n k ws lv tgt (st)) (kf : False → G l E D nL n k ws lv pc' (st)) : G l E D nL n k ws lv pc (.int (nI a) :: st) :=
  g_if_ge hE hd ht hp (fun h => kt (trivial)) (fun h => kf (h (nI_pos' ha)))
theorem g_ifN_gt (hE : gOK E D T y cc nL ret lev mc ms win post) {a : Nat} {off : Int} {tgt : Nat} (ha : a < 2 ^ 31) (hd : decode cc pc = .ok (.ifCond .gt off, 3)) (ht : (pc : Int) + off = (tgt : Int)) (hp : pc + 3 = pc') (kt : 0 < a → G l E D nL n k ws lv tgt (st)) (kf : a = 0 → G l E D nL n k ws lv pc' (st)) : G l E D nL n k ws lv pc (.int (nI a) :: st) :=
  g_if_gt hE hd ht hp (fun h => kt ((nI_ltI (by decide) ha).mp (show nI 0 < nI a from h))) (fun h => kf (Nat.le_zero.mp (Nat.le_of_not_lt fun z => h (show nI 0 < nI a from (nI_ltI (by decide) ha).mpr z))))
theorem g_ifN_le (hE : gOK E D T y cc nL ret lev mc ms win post) {a : Nat} {off : Int} {tgt : Nat} (ha : a < 2 ^ 31) (hd : decode cc pc = .ok (.ifCond .le off, 3)) (ht : (pc : Int) + off = (tgt : Int)) (hp : pc + 3 = pc') (kt : a = 0 → G l E D nL n k ws lv tgt (st)) (kf : 0 < a → G l E D nL n k ws lv pc' (st)) : G l E D nL n k ws lv pc (.int (nI a) :: st) :=
  g_if_le hE hd ht hp (fun h => kt (Nat.le_zero.mp ((nI_leI ha (by decide)).mp (show nI a ≤ nI 0 from h)))) (fun h => kf (Nat.pos_of_ne_zero fun z => h (show nI a ≤ nI 0 from (nI_leI ha (by decide)).mpr (by omega))))
theorem g_ifB_eq (hE : gOK E D T y cc nL ret lev mc ms win post) {b : Bool} {off : Int} {tgt : Nat} (hd : decode cc pc = .ok (.ifCond .eq off, 3)) (ht : (pc : Int) + off = (tgt : Int)) (hp : pc + 3 = pc') (kt : b = false → G l E D nL n k ws lv tgt (st)) (kf : b = true → G l E D nL n k ws lv pc' (st)) : G l E D nL n k ws lv pc (.int (bI b) :: st) :=
  g_if_eq hE hd ht hp (fun h => kt (bI_eq0.mp h)) (fun h => kf (bI_ne0.mp h))
theorem g_ifB_ne (hE : gOK E D T y cc nL ret lev mc ms win post) {b : Bool} {off : Int} {tgt : Nat} (hd : decode cc pc = .ok (.ifCond .ne off, 3)) (ht : (pc : Int) + off = (tgt : Int)) (hp : pc + 3 = pc') (kt : b = true → G l E D nL n k ws lv tgt (st)) (kf : b = false → G l E D nL n k ws lv pc' (st)) : G l E D nL n k ws lv pc (.int (bI b) :: st) :=
  g_if_ne hE hd ht hp (fun h => kt (bI_ne0.mp h)) (fun h => kf (bI_eq0.mp h))
theorem lc_eq {a b : Nat} (ha : a < 2 ^ 63) (hb : b < 2 ^ 63) : lg_cmp (lN a) (lN b) = 0 ↔ a = b := by
  have h1 := pk_lLT hb ha
  have h2 := pk_lEQ ha hb
  unfold lg_cmp
  by_cases c1 : lN b < lN a
  · have := h1.mp c1
    simp [c1]
    omega
  · by_cases c2 : lN a = lN b
    · have := h2.mp c2
      simp [c2]
      exact this
    · have : a ≠ b := fun z => c2 (h2.mpr z)
      simp [c1, c2, this]
theorem lc_lt {a b : Nat} (ha : a < 2 ^ 63) (hb : b < 2 ^ 63) : lg_cmp (lN a) (lN b) < 0 ↔ a < b := by
  have h1 := pk_lLT hb ha
  have h2 := pk_lEQ ha hb
  unfold lg_cmp
  by_cases c1 : lN b < lN a
  · have := h1.mp c1
    simp only [GT.gt, c1, if_true]
    constructor
    · intro h; exact absurd h (by decide)
    · intro h; omega
  · by_cases c2 : lN a = lN b
    · have := h2.mp c2
      simp only [GT.gt, c1, c2, if_true, if_false]
      constructor
      · intro h
        split at h <;> exact absurd h (by decide)
      · intro h; omega
    · have h3 : a ≠ b := fun z => c2 (h2.mpr z)
      have h4 : ¬ b < a := fun z => c1 (h1.mpr z)
      simp only [GT.gt, c1, c2, if_false]
      constructor
      · intro _; omega
      · intro _; decide
theorem lc_gt {a b : Nat} (ha : a < 2 ^ 63) (hb : b < 2 ^ 63) : 0 < lg_cmp (lN a) (lN b) ↔ b < a := by
  have h1 := pk_lLT hb ha
  unfold lg_cmp
  by_cases c1 : lN b < lN a
  · have := h1.mp c1
    simp only [GT.gt, c1, if_true]
    exact ⟨fun _ => this, fun _ => by decide⟩
  · have h4 : ¬ b < a := fun z => c1 (h1.mpr z)
    simp only [GT.gt, c1, if_false]
    constructor
    · intro h
      split at h <;> exact absurd h (by decide)
    · intro h; exact absurd h h4
theorem g_ifcN_eq (hE : gOK E D T y cc nL ret lev mc ms win post) {a b : Nat} {off : Int} {tgt : Nat} (ha : a < 2 ^ 63) (hb : b < 2 ^ 63) (hd : decode cc pc = .ok (.ifCond .eq off, 3)) (ht : (pc : Int) + off = (tgt : Int)) (hp : pc + 3 = pc') (kt : a = b → G l E D nL n k ws lv tgt (st)) (kf : a ≠ b → G l E D nL n k ws lv pc' (st)) : G l E D nL n k ws lv pc (.int (lg_cmp (lN a) (lN b)) :: st) :=
  g_if_eq hE hd ht hp (fun h => kt ((lc_eq ha hb).mp h)) (fun h => kf (fun z => h ((lc_eq ha hb).mpr z)))
theorem g_ifcN_ne (hE : gOK E D T y cc nL ret lev mc ms win post) {a b : Nat} {off : Int} {tgt : Nat} (ha : a < 2 ^ 63) (hb : b < 2 ^ 63) (hd : decode cc pc = .ok (.ifCond .ne off, 3)) (ht : (pc : Int) + off = (tgt : Int)) (hp : pc + 3 = pc') (kt : a ≠ b → G l E D nL n k ws lv tgt (st)) (kf : a = b → G l E D nL n k ws lv pc' (st)) : G l E D nL n k ws lv pc (.int (lg_cmp (lN a) (lN b)) :: st) :=
  g_if_ne hE hd ht hp (fun h => kt (fun z => h ((lc_eq ha hb).mpr z))) (fun h => kf ((lc_eq ha hb).mp h))
theorem g_ifcN_lt (hE : gOK E D T y cc nL ret lev mc ms win post) {a b : Nat} {off : Int} {tgt : Nat} (ha : a < 2 ^ 63) (hb : b < 2 ^ 63) (hd : decode cc pc = .ok (.ifCond .lt off, 3)) (ht : (pc : Int) + off = (tgt : Int)) (hp : pc + 3 = pc') (kt : a < b → G l E D nL n k ws lv tgt (st)) (kf : b ≤ a → G l E D nL n k ws lv pc' (st)) : G l E D nL n k ws lv pc (.int (lg_cmp (lN a) (lN b)) :: st) :=
  g_if_lt hE hd ht hp (fun h => kt ((lc_lt ha hb).mp h)) (fun h => kf (Nat.le_of_not_lt fun z => h ((lc_lt ha hb).mpr z)))
theorem g_ifcN_ge (hE : gOK E D T y cc nL ret lev mc ms win post) {a b : Nat} {off : Int} {tgt : Nat} (ha : a < 2 ^ 63) (hb : b < 2 ^ 63) (hd : decode cc pc = .ok (.ifCond .ge off, 3)) (ht : (pc : Int) + off = (tgt : Int)) (hp : pc + 3 = pc') (kt : b ≤ a → G l E D nL n k ws lv tgt (st)) (kf : a < b → G l E D nL n k ws lv pc' (st)) : G l E D nL n k ws lv pc (.int (lg_cmp (lN a) (lN b)) :: st) :=
  g_if_ge hE hd ht hp (fun h => kt (Nat.le_of_not_lt fun z => Int32.not_lt.mpr h ((lc_lt ha hb).mpr z))) (fun h => kf ((lc_lt ha hb).mp (Int32.not_le.mp h)))
theorem g_ifcN_gt (hE : gOK E D T y cc nL ret lev mc ms win post) {a b : Nat} {off : Int} {tgt : Nat} (ha : a < 2 ^ 63) (hb : b < 2 ^ 63) (hd : decode cc pc = .ok (.ifCond .gt off, 3)) (ht : (pc : Int) + off = (tgt : Int)) (hp : pc + 3 = pc') (kt : b < a → G l E D nL n k ws lv tgt (st)) (kf : a ≤ b → G l E D nL n k ws lv pc' (st)) : G l E D nL n k ws lv pc (.int (lg_cmp (lN a) (lN b)) :: st) :=
  g_if_gt hE hd ht hp (fun h => kt ((lc_gt ha hb).mp h)) (fun h => kf (Nat.le_of_not_lt fun z => h ((lc_gt ha hb).mpr z)))
theorem g_ifcN_le (hE : gOK E D T y cc nL ret lev mc ms win post) {a b : Nat} {off : Int} {tgt : Nat} (ha : a < 2 ^ 63) (hb : b < 2 ^ 63) (hd : decode cc pc = .ok (.ifCond .le off, 3)) (ht : (pc : Int) + off = (tgt : Int)) (hp : pc + 3 = pc') (kt : a ≤ b → G l E D nL n k ws lv tgt (st)) (kf : b < a → G l E D nL n k ws lv pc' (st)) : G l E D nL n k ws lv pc (.int (lg_cmp (lN a) (lN b)) :: st) :=
  g_if_le hE hd ht hp (fun h => kt (Nat.le_of_not_lt fun z => Int32.not_lt.mpr h ((lc_gt ha hb).mpr z))) (fun h => kf ((lc_gt ha hb).mp (Int32.not_le.mp h)))
end GNat
