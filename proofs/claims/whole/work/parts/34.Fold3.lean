set_option maxHeartbeats 4000000 in
set_option maxRecDepth 100000 in
theorem qX0_leader (l : Launch) (D : va_G) (T : Nat → ClassId) (f0 y0 y1 y2 y3 y4 y5 y6 : Nat) (nw wa fi : Nat → Nat) (sb : Nat → Option Nat) (pa bi fr : Nat → Nat) (cn lb : Nat) (i : Nat) (hi : i ≤ 200) (h1 : nw i ≤ 200) (h2 : fi (nw i) ≤ 200) : Con l D T yX0_leader cX0_leader 2 (some .int) 0 0 0 [.ref f0, .int (nI i)] [(f0, .inr (0, [.ref y0, .ref y1, .ref y2, .ref y3, .ref y4, .ref y5, .ref y6, .int (nI cn), .int (nI lb)])), (y0, .inl (T 0, 201, .inl (fun z9 => nI (nw z9)))), (y1, .inl (T 0, 201, .inl (fun z9 => nI (wa z9)))), (y2, .inl (T 0, 201, .inl (fun z9 => nI (fi z9)))), (y3, .inl (T 0, 201, .inl (fun z9 => oI (sb z9)))), (y4, .inl (T 0, 201, .inl (fun z9 => nI (pa z9)))), (y5, .inl (T 0, 201, .inl (fun z9 => nI (bi z9)))), (y6, .inl (T 0, 201, .inl (fun z9 => nI (fr z9))))] (fun v w1 => w1 = [(f0, .inr (0, [.ref y0, .ref y1, .ref y2, .ref y3, .ref y4, .ref y5, .ref y6, .int (nI cn), .int (nI lb)])), (y0, .inl (T 0, 201, .inl (fun z9 => nI (nw z9)))), (y1, .inl (T 0, 201, .inl (fun z9 => nI (wa z9)))), (y2, .inl (T 0, 201, .inl (fun z9 => nI (fi z9)))), (y3, .inl (T 0, 201, .inl (fun z9 => oI (sb z9)))), (y4, .inl (T 0, 201, .inl (fun z9 => nI (pa z9)))), (y5, .inl (T 0, 201, .inl (fun z9 => nI (bi z9)))), (y6, .inl (T 0, 201, .inl (fun z9 => nI (fr z9))))] ∧ v = some (.int (nI (fi (nw i))))) := by
  refine Con.of (by decide) (Nat.le_of_ble_eq_true rfl) ?_
  intro E hE
  refine g_lv (lv' := [(0, .ref f0), (1, .int (nI i))]) [0, 1] rfl ?_
  refine g_aload_n (pc' := 1) hE 0 rfl rfl dX0_leader_0 rfl ?_
  refine g_get (pc' := 4) hE gcX0 0 rfl 2 (by decide) rfl kX0_18 dX0_leader_1 rfl ?_
  refine g_aload_n (pc' := 5) hE 0 rfl rfl dX0_leader_4 rfl ?_
  refine g_get (pc' := 8) hE gcX0 0 rfl 0 (by decide) rfl kX0_9 dX0_leader_5 rfl ?_
  refine g_iload_n (pc' := 9) hE 1 rfl rfl dX0_leader_8 rfl ?_
  refine g_iald (pc' := 10) hE 1 rfl (by omega) (by omega) dX0_leader_9 rfl ?_
  refine g_iald (pc' := 11) hE 3 rfl (by omega) (by omega) dX0_leader_10 rfl ?_
  exact hE.iret (⟨rfl, rfl⟩) (Nat.zero_le _) (Nat.zero_le _) dX0_leader_11

set_option maxHeartbeats 4000000 in
set_option maxRecDepth 100000 in
theorem qX0_freshNumber (l : Launch) (D : va_G) (T : Nat → ClassId) (f0 y0 y1 y2 y3 y4 y5 y6 : Nat) (nw wa fi : Nat → Nat) (sb : Nat → Option Nat) (pa bi fr : Nat → Nat) (cn lb : Nat) (i : Nat) (hi : i ≤ 200) (h1 : nw i ≤ 200) (h2 : fi (nw i) ≤ 200) : Con l D T yX0_freshNumber cX0_freshNumber 2 (some .int) 1 0 0 [.ref f0, .int (nI i)] [(f0, .inr (0, [.ref y0, .ref y1, .ref y2, .ref y3, .ref y4, .ref y5, .ref y6, .int (nI cn), .int (nI lb)])), (y0, .inl (T 0, 201, .inl (fun z9 => nI (nw z9)))), (y1, .inl (T 0, 201, .inl (fun z9 => nI (wa z9)))), (y2, .inl (T 0, 201, .inl (fun z9 => nI (fi z9)))), (y3, .inl (T 0, 201, .inl (fun z9 => oI (sb z9)))), (y4, .inl (T 0, 201, .inl (fun z9 => nI (pa z9)))), (y5, .inl (T 0, 201, .inl (fun z9 => nI (bi z9)))), (y6, .inl (T 0, 201, .inl (fun z9 => nI (fr z9))))] (fun v w1 => w1 = [(f0, .inr (0, [.ref y0, .ref y1, .ref y2, .ref y3, .ref y4, .ref y5, .ref y6, .int (nI cn), .int (nI lb)])), (y0, .inl (T 0, 201, .inl (fun z9 => nI (nw z9)))), (y1, .inl (T 0, 201, .inl (fun z9 => nI (wa z9)))), (y2, .inl (T 0, 201, .inl (fun z9 => nI (fi z9)))), (y3, .inl (T 0, 201, .inl (fun z9 => oI (sb z9)))), (y4, .inl (T 0, 201, .inl (fun z9 => nI (pa z9)))), (y5, .inl (T 0, 201, .inl (fun z9 => nI (bi z9)))), (y6, .inl (T 0, 201, .inl (fun z9 => nI (fr z9))))] ∧ v = some (.int (nI (fr (fi (nw i)))))) := by
  refine Con.of (by decide) (Nat.le_of_ble_eq_true rfl) ?_
  intro E hE
  refine g_lv (lv' := [(0, .ref f0), (1, .int (nI i))]) [0, 1] rfl ?_
  refine g_aload_n (pc' := 1) hE 0 rfl rfl dX0_freshNumber_0 rfl ?_
  refine g_get (pc' := 4) hE gcX0 0 rfl 6 (by decide) rfl kX0_30 dX0_freshNumber_1 rfl ?_
  refine g_aload_n (pc' := 5) hE 0 rfl rfl dX0_freshNumber_4 rfl ?_
  refine g_iload_n (pc' := 6) hE 1 rfl rfl dX0_freshNumber_5 rfl ?_
  refine g_callV (pc' := 9) (As := [.int (nI i)]) (rest := [.ref y6]) hE (qX0_leader l D T f0 y0 y1 y2 y3 y4 y5 y6 nw wa fi sb pa bi fr cn lb i hi h1 h2) mX0_leader kX0_53 iX0_leader sX0_leader (by decide) rfl (by decide) 0 rfl rfl [0, 1, 2, 3, 4, 5, 6, 7] rfl (by decide) rfl (Nat.le_of_ble_eq_true rfl) dX0_freshNumber_6 rfl (gBackR [0, 1, 2, 3, 4, 5, 6, 7] rfl ?_)
  rintro _ rfl
  refine g_st (st' := [.int (nI (fi (nw i))), .ref y6]) rfl ?_
  refine g_iald (pc' := 10) hE 7 rfl (by omega) (by omega) dX0_freshNumber_9 rfl ?_
  exact hE.iret (⟨rfl, rfl⟩) (Nat.zero_le _) (Nat.zero_le _) dX0_freshNumber_10

set_option maxHeartbeats 4000000 in
set_option maxRecDepth 100000 in
theorem qX0_classes (l : Launch) (D : va_G) (T : Nat → ClassId) (f0 y0 y1 y2 y3 y4 y5 y6 : Nat) (nw wa fi : Nat → Nat) (sb : Nat → Option Nat) (pa bi fr : Nat → Nat) (cn lb : Nat) (h1 : 1 ≤ cn) : Con l D T yX0_classes cX0_classes 1 (some .int) 0 0 0 [.ref f0] [(f0, .inr (0, [.ref y0, .ref y1, .ref y2, .ref y3, .ref y4, .ref y5, .ref y6, .int (nI cn), .int (nI lb)])), (y0, .inl (T 0, 201, .inl (fun z9 => nI (nw z9)))), (y1, .inl (T 0, 201, .inl (fun z9 => nI (wa z9)))), (y2, .inl (T 0, 201, .inl (fun z9 => nI (fi z9)))), (y3, .inl (T 0, 201, .inl (fun z9 => oI (sb z9)))), (y4, .inl (T 0, 201, .inl (fun z9 => nI (pa z9)))), (y5, .inl (T 0, 201, .inl (fun z9 => nI (bi z9)))), (y6, .inl (T 0, 201, .inl (fun z9 => nI (fr z9))))] (fun v w1 => w1 = [(f0, .inr (0, [.ref y0, .ref y1, .ref y2, .ref y3, .ref y4, .ref y5, .ref y6, .int (nI cn), .int (nI lb)])), (y0, .inl (T 0, 201, .inl (fun z9 => nI (nw z9)))), (y1, .inl (T 0, 201, .inl (fun z9 => nI (wa z9)))), (y2, .inl (T 0, 201, .inl (fun z9 => nI (fi z9)))), (y3, .inl (T 0, 201, .inl (fun z9 => oI (sb z9)))), (y4, .inl (T 0, 201, .inl (fun z9 => nI (pa z9)))), (y5, .inl (T 0, 201, .inl (fun z9 => nI (bi z9)))), (y6, .inl (T 0, 201, .inl (fun z9 => nI (fr z9))))] ∧ v = some (.int (nI (cn - 1)))) := by
  refine Con.of (by decide) (Nat.le_of_ble_eq_true rfl) ?_
  intro E hE
  refine g_lv (lv' := [(0, .ref f0)]) [0] rfl ?_
  refine g_aload_n (pc' := 1) hE 0 rfl rfl dX0_classes_0 rfl ?_
  refine g_get (pc' := 4) hE gcX0 0 rfl 7 (by decide) rfl kX0_33 dX0_classes_1 rfl ?_
  refine g_iconst (pc' := 5) hE (nI 1) (by decide) dX0_classes_4 rfl ?_
  refine g_isub (pc' := 6) hE dX0_classes_5 rfl ?_
  refine g_eqi (show _ = nI (cn - 1) from pk_sub (by omega)) ?_
  exact hE.iret (⟨rfl, rfl⟩) (Nat.zero_le _) (Nat.zero_le _) dX0_classes_6
