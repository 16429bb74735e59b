set_option maxHeartbeats 4000000 in
set_option maxRecDepth 100000 in
theorem qX0_greatestAlike (l : Launch) (D : va_G) (T : Nat → ClassId) (f0 y0 y1 y2 y3 y4 y5 y6 : Nat) (nw wa fi : Nat → Nat) (sb : Nat → Option Nat) (pa bi fr : Nat → Nat) (cn lb : Nat) (h1 : lb ≤ 201) : Con l D T yX0_greatestAlike cX0_greatestAlike 1 (some .int) 1 0 0 [.ref f0] [(f0, .inr (0, [.ref y0, .ref y1, .ref y2, .ref y3, .ref y4, .ref y5, .ref y6, .int (nI cn), .int (nI lb)])), (y0, .inl (T 0, 201, .inl (fun z9 => nI (nw z9)))), (y1, .inl (T 0, 201, .inl (fun z9 => nI (wa z9)))), (y2, .inl (T 0, 201, .inl (fun z9 => nI (fi z9)))), (y3, .inl (T 0, 201, .inl (fun z9 => oI (sb z9)))), (y4, .inl (T 0, 201, .inl (fun z9 => nI (pa z9)))), (y5, .inl (T 0, 201, .inl (fun z9 => nI (bi z9)))), (y6, .inl (T 0, 201, .inl (fun z9 => nI (fr z9))))] (fun v w1 => w1 = [(f0, .inr (0, [.ref y0, .ref y1, .ref y2, .ref y3, .ref y4, .ref y5, .ref y6, .int (nI cn), .int (nI lb)])), (y0, .inl (T 0, 201, .inl (fun z9 => nI (nw z9)))), (y1, .inl (T 0, 201, .inl (fun z9 => nI (wa z9)))), (y2, .inl (T 0, 201, .inl (fun z9 => nI (fi z9)))), (y3, .inl (T 0, 201, .inl (fun z9 => oI (sb z9)))), (y4, .inl (T 0, 201, .inl (fun z9 => nI (pa z9)))), (y5, .inl (T 0, 201, .inl (fun z9 => nI (bi z9)))), (y6, .inl (T 0, 201, .inl (fun z9 => nI (fr z9))))] ∧ v = some (.int (nI (lb - 1)))) := by
  refine Con.of (by decide) (Nat.le_of_ble_eq_true rfl) ?_
  intro E hE
  refine g_lv (lv' := [(0, .ref f0)]) [0] rfl ?_
  refine g_iconst (pc' := 1) hE (nI 0) (by decide) dX0_greatestAlike_0 rfl ?_
  refine g_aload_n (pc' := 2) hE 0 rfl rfl dX0_greatestAlike_1 rfl ?_
  refine g_get (pc' := 5) hE gcX0 0 rfl 8 (by decide) rfl kX0_37 dX0_greatestAlike_2 rfl ?_
  refine g_iconst (pc' := 6) hE (nI 1) (by decide) dX0_greatestAlike_5 rfl ?_
  refine g_isub (pc' := 7) hE dX0_greatestAlike_6 rfl ?_
  refine g_maxIR (pc' := 10) (w := nI (lb - 1)) hE (max0 h1) kX0_57 (by omega) (Nat.zero_le _) (Nat.zero_le _) (Nat.le_of_ble_eq_true rfl) dX0_greatestAlike_7 rfl ?_
  exact hE.iret (⟨rfl, rfl⟩) (Nat.zero_le _) (Nat.zero_le _) dX0_greatestAlike_10
