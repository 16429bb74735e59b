set_option maxHeartbeats 4000000 in
set_option maxRecDepth 100000 in
theorem qX0_numberLeaders (l : Launch) (D : va_G) (T : Nat → ClassId) (f0 y0 y1 y2 y3 y4 y5 y6 : Nat) (nw wa fi : Nat → Nat) (sb : Nat → Option Nat) (pa bi fr : Nat → Nat) (cn lb : Nat) (N : Nat) (hN : N ≤ 200) (hFB : FB nw wa fi sb pa bi fr) (hf0 : fr 0 = 0) : Con l D T yX0_numberLeaders cX0_numberLeaders 4 none 1 0 0 [.ref f0, .int (nI N)] [(f0, .inr (0, [.ref y0, .ref y1, .ref y2, .ref y3, .ref y4, .ref y5, .ref y6, .int (nI cn), .int (nI lb)])), (y0, .inl (T 0, 201, .inl (fun z9 => nI (nw z9)))), (y1, .inl (T 0, 201, .inl (fun z9 => nI (wa z9)))), (y2, .inl (T 0, 201, .inl (fun z9 => nI (fi z9)))), (y3, .inl (T 0, 201, .inl (fun z9 => oI (sb z9)))), (y4, .inl (T 0, 201, .inl (fun z9 => nI (pa z9)))), (y5, .inl (T 0, 201, .inl (fun z9 => nI (bi z9)))), (y6, .inl (T 0, 201, .inl (fun z9 => nI (fr z9))))] (fun v w1 => ∃ fr' : Nat → Nat, v = none ∧ w1 = [(f0, .inr (0, [.ref y0, .ref y1, .ref y2, .ref y3, .ref y4, .ref y5, .ref y6, .int (nI cn), .int (nI lb)])), (y0, .inl (T 0, 201, .inl (fun z9 => nI (nw z9)))), (y1, .inl (T 0, 201, .inl (fun z9 => nI (wa z9)))), (y2, .inl (T 0, 201, .inl (fun z9 => nI (fi z9)))), (y3, .inl (T 0, 201, .inl (fun z9 => oI (sb z9)))), (y4, .inl (T 0, 201, .inl (fun z9 => nI (pa z9)))), (y5, .inl (T 0, 201, .inl (fun z9 => nI (bi z9)))), (y6, .inl (T 0, 201, .inl (fun z9 => nI (fr' z9))))] ∧ FB nw wa fi sb pa bi fr' ∧ FrOK N nw fi fr') := by
  refine Con.of (by decide) (Nat.le_of_ble_eq_true rfl) ?_
  intro E hE
  refine g_lv (lv' := [(0, .ref f0), (1, .int (nI N))]) [0, 1] rfl ?_
  refine g_iconst (pc' := 1) hE (nI 0) (by decide) dX0_numberLeaders_0 rfl ?_
  refine g_istore_n (pc' := 2) hE [(2, .int (nI 0)), (0, .ref f0), (1, .int (nI N))] dX0_numberLeaders_1 rfl rfl (by decide) rfl ?_
  refine g_iconst (pc' := 3) hE (nI 1) (by decide) dX0_numberLeaders_2 rfl ?_
  refine g_istore_n (pc' := 4) hE [(3, .int (nI 1)), (2, .int (nI 0)), (0, .ref f0), (1, .int (nI N))] dX0_numberLeaders_3 rfl rfl (by decide) rfl ?_
  refine (show ∀ (d4 : Nat) (m : Nat) (fr : Nat → Nat), N - m = d4 → (m ≤ N) → (FB nw wa fi sb pa bi fr) → (fr 0 = 0) → (∀ i, 1 ≤ i → i ≤ m → fi (nw i) = i → fr i = cntP (ldr nw fi) i) → G l E D 4 0 0 [(f0, .inr (0, [.ref y0, .ref y1, .ref y2, .ref y3, .ref y4, .ref y5, .ref y6, .int (nI cn), .int (nI lb)])), (y0, .inl (T 0, 201, .inl (fun z9 => nI (nw z9)))), (y1, .inl (T 0, 201, .inl (fun z9 => nI (wa z9)))), (y2, .inl (T 0, 201, .inl (fun z9 => nI (fi z9)))), (y3, .inl (T 0, 201, .inl (fun z9 => oI (sb z9)))), (y4, .inl (T 0, 201, .inl (fun z9 => nI (pa z9)))), (y5, .inl (T 0, 201, .inl (fun z9 => nI (bi z9)))), (y6, .inl (T 0, 201, .inl (fun z9 => nI (fr z9))))] [(3, .int (nI (m + 1))), (2, .int (nI (cntP (ldr nw fi) m))), (0, .ref f0), (1, .int (nI N))] 4 [] from ?_) _ 0 fr rfl (Nat.zero_le _) hFB hf0 (fun i h1 h2 => absurd h2 (by omega))
  intro d4
  induction d4 using Nat.strongRecOn with
  | _ d4 ih4 =>
  intro m fr hd4 hm hFB hf0 hfr
  refine g_iload_n (pc' := 5) hE 0 rfl rfl dX0_numberLeaders_4 rfl ?_
  refine g_iload_n (pc' := 6) hE 3 rfl rfl dX0_numberLeaders_5 rfl ?_
  refine g_icmpN_gt (pc' := 9) (tgt := 34) hE (by omega) (by omega) dX0_numberLeaders_6 rfl rfl (fun hc6 => ?_) (fun hc6 => ?_)
  · exact hE.vret (⟨fr, rfl, rfl, hFB, hf0, fun i h1 h2 h3 => hfr i h1 (by omega) h3⟩) (Nat.zero_le _) (Nat.zero_le _) dX0_numberLeaders_34
  · refine g_aload_n (pc' := 10) hE 2 rfl rfl dX0_numberLeaders_9 rfl ?_
    refine g_iload_n (pc' := 11) hE 0 rfl rfl dX0_numberLeaders_10 rfl ?_
    refine g_callV (pc' := 14) (As := [.int (nI (m + 1))]) (rest := []) hE (qX0_leader l D T f0 y0 y1 y2 y3 y4 y5 y6 nw wa fi sb pa bi fr cn lb (m + 1) (by omega) ((hFB.1 _).1) ((hFB.1 _).2.2.1)) mX0_leader kX0_53 iX0_leader sX0_leader (by decide) rfl (by decide) 0 rfl rfl [0, 1, 2, 3, 4, 5, 6, 7] rfl (by decide) rfl (Nat.le_of_ble_eq_true rfl) dX0_numberLeaders_11 rfl (gBackR [0, 1, 2, 3, 4, 5, 6, 7] rfl ?_)
    rintro _ rfl
    refine g_st (st' := [.int (nI (fi (nw (m + 1))))]) rfl ?_
    refine g_iload_n (pc' := 15) hE 0 rfl rfl dX0_numberLeaders_14 rfl ?_
    have hfl := (hFB.1 (nw (m + 1))).2.2.1
    have hcp := cntP_le (ldr nw fi) m
    refine g_icmpN_ne (pc' := 18) (tgt := 28) hE (by omega) (by omega) dX0_numberLeaders_15 rfl rfl (fun hc15 => ?_) (fun hc15 => ?_)
    · refine g_lvw (lv' := [(3, .int (nI (m + 1))), (2, .int (nI (cntP (ldr nw fi) (m + 1)))), (0, .ref f0), (1, .int (nI N))]) (by rw [show cntP (ldr nw fi) (m + 1) = cntP (ldr nw fi) m by simp only [cntP]; rw [if_neg (by unfold ldr; simp [hc15])]; rfl]) ?_
      refine g_iinc (pc' := 31) hE (nI (m + 1 + 1)) [(3, .int (nI (m + 1 + 1))), (2, .int (nI (cntP (ldr nw fi) (m + 1)))), (0, .ref f0), (1, .int (nI N))] 0 rfl dX0_numberLeaders_28 rfl (g_incN _ 1) (by decide) rfl ?_
      refine g_goto (tgt := 4) hE dX0_numberLeaders_31 rfl ?_
      exact ih4 _ (by omega) (m + 1) fr rfl (by omega) hFB hf0 (fun i h1 h2 h3 => by by_cases e : i = m + 1; (subst e; exact absurd h3 hc15); exact hfr i h1 (by omega) h3)
    · refine g_iinc (pc' := 21) hE (nI (cntP (ldr nw fi) (m + 1))) [(2, .int (nI (cntP (ldr nw fi) (m + 1)))), (3, .int (nI (m + 1))), (0, .ref f0), (1, .int (nI N))] 1 rfl dX0_numberLeaders_18 rfl (by rw [show cntP (ldr nw fi) (m + 1) = cntP (ldr nw fi) m + 1 by simp only [cntP]; rw [if_pos (by unfold ldr; simp [hc15])]]; exact g_incN _ 1) (by decide) rfl ?_
      refine g_aload_n (pc' := 22) hE 2 rfl rfl dX0_numberLeaders_21 rfl ?_
      refine g_get (pc' := 25) hE gcX0 0 rfl 6 (by decide) rfl kX0_30 dX0_numberLeaders_22 rfl ?_
      refine g_iload_n (pc' := 26) hE 1 rfl rfl dX0_numberLeaders_25 rfl ?_
      refine g_iload_n (pc' := 27) hE 0 rfl rfl dX0_numberLeaders_26 rfl ?_
      refine g_iast (pc' := 28) hE 7 [(f0, .inr (0, [.ref y0, .ref y1, .ref y2, .ref y3, .ref y4, .ref y5, .ref y6, .int (nI cn), .int (nI lb)])), (y0, .inl (T 0, 201, .inl (fun z9 => nI (nw z9)))), (y1, .inl (T 0, 201, .inl (fun z9 => nI (wa z9)))), (y2, .inl (T 0, 201, .inl (fun z9 => nI (fi z9)))), (y3, .inl (T 0, 201, .inl (fun z9 => oI (sb z9)))), (y4, .inl (T 0, 201, .inl (fun z9 => nI (pa z9)))), (y5, .inl (T 0, 201, .inl (fun z9 => nI (bi z9)))), (y6, .inl (T 0, 201, .inl (fun z9 => nI ((gu fr (m + 1) (cntP (ldr nw fi) (m + 1))) z9))))] rfl (by omega) (by omega) (gu_I _ _ _) rfl dX0_numberLeaders_27 rfl ?_
      refine g_iinc (pc' := 31) hE (nI (m + 1 + 1)) [(3, .int (nI (m + 1 + 1))), (2, .int (nI (cntP (ldr nw fi) (m + 1)))), (0, .ref f0), (1, .int (nI N))] 1 rfl dX0_numberLeaders_28 rfl (g_incN _ 1) (by decide) rfl ?_
      refine g_goto (tgt := 4) hE dX0_numberLeaders_31 rfl ?_
      exact ih4 _ (by omega) (m + 1) (gu fr (m + 1) (cntP (ldr nw fi) (m + 1))) rfl (by omega) (⟨fun j => ⟨(hFB.1 j).1, (hFB.1 j).2.1, (hFB.1 j).2.2.1, (hFB.1 j).2.2.2.1, (hFB.1 j).2.2.2.2.1, by unfold gu; split; (have := cntP_le (ldr nw fi) (m + 1); omega); exact (hFB.1 j).2.2.2.2.2⟩, hFB.2⟩) (by rw [gu_n _ _ (by omega)]; exact hf0) (fun i h1 h2 h3 => by by_cases e : i = m + 1; (subst e; exact gu_s _ _ _); (rw [gu_n _ _ e]; exact hfr i h1 (by omega) h3))
