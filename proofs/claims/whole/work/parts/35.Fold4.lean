set_option maxHeartbeats 4000000 in
set_option maxRecDepth 100000 in
theorem qX0_depthApart (l : Launch) (D : va_G) (T : Nat → ClassId) (f0 y0 y1 y2 y3 y4 y5 y6 : Nat) (nw wa fi : Nat → Nat) (sb : Nat → Option Nat) (pa bi fr : Nat → Nat) (cn lb : Nat) (t : Nat → Nat) (sg N i j : Nat) (hN : N ≤ 200) (hF : FoldOK t sg N nw fi pa bi fr cn lb) (hi : i ≤ N) (hj : j ≤ N) (hb9 : ∀ c, bi c ≤ 201) : Con l D T yX0_depthApart cX0_depthApart 7 (some .int) 0 0 0 [.ref f0, .int (nI i), .int (nI j)] [(f0, .inr (0, [.ref y0, .ref y1, .ref y2, .ref y3, .ref y4, .ref y5, .ref y6, .int (nI cn), .int (nI lb)])), (y0, .inl (T 0, 201, .inl (fun z9 => nI (nw z9)))), (y1, .inl (T 0, 201, .inl (fun z9 => nI (wa z9)))), (y2, .inl (T 0, 201, .inl (fun z9 => nI (fi z9)))), (y3, .inl (T 0, 201, .inl (fun z9 => oI (sb z9)))), (y4, .inl (T 0, 201, .inl (fun z9 => nI (pa z9)))), (y5, .inl (T 0, 201, .inl (fun z9 => nI (bi z9)))), (y6, .inl (T 0, 201, .inl (fun z9 => nI (fr z9))))] (fun v w1 => w1 = [(f0, .inr (0, [.ref y0, .ref y1, .ref y2, .ref y3, .ref y4, .ref y5, .ref y6, .int (nI cn), .int (nI lb)])), (y0, .inl (T 0, 201, .inl (fun z9 => nI (nw z9)))), (y1, .inl (T 0, 201, .inl (fun z9 => nI (wa z9)))), (y2, .inl (T 0, 201, .inl (fun z9 => nI (fi z9)))), (y3, .inl (T 0, 201, .inl (fun z9 => oI (sb z9)))), (y4, .inl (T 0, 201, .inl (fun z9 => nI (pa z9)))), (y5, .inl (T 0, 201, .inl (fun z9 => nI (bi z9)))), (y6, .inl (T 0, 201, .inl (fun z9 => nI (fr z9))))] ∧ ∃ r : Nat, v = some (.int (nI r)) ∧ Apart t sg r i j) := by
  refine Con.of (by decide) (Nat.le_of_ble_eq_true rfl) ?_
  intro E hE
  obtain ⟨⟨dd, hRD⟩, hFin, -⟩ := hF
  have hcn := hRD.1.2
  have hni := (hRD.2.1 i hi).1
  have hnj := (hRD.2.1 j hj).1
  have hbi : ∀ c, c < cn → bi c ≤ dd := fun c hc => (hRD.2.2.2.2.2.1 c hc).1
  have hdd : ∀ c, c < cn → bi c < 2 ^ 31 := fun c _ => Nat.lt_of_le_of_lt (hb9 c) (by decide)
  refine g_lv (lv' := [(0, .ref f0), (1, .int (nI i)), (2, .int (nI j))]) [0, 1, 2] rfl ?_
  refine g_aload_n (pc' := 1) hE 0 rfl rfl dX0_depthApart_0 rfl ?_
  refine g_get (pc' := 4) hE gcX0 0 rfl 0 (by decide) rfl kX0_9 dX0_depthApart_1 rfl ?_
  refine g_iload_n (pc' := 5) hE 1 rfl rfl dX0_depthApart_4 rfl ?_
  refine g_iald (pc' := 6) hE 1 rfl (by omega) (by omega) dX0_depthApart_5 rfl ?_
  refine g_istore_n (pc' := 7) hE [(3, .int (nI (nw i))), (0, .ref f0), (1, .int (nI i)), (2, .int (nI j))] dX0_depthApart_6 rfl rfl (by decide) rfl ?_
  refine g_aload_n (pc' := 8) hE 1 rfl rfl dX0_depthApart_7 rfl ?_
  refine g_get (pc' := 11) hE gcX0 0 rfl 0 (by decide) rfl kX0_9 dX0_depthApart_8 rfl ?_
  refine g_iload_n (pc' := 12) hE 3 rfl rfl dX0_depthApart_11 rfl ?_
  refine g_iald (pc' := 13) hE 1 rfl (by omega) (by omega) dX0_depthApart_12 rfl ?_
  refine g_istore (pc' := 15) hE [(4, .int (nI (nw j))), (3, .int (nI (nw i))), (0, .ref f0), (1, .int (nI i)), (2, .int (nI j))] dX0_depthApart_13 rfl (by decide) rfl ?_
  refine g_iconst (pc' := 16) hE (nI 0) (by decide) dX0_depthApart_15 rfl ?_
  refine g_istore (pc' := 18) hE [(5, .int (nI 0)), (4, .int (nI (nw j))), (3, .int (nI (nw i))), (0, .ref f0), (1, .int (nI i)), (2, .int (nI j))] dX0_depthApart_16 rfl (by decide) rfl ?_
  refine g_iconst (pc' := 19) hE (nI 0) (by decide) dX0_depthApart_18 rfl ?_
  refine g_istore (pc' := 21) hE [(6, .int (nI 0)), (5, .int (nI 0)), (4, .int (nI (nw j))), (3, .int (nI (nw i))), (0, .ref f0), (1, .int (nI i)), (2, .int (nI j))] dX0_depthApart_19 rfl (by decide) rfl ?_
  refine (show ∀ (d21 : Nat) (a : Nat) (b : Nat) (r : Nat) (s : Nat), a + b = d21 → (a < cn) → (b < cn) → (a + b + s + 2 ≤ 2 * cn) → (DA t sg fi bi i j a b r) → G l E D 7 0 0 [(f0, .inr (0, [.ref y0, .ref y1, .ref y2, .ref y3, .ref y4, .ref y5, .ref y6, .int (nI cn), .int (nI lb)])), (y0, .inl (T 0, 201, .inl (fun z9 => nI (nw z9)))), (y1, .inl (T 0, 201, .inl (fun z9 => nI (wa z9)))), (y2, .inl (T 0, 201, .inl (fun z9 => nI (fi z9)))), (y3, .inl (T 0, 201, .inl (fun z9 => oI (sb z9)))), (y4, .inl (T 0, 201, .inl (fun z9 => nI (pa z9)))), (y5, .inl (T 0, 201, .inl (fun z9 => nI (bi z9)))), (y6, .inl (T 0, 201, .inl (fun z9 => nI (fr z9))))] [(6, .int (nI s)), (5, .int (nI r)), (4, .int (nI b)), (3, .int (nI a)), (0, .ref f0), (1, .int (nI i)), (2, .int (nI j))] 21 [] from ?_) _ (nw i) (nw j) 0 0 rfl hni hnj (by omega) (Or.inl ⟨rfl, fun e => (hFin e i hi).sy, fun e => (hFin e j hj).sy⟩)
  intro d21
  induction d21 using Nat.strongRecOn with
  | _ d21 ih21 =>
  intro a b r s hd21 ha2 hb2 hsum hDA
  refine g_iload (pc' := 23) hE 0 rfl dX0_depthApart_21 rfl ?_
  refine g_iconst (pc' := 24) hE (nI 2) (by decide) dX0_depthApart_23 rfl ?_
  refine g_aload_n (pc' := 25) hE 4 rfl rfl dX0_depthApart_24 rfl ?_
  refine g_get (pc' := 28) hE gcX0 0 rfl 7 (by decide) rfl kX0_33 dX0_depthApart_25 rfl ?_
  refine g_imul (pc' := 29) hE dX0_depthApart_28 rfl ?_
  refine g_eqi (show _ = nI (2 * cn) from pk_mul _ _) ?_
  refine g_icmpN_ge (pc' := 32) (tgt := 96) hE (by omega) (by omega) dX0_depthApart_29 rfl rfl (fun hc29 => ?_) (fun hc29 => ?_)
  · omega
  refine g_iload_n (pc' := 33) hE 3 rfl rfl dX0_depthApart_32 rfl ?_
  refine g_iload (pc' := 35) hE 2 rfl dX0_depthApart_33 rfl ?_
  refine g_icmpN_eq (pc' := 38) (tgt := 96) hE (by omega) (by omega) dX0_depthApart_35 rfl rfl (fun hc35 => ?_) (fun hc35 => ?_)
  · refine g_iload (pc' := 98) hE 1 rfl dX0_depthApart_96 rfl ?_
    exact hE.iret (⟨rfl, r, rfl, by rw [hc35] at hDA; exact hDA.done⟩) (Nat.zero_le _) (Nat.zero_le _) dX0_depthApart_98
  · refine g_aload_n (pc' := 39) hE 4 rfl rfl dX0_depthApart_38 rfl ?_
    refine g_get (pc' := 42) hE gcX0 0 rfl 5 (by decide) rfl kX0_27 dX0_depthApart_39 rfl ?_
    refine g_iload_n (pc' := 43) hE 3 rfl rfl dX0_depthApart_42 rfl ?_
    refine g_iald (pc' := 44) hE 6 rfl (by omega) (by omega) dX0_depthApart_43 rfl ?_
    refine g_aload_n (pc' := 45) hE 4 rfl rfl dX0_depthApart_44 rfl ?_
    refine g_get (pc' := 48) hE gcX0 0 rfl 5 (by decide) rfl kX0_27 dX0_depthApart_45 rfl ?_
    refine g_iload (pc' := 50) hE 2 rfl dX0_depthApart_48 rfl ?_
    refine g_iald (pc' := 51) hE 6 rfl (by omega) (by omega) dX0_depthApart_50 rfl ?_
    refine g_icmpN_lt (pc' := 54) (tgt := 72) hE (hdd _ ha2) (hdd _ hb2) dX0_depthApart_51 rfl rfl (fun hc51 => ?_) (fun hc51 => ?_)
    · obtain ⟨u1, u2, u3⟩ := hRD.up hDA.sy hb2 ha2 (Ne.symm hc35) (Nat.le_of_lt hc51)
      have u3 := u3.sy
      refine g_aload_n (pc' := 73) hE 4 rfl rfl dX0_depthApart_72 rfl ?_
      refine g_get (pc' := 76) hE gcX0 0 rfl 5 (by decide) rfl kX0_27 dX0_depthApart_73 rfl ?_
      refine g_iload (pc' := 78) hE 2 rfl dX0_depthApart_76 rfl ?_
      refine g_iald (pc' := 79) hE 6 rfl (by omega) (by omega) dX0_depthApart_78 rfl ?_
      refine g_istore (pc' := 81) hE [(5, .int (nI (bi b))), (6, .int (nI s)), (4, .int (nI b)), (3, .int (nI a)), (0, .ref f0), (1, .int (nI i)), (2, .int (nI j))] dX0_depthApart_79 rfl (by decide) rfl ?_
      refine g_aload_n (pc' := 82) hE 4 rfl rfl dX0_depthApart_81 rfl ?_
      refine g_get (pc' := 85) hE gcX0 0 rfl 4 (by decide) rfl kX0_24 dX0_depthApart_82 rfl ?_
      refine g_iload (pc' := 87) hE 2 rfl dX0_depthApart_85 rfl ?_
      refine g_iald (pc' := 88) hE 5 rfl (by omega) (by omega) dX0_depthApart_87 rfl ?_
      refine g_istore (pc' := 90) hE [(4, .int (nI (pa b))), (5, .int (nI (bi b))), (6, .int (nI s)), (3, .int (nI a)), (0, .ref f0), (1, .int (nI i)), (2, .int (nI j))] dX0_depthApart_88 rfl (by decide) rfl ?_
      refine g_iinc (pc' := 93) hE (nI (s + 1)) [(6, .int (nI (s + 1))), (4, .int (nI (pa b))), (5, .int (nI (bi b))), (3, .int (nI a)), (0, .ref f0), (1, .int (nI i)), (2, .int (nI j))] 2 rfl dX0_depthApart_90 rfl (g_incN _ 1) (by decide) rfl ?_
      refine g_goto (tgt := 21) hE dX0_depthApart_93 rfl ?_
      refine g_lv [0, 2, 1, 3, 4, 5, 6] (lv' := [(6, .int (nI (s + 1))), (5, .int (nI (bi b))), (4, .int (nI (pa b))), (3, .int (nI a)), (0, .ref f0), (1, .int (nI i)), (2, .int (nI j))]) rfl ?_
      exact ih21 _ (by omega) a (pa b) (bi b) (s + 1) rfl ha2 u2 (by omega) u3
    · obtain ⟨u1, u2, u3⟩ := hRD.up hDA ha2 hb2 hc35 hc51
      refine g_aload_n (pc' := 55) hE 4 rfl rfl dX0_depthApart_54 rfl ?_
      refine g_get (pc' := 58) hE gcX0 0 rfl 5 (by decide) rfl kX0_27 dX0_depthApart_55 rfl ?_
      refine g_iload_n (pc' := 59) hE 3 rfl rfl dX0_depthApart_58 rfl ?_
      refine g_iald (pc' := 60) hE 6 rfl (by omega) (by omega) dX0_depthApart_59 rfl ?_
      refine g_istore (pc' := 62) hE [(5, .int (nI (bi a))), (6, .int (nI s)), (4, .int (nI b)), (3, .int (nI a)), (0, .ref f0), (1, .int (nI i)), (2, .int (nI j))] dX0_depthApart_60 rfl (by decide) rfl ?_
      refine g_aload_n (pc' := 63) hE 4 rfl rfl dX0_depthApart_62 rfl ?_
      refine g_get (pc' := 66) hE gcX0 0 rfl 4 (by decide) rfl kX0_24 dX0_depthApart_63 rfl ?_
      refine g_iload_n (pc' := 67) hE 3 rfl rfl dX0_depthApart_66 rfl ?_
      refine g_iald (pc' := 68) hE 5 rfl (by omega) (by omega) dX0_depthApart_67 rfl ?_
      refine g_istore_n (pc' := 69) hE [(3, .int (nI (pa a))), (5, .int (nI (bi a))), (6, .int (nI s)), (4, .int (nI b)), (0, .ref f0), (1, .int (nI i)), (2, .int (nI j))] dX0_depthApart_68 rfl rfl (by decide) rfl ?_
      refine g_goto (tgt := 90) hE dX0_depthApart_69 rfl ?_
      refine g_iinc (pc' := 93) hE (nI (s + 1)) [(6, .int (nI (s + 1))), (3, .int (nI (pa a))), (5, .int (nI (bi a))), (4, .int (nI b)), (0, .ref f0), (1, .int (nI i)), (2, .int (nI j))] 2 rfl dX0_depthApart_90 rfl (g_incN _ 1) (by decide) rfl ?_
      refine g_goto (tgt := 21) hE dX0_depthApart_93 rfl ?_
      refine g_lv [0, 2, 3, 1, 4, 5, 6] (lv' := [(6, .int (nI (s + 1))), (5, .int (nI (bi a))), (4, .int (nI b)), (3, .int (nI (pa a))), (0, .ref f0), (1, .int (nI i)), (2, .int (nI j))]) rfl ?_
      exact ih21 _ (by omega) (pa a) b (bi a) (s + 1) rfl u2 hb2 (by omega) u3
