set_option maxHeartbeats 4000000 in
set_option maxRecDepth 100000 in
theorem qX6_leansOnAnother (l : Launch) (D : va_G) (T : Nat → ClassId) (k : Nat) (hk : k < 2 ^ 31) : Con l D T yX6_leansOnAnother cX6_leansOnAnother 1 (some .boolean) 0 0 0 [.int (nI k)] [] (fun v w1 => w1 = [] ∧ v = some (.int (bI (leans k)))) := by
  refine Con.of (by decide) (Nat.le_of_ble_eq_true rfl) ?_
  intro E hE
  refine g_lv (lv' := [(0, .int (nI k))]) [0] rfl ?_
  refine g_iload_n (pc' := 1) hE 0 rfl rfl dX6_leansOnAnother_0 rfl ?_
  have hs1_52 : (k = 3 ∨ k = 8 ∨ k = 9 ∨ k = 10 ∨ k = 11) → G l E D 1 0 0 [] [(0, .int (nI k))] 52 [] := by
    intro hsw1
    refine g_iconst (pc' := 53) hE (nI 1) (by decide) dX6_leansOnAnother_52 rfl ?_
    exact hE.zret (by first | rfl | exact bI_nar _ | decide) (⟨rfl, zt (decide_eq_true (by omega))⟩) (Nat.zero_le _) (Nat.zero_le _) dX6_leansOnAnother_53
  have hs1_54 : (k ≠ 3 ∧ k ≠ 8 ∧ k ≠ 9 ∧ k ≠ 10 ∧ k ≠ 11) → G l E D 1 0 0 [] [(0, .int (nI k))] 54 [] := by
    intro hsw1
    refine g_iconst (pc' := 55) hE (nI 0) (by decide) dX6_leansOnAnother_54 rfl ?_
    exact hE.zret (by first | rfl | exact bI_nar _ | decide) (⟨rfl, zf (decide_eq_false (by omega))⟩) (Nat.zero_le _) (Nat.zero_le _) dX6_leansOnAnother_55
  rcases (show k = 3 ∨ k = 4 ∨ k = 5 ∨ k = 6 ∨ k = 7 ∨ k = 8 ∨ k = 9 ∨ k = 10 ∨ k = 11 ∨ ((k : Nat) < 3 ∨ 11 < k) by omega) with hz | hz | hz | hz | hz | hz | hz | hz | hz | hz
  · exact g_tabIn (tgt := 52) hE 3 hz (by decide) (by decide) (by decide) dX6_leansOnAnother_1 rfl rfl (hs1_52 (by omega))
  · exact g_tabIn (tgt := 54) hE 4 hz (by decide) (by decide) (by decide) dX6_leansOnAnother_1 rfl rfl (hs1_54 (by omega))
  · exact g_tabIn (tgt := 54) hE 5 hz (by decide) (by decide) (by decide) dX6_leansOnAnother_1 rfl rfl (hs1_54 (by omega))
  · exact g_tabIn (tgt := 54) hE 6 hz (by decide) (by decide) (by decide) dX6_leansOnAnother_1 rfl rfl (hs1_54 (by omega))
  · exact g_tabIn (tgt := 54) hE 7 hz (by decide) (by decide) (by decide) dX6_leansOnAnother_1 rfl rfl (hs1_54 (by omega))
  · exact g_tabIn (tgt := 52) hE 8 hz (by decide) (by decide) (by decide) dX6_leansOnAnother_1 rfl rfl (hs1_52 (by omega))
  · exact g_tabIn (tgt := 52) hE 9 hz (by decide) (by decide) (by decide) dX6_leansOnAnother_1 rfl rfl (hs1_52 (by omega))
  · exact g_tabIn (tgt := 52) hE 10 hz (by decide) (by decide) (by decide) dX6_leansOnAnother_1 rfl rfl (hs1_52 (by omega))
  · exact g_tabIn (tgt := 52) hE 11 hz (by decide) (by decide) (by decide) dX6_leansOnAnother_1 rfl rfl (hs1_52 (by omega))
  · exact g_tabOut (tgt := 54) hE (by omega) (by omega) dX6_leansOnAnother_1 rfl (hs1_54 (by omega))

set_option maxHeartbeats 4000000 in
set_option maxRecDepth 100000 in
theorem qX6_times (l : Launch) (D : va_G) (T : Nat → ClassId) (s n : Nat) (hs : s ≤ 1000000000000) (hn : n < 2 ^ 32) : Con l D T yX6_times cX6_times 4 (some .long) 0 0 0 [.long (lN s), .long (lN n)] [] (fun v w1 => w1 = [] ∧ v = some (.long (oL (tmZ s n)))) := by
  refine Con.of (by decide) (Nat.le_of_ble_eq_true rfl) ?_
  intro E hE
  refine g_lv (lv' := [(0, .long (lN s)), (2, .long (lN n))]) [0, 1] rfl ?_
  refine g_lload_n (pc' := 1) hE 0 rfl rfl dX6_times_0 rfl ?_
  refine g_lconst (pc' := 2) hE (lN 0) (by decide) dX6_times_1 rfl ?_
  refine g_lcmp (pc' := 3) hE dX6_times_2 rfl ?_
  refine g_ifcN_eq (pc' := 6) (tgt := 12) hE (by omega) (by omega) dX6_times_3 rfl rfl (fun hc3 => ?_) (fun hc3 => ?_)
  · refine g_lconst (pc' := 13) hE (lN 0) (by decide) dX6_times_12 rfl ?_
    exact hE.lret (⟨rfl, by unfold tmZ; rw [show s * n = 0 by first | (rw [hc3, Nat.zero_mul]) | (rw [hc9, Nat.mul_zero])]; rfl⟩) (Nat.zero_le _) (Nat.zero_le _) dX6_times_13
  · refine g_lload_n (pc' := 7) hE 1 rfl rfl dX6_times_6 rfl ?_
    refine g_lconst (pc' := 8) hE (lN 0) (by decide) dX6_times_7 rfl ?_
    refine g_lcmp (pc' := 9) hE dX6_times_8 rfl ?_
    refine g_ifcN_ne (pc' := 12) (tgt := 14) hE (by omega) (by omega) dX6_times_9 rfl rfl (fun hc9 => ?_) (fun hc9 => ?_)
    · refine g_lload_n (pc' := 15) hE 1 rfl rfl dX6_times_14 rfl ?_
      refine g_ldc2 (pc' := 18) hE (v := lN 1000000000000) kX6_45 dX6_times_15 rfl ?_
      refine g_lload_n (pc' := 19) hE 0 rfl rfl dX6_times_18 rfl ?_
      refine g_ldiv (pc' := 20) hE (fun z => hc3 ((pk_lEQ (by omega) (by decide)).mp z)) dX6_times_19 rfl ?_
      refine g_eql (show _ = lN (1000000000000 / s) from pk_lDiv (by decide) (by omega) (by omega)) ?_
      refine g_lcmp (pc' := 21) hE dX6_times_20 rfl ?_
      refine g_ifcN_le (pc' := 24) (tgt := 30) hE (by omega) (Nat.lt_of_le_of_lt (Nat.div_le_self _ _) (by decide)) dX6_times_21 rfl rfl (fun hc21 => ?_) (fun hc21 => ?_)
      · refine g_lload_n (pc' := 31) hE 0 rfl rfl dX6_times_30 rfl ?_
        refine g_lload_n (pc' := 32) hE 1 rfl rfl dX6_times_31 rfl ?_
        refine g_lmul (pc' := 33) hE dX6_times_32 rfl ?_
        refine g_eql (show _ = lN (s * n) from lN_mul _ _) ?_
        exact hE.lret (⟨rfl, by rw [tmZ_ok (by omega) hc21]; rfl⟩) (Nat.zero_le _) (Nat.zero_le _) dX6_times_33
      · refine g_ldc2 (pc' := 27) hE (v := (-1)) kX6_43 dX6_times_24 rfl ?_
        refine g_goto (tgt := 33) hE dX6_times_27 rfl ?_
        exact hE.lret (⟨rfl, by rw [tmZ_big (by omega) hc21]; rfl⟩) (Nat.zero_le _) (Nat.zero_le _) dX6_times_33
    · refine g_lconst (pc' := 13) hE (lN 0) (by decide) dX6_times_12 rfl ?_
      exact hE.lret (⟨rfl, by unfold tmZ; rw [show s * n = 0 by first | (rw [hc3, Nat.zero_mul]) | (rw [hc9, Nat.mul_zero])]; rfl⟩) (Nat.zero_le _) (Nat.zero_le _) dX6_times_13

set_option maxHeartbeats 4000000 in
set_option maxRecDepth 100000 in
theorem qX6_ownBytes (l : Launch) (D : va_G) (T : Nat → ClassId) (h0 a1 a2 a3 x0 N sg : Nat) (af inf wf : Nat → Nat) (x1 cnt : Nat) (b : Nat → Nat) (i : Nat) (hc : cnt ≤ 8192) (hb : ∀ i, b i < 256) (hT : TyArr (cut b cnt) N af inf wf) (hok : okUpTo (cut b cnt) sg cnt N) (hsg : sg ≤ cnt) (hi : i ≤ N) : Con l D T yX6_ownBytes cX6_ownBytes 2 (some .long) 2 0 0 [.ref h0, .int (nI i)] [(h0, .inr (6, [.ref a1, .ref a2, .ref a3, .ref x0, .int (nI N), .int (nI sg)])), (a1, .inl (T 0, 201, .inl (fun z9 => nI (af z9)))), (a2, .inl (T 1, 201, .inr (.inl (fun z9 => lN (inf z9))))), (a3, .inl (T 0, 201, .inl (fun z9 => nI (wf z9)))), (x0, .inr (4, [.int (nI 8192), .ref x1, .int (nI cnt)])), (x1, .inl (T 1, ((8192 + 7) / 8), .inr (.inl (pack b))))] (fun v w1 => w1 = [(h0, .inr (6, [.ref a1, .ref a2, .ref a3, .ref x0, .int (nI N), .int (nI sg)])), (a1, .inl (T 0, 201, .inl (fun z9 => nI (af z9)))), (a2, .inl (T 1, 201, .inr (.inl (fun z9 => lN (inf z9))))), (a3, .inl (T 0, 201, .inl (fun z9 => nI (wf z9)))), (x0, .inr (4, [.int (nI 8192), .ref x1, .int (nI cnt)])), (x1, .inl (T 1, ((8192 + 7) / 8), .inr (.inl (pack b))))] ∧ v = some (.long (oL (ownZ (cut b cnt) N i)))) := by
  refine Con.of (by decide) (Nat.le_of_ble_eq_true rfl) ?_
  intro E hE
  have hN2 := hok.1
  have hkl := kdT_lt (cut b cnt) N i
  refine g_lv (lv' := [(0, .ref h0), (1, .int (nI i))]) [0, 1] rfl ?_
  refine g_aload_n (pc' := 1) hE 0 rfl rfl dX6_ownBytes_0 rfl ?_
  refine g_iload_n (pc' := 2) hE 1 rfl rfl dX6_ownBytes_1 rfl ?_
  refine g_callV (pc' := 5) (As := [.int (nI i)]) (rest := []) hE (qX7_kind l D T h0 a1 a2 a3 x0 N sg af inf wf i hN2 hT.1 (by omega)) mX7_kind kX6_21 iX7_kind sX7_kind (by decide) rfl (by decide) 0 rfl rfl [0, 1, 2, 3] rfl (by decide) rfl (Nat.le_of_ble_eq_true rfl) dX6_ownBytes_2 rfl (gBackR [0, 1, 2, 3] rfl ?_)
  rintro _ rfl
  refine g_st (st' := [.int (nI (hv N i (kd (inf i))))]) rfl ?_
  refine g_eqi (show _ = nI (kdT (cut b cnt) N i) from congrArg nI (hT.kind _)) ?_
  have hs5_44 : ((kdT (cut b cnt) N i) = 1 ∨ (kdT (cut b cnt) N i) = 4 ∨ (kdT (cut b cnt) N i) = 5 ∨ (kdT (cut b cnt) N i) = 6) → G l E D 2 0 0 [(h0, .inr (6, [.ref a1, .ref a2, .ref a3, .ref x0, .int (nI N), .int (nI sg)])), (a1, .inl (T 0, 201, .inl (fun z9 => nI (af z9)))), (a2, .inl (T 1, 201, .inr (.inl (fun z9 => lN (inf z9))))), (a3, .inl (T 0, 201, .inl (fun z9 => nI (wf z9)))), (x0, .inr (4, [.int (nI 8192), .ref x1, .int (nI cnt)])), (x1, .inl (T 1, ((8192 + 7) / 8), .inr (.inl (pack b))))] [(0, .ref h0), (1, .int (nI i))] 44 [] := by
    intro hsw5
    refine g_aload_n (pc' := 45) hE 0 rfl rfl dX6_ownBytes_44 rfl ?_
    refine g_iload_n (pc' := 46) hE 1 rfl rfl dX6_ownBytes_45 rfl ?_
    refine g_iconst (pc' := 47) hE (nI 2) (by decide) dX6_ownBytes_46 rfl ?_
    refine g_callV (pc' := 50) (As := [.int (nI i), .int (nI 2)]) (rest := []) hE (qX7_word l D T h0 a1 a2 a3 x0 N sg af inf wf x1 cnt b i 2 hN2 hT.1 (by omega) (by decide) hc hb) mX7_word kX6_29 iX7_word sX7_word (by decide) rfl (by decide) 0 rfl rfl [0, 1, 2, 3, 4, 5] rfl (by decide) rfl (Nat.le_of_ble_eq_true rfl) dX6_ownBytes_47 rfl (gBackR [0, 1, 2, 3, 4, 5] rfl ?_)
    rintro _ rfl
    refine g_st (st' := [.long (lN (hv N i (num (cut b cnt) (af i + 4 * 2) 4)))]) rfl ?_
    refine g_eql (show _ = lN (hv N i (wdT (cut b cnt) i 2)) from congrArg lN (hT.word _ _)) ?_
    exact hE.lret (⟨rfl, by have hin := kdT_in (t := cut b cnt) (N := N) (i := i) (by omega); unfold ownZ; rw [if_pos (by omega), hv_in _ hin.1 hin.2]; rfl⟩) (Nat.zero_le _) (Nat.zero_le _) dX6_ownBytes_50
  have hs5_51 : ((kdT (cut b cnt) N i) = 2) → G l E D 2 0 0 [(h0, .inr (6, [.ref a1, .ref a2, .ref a3, .ref x0, .int (nI N), .int (nI sg)])), (a1, .inl (T 0, 201, .inl (fun z9 => nI (af z9)))), (a2, .inl (T 1, 201, .inr (.inl (fun z9 => lN (inf z9))))), (a3, .inl (T 0, 201, .inl (fun z9 => nI (wf z9)))), (x0, .inr (4, [.int (nI 8192), .ref x1, .int (nI cnt)])), (x1, .inl (T 1, ((8192 + 7) / 8), .inr (.inl (pack b))))] [(0, .ref h0), (1, .int (nI i))] 51 [] := by
    intro hsw5
    refine g_ldc2 (pc' := 54) hE (v := lN 8) kX6_41 dX6_ownBytes_51 rfl ?_
    exact hE.lret (⟨rfl, by unfold ownZ; rw [if_neg (by omega), if_pos (by omega)]; rfl⟩) (Nat.zero_le _) (Nat.zero_le _) dX6_ownBytes_54
  have hs5_55 : ((kdT (cut b cnt) N i) ≠ 1 ∧ (kdT (cut b cnt) N i) ≠ 2 ∧ (kdT (cut b cnt) N i) ≠ 4 ∧ (kdT (cut b cnt) N i) ≠ 5 ∧ (kdT (cut b cnt) N i) ≠ 6) → G l E D 2 0 0 [(h0, .inr (6, [.ref a1, .ref a2, .ref a3, .ref x0, .int (nI N), .int (nI sg)])), (a1, .inl (T 0, 201, .inl (fun z9 => nI (af z9)))), (a2, .inl (T 1, 201, .inr (.inl (fun z9 => lN (inf z9))))), (a3, .inl (T 0, 201, .inl (fun z9 => nI (wf z9)))), (x0, .inr (4, [.int (nI 8192), .ref x1, .int (nI cnt)])), (x1, .inl (T 1, ((8192 + 7) / 8), .inr (.inl (pack b))))] [(0, .ref h0), (1, .int (nI i))] 55 [] := by
    intro hsw5
    refine g_ldc2 (pc' := 58) hE (v := (-1)) kX6_43 dX6_ownBytes_55 rfl ?_
    exact hE.lret (⟨rfl, by unfold ownZ; rw [if_neg (by omega), if_neg (by omega)]; rfl⟩) (Nat.zero_le _) (Nat.zero_le _) dX6_ownBytes_58
  rcases (show (kdT (cut b cnt) N i) = 1 ∨ (kdT (cut b cnt) N i) = 2 ∨ (kdT (cut b cnt) N i) = 3 ∨ (kdT (cut b cnt) N i) = 4 ∨ (kdT (cut b cnt) N i) = 5 ∨ (kdT (cut b cnt) N i) = 6 ∨ (((kdT (cut b cnt) N i) : Nat) < 1 ∨ 6 < (kdT (cut b cnt) N i)) by omega) with hz | hz | hz | hz | hz | hz | hz
  · exact g_tabIn (tgt := 44) hE 1 hz (by decide) (by decide) (by decide) dX6_ownBytes_5 rfl rfl (hs5_44 (by omega))
  · exact g_tabIn (tgt := 51) hE 2 hz (by decide) (by decide) (by decide) dX6_ownBytes_5 rfl rfl (hs5_51 (by omega))
  · exact g_tabIn (tgt := 55) hE 3 hz (by decide) (by decide) (by decide) dX6_ownBytes_5 rfl rfl (hs5_55 (by omega))
  · exact g_tabIn (tgt := 44) hE 4 hz (by decide) (by decide) (by decide) dX6_ownBytes_5 rfl rfl (hs5_44 (by omega))
  · exact g_tabIn (tgt := 44) hE 5 hz (by decide) (by decide) (by decide) dX6_ownBytes_5 rfl rfl (hs5_44 (by omega))
  · exact g_tabIn (tgt := 44) hE 6 hz (by decide) (by decide) (by decide) dX6_ownBytes_5 rfl rfl (hs5_44 (by omega))
  · exact g_tabOut (tgt := 55) hE (by omega) (by omega) dX6_ownBytes_5 rfl (hs5_55 (by omega))

set_option maxHeartbeats 4000000 in
set_option maxRecDepth 100000 in
theorem qX6_measure (l : Launch) (D : va_G) (T : Nat → ClassId) (z0 p0 : Nat) (pa : Nat → Nat) (h0 a1 a2 a3 x0 N sg : Nat) (af inf wf : Nat → Nat) (x1 cnt : Nat) (b : Nat → Nat) (i : Nat) (hc : cnt ≤ 8192) (hb : ∀ i, b i < 256) (hT : TyArr (cut b cnt) N af inf wf) (hok : okUpTo (cut b cnt) sg cnt N) (hsg : sg ≤ cnt) (hhi : hiAll (cut b cnt) N ≤ N) (hi : i ≤ N) : Con l D T yX6_measure cX6_measure 8 (some .long) 3 0 0 [.ref z0, .ref h0, .int (nI i)] [(z0, .inr (5, [.ref p0])), (p0, .inl (T 0, 201, .inl (fun z9 => nI (pa z9)))), (h0, .inr (6, [.ref a1, .ref a2, .ref a3, .ref x0, .int (nI N), .int (nI sg)])), (a1, .inl (T 0, 201, .inl (fun z9 => nI (af z9)))), (a2, .inl (T 1, 201, .inr (.inl (fun z9 => lN (inf z9))))), (a3, .inl (T 0, 201, .inl (fun z9 => nI (wf z9)))), (x0, .inr (4, [.int (nI 8192), .ref x1, .int (nI cnt)])), (x1, .inl (T 1, ((8192 + 7) / 8), .inr (.inl (pack b))))] (fun v w1 => ∃ (pa' : Nat → Nat) (s : Nat), w1 = [(z0, .inr (5, [.ref p0])), (p0, .inl (T 0, 201, .inl (fun z9 => nI (pa' z9)))), (h0, .inr (6, [.ref a1, .ref a2, .ref a3, .ref x0, .int (nI N), .int (nI sg)])), (a1, .inl (T 0, 201, .inl (fun z9 => nI (af z9)))), (a2, .inl (T 1, 201, .inr (.inl (fun z9 => lN (inf z9))))), (a3, .inl (T 0, 201, .inl (fun z9 => nI (wf z9)))), (x0, .inr (4, [.int (nI 8192), .ref x1, .int (nI cnt)])), (x1, .inl (T 1, ((8192 + 7) / 8), .inr (.inl (pack b))))] ∧ s ≤ N ∧ (∀ k, k < s → leans (kdT (cut b cnt) N (pth (cut b cnt) N i k)) = true) ∧ (s = N ∨ leans (kdT (cut b cnt) N (pth (cut b cnt) N i s)) = false) ∧ v = some (.long (oL (fdZ (cut b cnt) N i s (ownZ (cut b cnt) N (pth (cut b cnt) N i s)))))) := by
  refine Con.of (by decide) (Nat.le_of_ble_eq_true rfl) ?_
  intro E hE
  have hN2 := hok.1
  have hct := cut_lt (c := cnt) hb
  refine g_lv (lv' := [(0, .ref z0), (1, .ref h0), (2, .int (nI i))]) [0, 1, 2] rfl ?_
  refine g_iconst (pc' := 1) hE (nI 0) (by decide) dX6_measure_0 rfl ?_
  refine g_istore_n (pc' := 2) hE [(3, .int (nI 0)), (0, .ref z0), (1, .ref h0), (2, .int (nI i))] dX6_measure_1 rfl rfl (by decide) rfl ?_
  refine g_iload_n (pc' := 3) hE 3 rfl rfl dX6_measure_2 rfl ?_
  refine g_istore (pc' := 5) hE [(4, .int (nI i)), (3, .int (nI 0)), (0, .ref z0), (1, .ref h0), (2, .int (nI i))] dX6_measure_3 rfl (by decide) rfl ?_
  refine (show ∀ (d5 : Nat) (s : Nat) (pa : Nat → Nat), N - s = d5 → (s ≤ N) → (pth (cut b cnt) N i s ≤ N) → (∀ k, k < s → leans (kdT (cut b cnt) N (pth (cut b cnt) N i k)) = true) → (∀ k, k < s → pa k = pth (cut b cnt) N i k) → (∀ k, k < s → pth (cut b cnt) N i k ≤ N) → G l E D 8 0 0 [(z0, .inr (5, [.ref p0])), (p0, .inl (T 0, 201, .inl (fun z9 => nI (pa z9)))), (h0, .inr (6, [.ref a1, .ref a2, .ref a3, .ref x0, .int (nI N), .int (nI sg)])), (a1, .inl (T 0, 201, .inl (fun z9 => nI (af z9)))), (a2, .inl (T 1, 201, .inr (.inl (fun z9 => lN (inf z9))))), (a3, .inl (T 0, 201, .inl (fun z9 => nI (wf z9)))), (x0, .inr (4, [.int (nI 8192), .ref x1, .int (nI cnt)])), (x1, .inl (T 1, ((8192 + 7) / 8), .inr (.inl (pack b))))] [(4, .int (nI (pth (cut b cnt) N i s))), (3, .int (nI s)), (0, .ref z0), (1, .ref h0), (2, .int (nI i))] 5 [] from ?_) _ 0 pa rfl (Nat.zero_le _) hi (fun k hk => absurd hk (by omega)) (fun k hk => absurd hk (by omega)) (fun k hk => absurd hk (by omega))
  intro d5
  induction d5 using Nat.strongRecOn with
  | _ d5 ih5 =>
  intro s pa hd5 hs hp hle hpa hple
  refine g_iload_n (pc' := 6) hE 1 rfl rfl dX6_measure_5 rfl ?_
  refine g_aload_n (pc' := 7) hE 3 rfl rfl dX6_measure_6 rfl ?_
  refine g_callV (pc' := 10) (As := []) (rest := [.int (nI s)]) hE (qX7_count l D T h0 a1 a2 a3 x0 N sg af inf wf ) mX7_count kX6_15 iX7_count sX7_count (by decide) rfl (by decide) 2 rfl rfl [2, 3, 4, 5] rfl (by decide) rfl (Nat.le_of_ble_eq_true rfl) dX6_measure_7 rfl (gBackR [2, 3, 4, 5] rfl ?_)
  rintro _ rfl
  refine g_st (st' := [.int (nI N), .int (nI s)]) rfl ?_
  refine g_icmpN_ge (pc' := 13) (tgt := 63) hE (by omega) (by omega) dX6_measure_10 rfl rfl (fun hc10 => ?_) (fun hc10 => ?_)
  · refine g_aload_n (pc' := 64) hE 3 rfl rfl dX6_measure_63 rfl ?_
    refine g_iload (pc' := 66) hE 0 rfl dX6_measure_64 rfl ?_
    refine g_callS (pc' := 69) (As := [.ref h0, .int (nI (pth (cut b cnt) N i s))]) (rest := []) hE (qX6_ownBytes l D T h0 a1 a2 a3 x0 N sg af inf wf x1 cnt b (pth (cut b cnt) N i s) hc hb hT hok hsg hp) mX6_ownBytes kX6_33 iX6_ownBytes (by decide) rfl (by decide) [2, 3, 4, 5, 6, 7] rfl (by decide) rfl (Nat.le_of_ble_eq_true rfl) dX6_measure_66 rfl (gBackR [2, 3, 4, 5, 6, 7] rfl ?_)
    rintro _ rfl
    refine g_st (st' := [.long (oL (ownZ (cut b cnt) N (pth (cut b cnt) N i s)))]) rfl ?_
    refine g_lstore (pc' := 71) hE [(5, .long (oL (ownZ (cut b cnt) N (pth (cut b cnt) N i s)))), (4, .int (nI (pth (cut b cnt) N i s))), (3, .int (nI s)), (0, .ref z0), (1, .ref h0), (2, .int (nI i))] dX6_measure_69 rfl (by decide) rfl ?_
    refine g_iload_n (pc' := 72) hE 2 rfl rfl dX6_measure_71 rfl ?_
    refine g_iconst (pc' := 73) hE (nI 1) (by decide) dX6_measure_72 rfl ?_
    refine g_isub (pc' := 74) hE dX6_measure_73 rfl ?_
    refine g_istore (pc' := 76) hE [(7, .int ((nI s) - (nI 1))), (5, .long (oL (ownZ (cut b cnt) N (pth (cut b cnt) N i s)))), (4, .int (nI (pth (cut b cnt) N i s))), (3, .int (nI s)), (0, .ref z0), (1, .ref h0), (2, .int (nI i))] dX6_measure_74 rfl (by decide) rfl ?_
    refine (show ∀ (d76 : Nat) (k : Nat) (o : Option Nat), k = d76 → (k ≤ s) → (∀ u, o = some u → u ≤ 1000000000000) → (fdZ (cut b cnt) N i k o = fdZ (cut b cnt) N i s (ownZ (cut b cnt) N (pth (cut b cnt) N i s))) → G l E D 8 0 0 [(z0, .inr (5, [.ref p0])), (p0, .inl (T 0, 201, .inl (fun z9 => nI (pa z9)))), (h0, .inr (6, [.ref a1, .ref a2, .ref a3, .ref x0, .int (nI N), .int (nI sg)])), (a1, .inl (T 0, 201, .inl (fun z9 => nI (af z9)))), (a2, .inl (T 1, 201, .inr (.inl (fun z9 => lN (inf z9))))), (a3, .inl (T 0, 201, .inl (fun z9 => nI (wf z9)))), (x0, .inr (4, [.int (nI 8192), .ref x1, .int (nI cnt)])), (x1, .inl (T 1, ((8192 + 7) / 8), .inr (.inl (pack b))))] [(7, .int ((nI k) - (nI 1))), (5, .long (oL o)), (4, .int (nI (pth (cut b cnt) N i s))), (3, .int (nI s)), (0, .ref z0), (1, .ref h0), (2, .int (nI i))] 76 [] from ?_) _ s (ownZ (cut b cnt) N (pth (cut b cnt) N i s)) rfl (Nat.le_refl _) (fun u hu => by unfold ownZ at hu; split at hu; (cases hu; have := num4_lt hct (off (cut b cnt) (pth (cut b cnt) N i s) + 4 * 2); unfold wdT; omega); split at hu; (cases hu; decide); cases hu) rfl
    intro d76
    induction d76 using Nat.strongRecOn with
    | _ d76 ih76 =>
    intro k o hd76 hk hob hfd
    refine g_iload (pc' := 78) hE 0 rfl dX6_measure_76 rfl ?_
    refine g_if_lt (pc' := 81) (tgt := 128) hE dX6_measure_78 rfl rfl (fun hc78 => ?_) (fun hc78 => ?_)
    · have hk0 := (dn_neg (by omega)).mp hc78
      refine g_lload (pc' := 130) hE 1 rfl dX6_measure_128 rfl ?_
      exact hE.lret (⟨pa, s, rfl, hs, hle, by first | exact Or.inl (by omega) | exact Or.inr hc22, by rw [← hfd]; first | (rw [hk0]; rfl) | (rw [hoN, fdZ_none])⟩) (Nat.zero_le _) (Nat.zero_le _) dX6_measure_130
    · have hk0 : 1 ≤ k := by rcases Nat.eq_zero_or_pos k with z | z; exact absurd ((dn_neg (by omega)).mpr z) hc78; exact z
      refine g_lvw (lv' := [(7, .int (nI (k - 1))), (5, .long (oL o)), (4, .int (nI (pth (cut b cnt) N i s))), (3, .int (nI s)), (0, .ref z0), (1, .ref h0), (2, .int (nI i))]) (by rw [pk_sub hk0]) ?_
      refine g_lload (pc' := 83) hE 1 rfl dX6_measure_81 rfl ?_
      refine g_lconst (pc' := 84) hE (lN 0) (by decide) dX6_measure_83 rfl ?_
      refine g_lcmp (pc' := 85) hE dX6_measure_84 rfl ?_
      refine g_if_lt (pc' := 88) (tgt := 128) hE dX6_measure_85 rfl rfl (fun hc85 => ?_) (fun hc85 => ?_)
      · have hoN := (oL_neg (fun s h => by have := hob s h; omega)).mp hc85
        refine g_lload (pc' := 130) hE 1 rfl dX6_measure_128 rfl ?_
        exact hE.lret (⟨pa, s, rfl, hs, hle, by first | exact Or.inl (by omega) | exact Or.inr hc22, by rw [← hfd]; first | (rw [hk0]; rfl) | (rw [hoN, fdZ_none])⟩) (Nat.zero_le _) (Nat.zero_le _) dX6_measure_130
      · obtain ⟨sv, ho9⟩ : ∃ sv, o = some sv := by cases o with | none => exact absurd ((oL_neg (o := none) (fun s h => by cases h)).mpr rfl) hc85 | some sv => exact ⟨sv, rfl⟩
        refine g_lvw (lv' := [(7, .int (nI (k - 1))), (5, .long (lN sv)), (4, .int (nI (pth (cut b cnt) N i s))), (3, .int (nI s)), (0, .ref z0), (1, .ref h0), (2, .int (nI i))]) (by rw [ho9]; rfl) ?_
        refine g_aload_n (pc' := 89) hE 5 rfl rfl dX6_measure_88 rfl ?_
        refine g_aload_n (pc' := 90) hE 4 rfl rfl dX6_measure_89 rfl ?_
        refine g_get (pc' := 93) hE gcX6 0 rfl 0 (by decide) rfl kX6_9 dX6_measure_90 rfl ?_
        refine g_iload (pc' := 95) hE 0 rfl dX6_measure_93 rfl ?_
        have hpk := hpa (k - 1) (by omega)
        have hpl := hple (k - 1) (by omega)
        refine g_iald (pc' := 96) hE 1 rfl (by omega) (by omega) dX6_measure_95 rfl ?_
        refine g_callV (pc' := 99) (As := [.int (nI (pa (k - 1)))]) (rest := []) hE (qX7_kind l D T h0 a1 a2 a3 x0 N sg af inf wf (pa (k - 1)) hN2 hT.1 (by omega)) mX7_kind kX6_21 iX7_kind sX7_kind (by decide) rfl (by decide) 2 rfl rfl [2, 3, 4, 5] rfl (by decide) rfl (Nat.le_of_ble_eq_true rfl) dX6_measure_96 rfl (gBackR [2, 3, 4, 5] rfl ?_)
        rintro _ rfl
        refine g_st (st' := [.int (nI (hv N (pa (k - 1)) (kd (inf (pa (k - 1))))))]) rfl ?_
        refine g_eqi (show _ = nI (kdT (cut b cnt) N (pa (k - 1))) from congrArg nI (hT.kind _)) ?_
        refine g_iconst (pc' := 100) hE (nI 3) (by decide) dX6_measure_99 rfl ?_
        refine g_icmpN_ne (pc' := 103) (tgt := 122) hE (Nat.lt_trans (kdT_lt _ _ _) (by decide)) (by omega) dX6_measure_100 rfl rfl (fun hc100 => ?_) (fun hc100 => ?_)
        · refine g_lvw (lv' := [(7, .int (nI (k - 1))), (5, .long (oL (stZ (cut b cnt) N (pth (cut b cnt) N i (k - 1)) o))), (4, .int (nI (pth (cut b cnt) N i s))), (3, .int (nI s)), (0, .ref z0), (1, .ref h0), (2, .int (nI i))]) (by rw [show oL (stZ (cut b cnt) N (pth (cut b cnt) N i (k - 1)) o) = lN sv from by rw [ho9, ← hpk]; unfold stZ; simp only; rw [if_neg hc100]; rfl]) ?_
          refine g_iinc (pc' := 125) hE ((nI (k - 1)) - (nI 1)) [(7, .int ((nI (k - 1)) - (nI 1))), (5, .long (oL (stZ (cut b cnt) N (pth (cut b cnt) N i (k - 1)) o))), (4, .int (nI (pth (cut b cnt) N i s))), (3, .int (nI s)), (0, .ref z0), (1, .ref h0), (2, .int (nI i))] 0 rfl dX6_measure_122 rfl (dn_dec _) (by decide) rfl ?_
          refine g_goto (tgt := 76) hE dX6_measure_125 rfl ?_
          exact ih76 _ (by omega) (k - 1) (stZ (cut b cnt) N (pth (cut b cnt) N i (k - 1)) o) rfl (by omega) (fun u hu => by subst ho9; unfold stZ at hu; simp only at hu; split at hu; (unfold tmZ at hu; split at hu; (cases hu; assumption); cases hu); (cases hu; exact hob _ rfl)) (by rw [← hfd]; exact fdZ_s hk0)
        · have hin := kdT_in (t := cut b cnt) (N := N) (i := pa (k - 1)) (by omega)
          refine g_lload (pc' := 105) hE 1 rfl dX6_measure_103 rfl ?_
          refine g_aload_n (pc' := 106) hE 5 rfl rfl dX6_measure_105 rfl ?_
          refine g_aload_n (pc' := 107) hE 4 rfl rfl dX6_measure_106 rfl ?_
          refine g_get (pc' := 110) hE gcX6 0 rfl 0 (by decide) rfl kX6_9 dX6_measure_107 rfl ?_
          refine g_iload (pc' := 112) hE 0 rfl dX6_measure_110 rfl ?_
          refine g_iald (pc' := 113) hE 1 rfl (by omega) (by omega) dX6_measure_112 rfl ?_
          refine g_iconst (pc' := 114) hE (nI 5) (by decide) dX6_measure_113 rfl ?_
          refine g_callV (pc' := 117) (As := [.int (nI (pa (k - 1))), .int (nI 5)]) (rest := [.long (lN sv)]) hE (qX7_word l D T h0 a1 a2 a3 x0 N sg af inf wf x1 cnt b (pa (k - 1)) 5 hN2 hT.1 (by omega) (by decide) hc hb) mX7_word kX6_29 iX7_word sX7_word (by decide) rfl (by decide) 2 rfl rfl [2, 3, 4, 5, 6, 7] rfl (by decide) rfl (Nat.le_of_ble_eq_true rfl) dX6_measure_114 rfl (gBackR [2, 3, 4, 5, 6, 7] rfl ?_)
          rintro _ rfl
          refine g_st (st' := [.long (lN (hv N (pa (k - 1)) (num (cut b cnt) (af (pa (k - 1)) + 4 * 5) 4))), .long (lN sv)]) rfl ?_
          refine g_eql (show _ = lN (hv N (pa (k - 1)) (wdT (cut b cnt) (pa (k - 1)) 5)) from congrArg lN (hT.word _ _)) ?_
          refine g_callS (pc' := 120) (As := [.long (lN sv), .long (lN (hv N (pa (k - 1)) (wdT (cut b cnt) (pa (k - 1)) 5)))]) (rest := []) hE (qX6_times l D T sv (hv N (pa (k - 1)) (wdT (cut b cnt) (pa (k - 1)) 5)) (hob _ ho9) (by rw [hv_in _ hin.1 hin.2]; exact num4_lt hct _)) mX6_times kX6_37 iX6_times (by decide) rfl (by decide) [] rfl (by decide) rfl (Nat.le_of_ble_eq_true rfl) dX6_measure_117 rfl (gBackR [] rfl ?_)
          rintro _ rfl
          refine g_st (st' := [.long (oL (tmZ sv (hv N (pa (k - 1)) (wdT (cut b cnt) (pa (k - 1)) 5))))]) rfl ?_
          refine g_lstore (pc' := 122) hE [(5, .long (oL (tmZ sv (hv N (pa (k - 1)) (wdT (cut b cnt) (pa (k - 1)) 5))))), (7, .int (nI (k - 1))), (4, .int (nI (pth (cut b cnt) N i s))), (3, .int (nI s)), (0, .ref z0), (1, .ref h0), (2, .int (nI i))] dX6_measure_120 rfl (by decide) rfl ?_
          refine g_lvw (lv' := [(5, .long (oL (stZ (cut b cnt) N (pth (cut b cnt) N i (k - 1)) o))), (7, .int (nI (k - 1))), (4, .int (nI (pth (cut b cnt) N i s))), (3, .int (nI s)), (0, .ref z0), (1, .ref h0), (2, .int (nI i))]) (by rw [show oL (stZ (cut b cnt) N (pth (cut b cnt) N i (k - 1)) o) = oL (tmZ sv (hv N (pa (k - 1)) (wdT (cut b cnt) (pa (k - 1)) 5))) from by rw [ho9, ← hpk]; unfold stZ; simp only; rw [if_pos hc100, hv_in _ hin.1 hin.2]]) ?_
          refine g_iinc (pc' := 125) hE ((nI (k - 1)) - (nI 1)) [(7, .int ((nI (k - 1)) - (nI 1))), (5, .long (oL (stZ (cut b cnt) N (pth (cut b cnt) N i (k - 1)) o))), (4, .int (nI (pth (cut b cnt) N i s))), (3, .int (nI s)), (0, .ref z0), (1, .ref h0), (2, .int (nI i))] 1 rfl dX6_measure_122 rfl (dn_dec _) (by decide) rfl ?_
          refine g_goto (tgt := 76) hE dX6_measure_125 rfl ?_
          exact ih76 _ (by omega) (k - 1) (stZ (cut b cnt) N (pth (cut b cnt) N i (k - 1)) o) rfl (by omega) (fun u hu => by subst ho9; unfold stZ at hu; simp only at hu; split at hu; (unfold tmZ at hu; split at hu; (cases hu; assumption); cases hu); (cases hu; exact hob _ rfl)) (by rw [← hfd]; exact fdZ_s hk0)
  · refine g_aload_n (pc' := 14) hE 3 rfl rfl dX6_measure_13 rfl ?_
    refine g_iload (pc' := 16) hE 0 rfl dX6_measure_14 rfl ?_
    refine g_callV (pc' := 19) (As := [.int (nI (pth (cut b cnt) N i s))]) (rest := []) hE (qX7_kind l D T h0 a1 a2 a3 x0 N sg af inf wf (pth (cut b cnt) N i s) hN2 hT.1 (by omega)) mX7_kind kX6_21 iX7_kind sX7_kind (by decide) rfl (by decide) 2 rfl rfl [2, 3, 4, 5] rfl (by decide) rfl (Nat.le_of_ble_eq_true rfl) dX6_measure_16 rfl (gBackR [2, 3, 4, 5] rfl ?_)
    rintro _ rfl
    refine g_st (st' := [.int (nI (hv N (pth (cut b cnt) N i s) (kd (inf (pth (cut b cnt) N i s)))))]) rfl ?_
    refine g_eqi (show _ = nI (kdT (cut b cnt) N (pth (cut b cnt) N i s)) from congrArg nI (hT.kind _)) ?_
    refine g_callS (pc' := 22) (As := [.int (nI (kdT (cut b cnt) N (pth (cut b cnt) N i s)))]) (rest := []) hE (qX6_leansOnAnother l D T (kdT (cut b cnt) N (pth (cut b cnt) N i s)) (Nat.lt_trans (kdT_lt _ _ _) (by decide))) mX6_leansOnAnother kX6_25 iX6_leansOnAnother (by decide) rfl (by decide) [] rfl (by decide) rfl (Nat.le_of_ble_eq_true rfl) dX6_measure_19 rfl (gBackR [] rfl ?_)
    rintro _ rfl
    refine g_st (st' := [.int (bI (leans (kdT (cut b cnt) N (pth (cut b cnt) N i s))))]) rfl ?_
    refine g_ifB_eq (pc' := 25) (tgt := 63) hE dX6_measure_22 rfl rfl (fun hc22 => ?_) (fun hc22 => ?_)
    · refine g_aload_n (pc' := 64) hE 3 rfl rfl dX6_measure_63 rfl ?_
      refine g_iload (pc' := 66) hE 0 rfl dX6_measure_64 rfl ?_
      refine g_callS (pc' := 69) (As := [.ref h0, .int (nI (pth (cut b cnt) N i s))]) (rest := []) hE (qX6_ownBytes l D T h0 a1 a2 a3 x0 N sg af inf wf x1 cnt b (pth (cut b cnt) N i s) hc hb hT hok hsg hp) mX6_ownBytes kX6_33 iX6_ownBytes (by decide) rfl (by decide) [2, 3, 4, 5, 6, 7] rfl (by decide) rfl (Nat.le_of_ble_eq_true rfl) dX6_measure_66 rfl (gBackR [2, 3, 4, 5, 6, 7] rfl ?_)
      rintro _ rfl
      refine g_st (st' := [.long (oL (ownZ (cut b cnt) N (pth (cut b cnt) N i s)))]) rfl ?_
      refine g_lstore (pc' := 71) hE [(5, .long (oL (ownZ (cut b cnt) N (pth (cut b cnt) N i s)))), (4, .int (nI (pth (cut b cnt) N i s))), (3, .int (nI s)), (0, .ref z0), (1, .ref h0), (2, .int (nI i))] dX6_measure_69 rfl (by decide) rfl ?_
      refine g_iload_n (pc' := 72) hE 2 rfl rfl dX6_measure_71 rfl ?_
      refine g_iconst (pc' := 73) hE (nI 1) (by decide) dX6_measure_72 rfl ?_
      refine g_isub (pc' := 74) hE dX6_measure_73 rfl ?_
      refine g_istore (pc' := 76) hE [(7, .int ((nI s) - (nI 1))), (5, .long (oL (ownZ (cut b cnt) N (pth (cut b cnt) N i s)))), (4, .int (nI (pth (cut b cnt) N i s))), (3, .int (nI s)), (0, .ref z0), (1, .ref h0), (2, .int (nI i))] dX6_measure_74 rfl (by decide) rfl ?_
      refine (show ∀ (d76 : Nat) (k : Nat) (o : Option Nat), k = d76 → (k ≤ s) → (∀ u, o = some u → u ≤ 1000000000000) → (fdZ (cut b cnt) N i k o = fdZ (cut b cnt) N i s (ownZ (cut b cnt) N (pth (cut b cnt) N i s))) → G l E D 8 0 0 [(z0, .inr (5, [.ref p0])), (p0, .inl (T 0, 201, .inl (fun z9 => nI (pa z9)))), (h0, .inr (6, [.ref a1, .ref a2, .ref a3, .ref x0, .int (nI N), .int (nI sg)])), (a1, .inl (T 0, 201, .inl (fun z9 => nI (af z9)))), (a2, .inl (T 1, 201, .inr (.inl (fun z9 => lN (inf z9))))), (a3, .inl (T 0, 201, .inl (fun z9 => nI (wf z9)))), (x0, .inr (4, [.int (nI 8192), .ref x1, .int (nI cnt)])), (x1, .inl (T 1, ((8192 + 7) / 8), .inr (.inl (pack b))))] [(7, .int ((nI k) - (nI 1))), (5, .long (oL o)), (4, .int (nI (pth (cut b cnt) N i s))), (3, .int (nI s)), (0, .ref z0), (1, .ref h0), (2, .int (nI i))] 76 [] from ?_) _ s (ownZ (cut b cnt) N (pth (cut b cnt) N i s)) rfl (Nat.le_refl _) (fun u hu => by unfold ownZ at hu; split at hu; (cases hu; have := num4_lt hct (off (cut b cnt) (pth (cut b cnt) N i s) + 4 * 2); unfold wdT; omega); split at hu; (cases hu; decide); cases hu) rfl
      intro d76
      induction d76 using Nat.strongRecOn with
      | _ d76 ih76 =>
      intro k o hd76 hk hob hfd
      refine g_iload (pc' := 78) hE 0 rfl dX6_measure_76 rfl ?_
      refine g_if_lt (pc' := 81) (tgt := 128) hE dX6_measure_78 rfl rfl (fun hc78 => ?_) (fun hc78 => ?_)
      · have hk0 := (dn_neg (by omega)).mp hc78
        refine g_lload (pc' := 130) hE 1 rfl dX6_measure_128 rfl ?_
        exact hE.lret (⟨pa, s, rfl, hs, hle, by first | exact Or.inl (by omega) | exact Or.inr hc22, by rw [← hfd]; first | (rw [hk0]; rfl) | (rw [hoN, fdZ_none])⟩) (Nat.zero_le _) (Nat.zero_le _) dX6_measure_130
      · have hk0 : 1 ≤ k := by rcases Nat.eq_zero_or_pos k with z | z; exact absurd ((dn_neg (by omega)).mpr z) hc78; exact z
        refine g_lvw (lv' := [(7, .int (nI (k - 1))), (5, .long (oL o)), (4, .int (nI (pth (cut b cnt) N i s))), (3, .int (nI s)), (0, .ref z0), (1, .ref h0), (2, .int (nI i))]) (by rw [pk_sub hk0]) ?_
        refine g_lload (pc' := 83) hE 1 rfl dX6_measure_81 rfl ?_
        refine g_lconst (pc' := 84) hE (lN 0) (by decide) dX6_measure_83 rfl ?_
        refine g_lcmp (pc' := 85) hE dX6_measure_84 rfl ?_
        refine g_if_lt (pc' := 88) (tgt := 128) hE dX6_measure_85 rfl rfl (fun hc85 => ?_) (fun hc85 => ?_)
        · have hoN := (oL_neg (fun s h => by have := hob s h; omega)).mp hc85
          refine g_lload (pc' := 130) hE 1 rfl dX6_measure_128 rfl ?_
          exact hE.lret (⟨pa, s, rfl, hs, hle, by first | exact Or.inl (by omega) | exact Or.inr hc22, by rw [← hfd]; first | (rw [hk0]; rfl) | (rw [hoN, fdZ_none])⟩) (Nat.zero_le _) (Nat.zero_le _) dX6_measure_130
        · obtain ⟨sv, ho9⟩ : ∃ sv, o = some sv := by cases o with | none => exact absurd ((oL_neg (o := none) (fun s h => by cases h)).mpr rfl) hc85 | some sv => exact ⟨sv, rfl⟩
          refine g_lvw (lv' := [(7, .int (nI (k - 1))), (5, .long (lN sv)), (4, .int (nI (pth (cut b cnt) N i s))), (3, .int (nI s)), (0, .ref z0), (1, .ref h0), (2, .int (nI i))]) (by rw [ho9]; rfl) ?_
          refine g_aload_n (pc' := 89) hE 5 rfl rfl dX6_measure_88 rfl ?_
          refine g_aload_n (pc' := 90) hE 4 rfl rfl dX6_measure_89 rfl ?_
          refine g_get (pc' := 93) hE gcX6 0 rfl 0 (by decide) rfl kX6_9 dX6_measure_90 rfl ?_
          refine g_iload (pc' := 95) hE 0 rfl dX6_measure_93 rfl ?_
          have hpk := hpa (k - 1) (by omega)
          have hpl := hple (k - 1) (by omega)
          refine g_iald (pc' := 96) hE 1 rfl (by omega) (by omega) dX6_measure_95 rfl ?_
          refine g_callV (pc' := 99) (As := [.int (nI (pa (k - 1)))]) (rest := []) hE (qX7_kind l D T h0 a1 a2 a3 x0 N sg af inf wf (pa (k - 1)) hN2 hT.1 (by omega)) mX7_kind kX6_21 iX7_kind sX7_kind (by decide) rfl (by decide) 2 rfl rfl [2, 3, 4, 5] rfl (by decide) rfl (Nat.le_of_ble_eq_true rfl) dX6_measure_96 rfl (gBackR [2, 3, 4, 5] rfl ?_)
          rintro _ rfl
          refine g_st (st' := [.int (nI (hv N (pa (k - 1)) (kd (inf (pa (k - 1))))))]) rfl ?_
          refine g_eqi (show _ = nI (kdT (cut b cnt) N (pa (k - 1))) from congrArg nI (hT.kind _)) ?_
          refine g_iconst (pc' := 100) hE (nI 3) (by decide) dX6_measure_99 rfl ?_
          refine g_icmpN_ne (pc' := 103) (tgt := 122) hE (Nat.lt_trans (kdT_lt _ _ _) (by decide)) (by omega) dX6_measure_100 rfl rfl (fun hc100 => ?_) (fun hc100 => ?_)
          · refine g_lvw (lv' := [(7, .int (nI (k - 1))), (5, .long (oL (stZ (cut b cnt) N (pth (cut b cnt) N i (k - 1)) o))), (4, .int (nI (pth (cut b cnt) N i s))), (3, .int (nI s)), (0, .ref z0), (1, .ref h0), (2, .int (nI i))]) (by rw [show oL (stZ (cut b cnt) N (pth (cut b cnt) N i (k - 1)) o) = lN sv from by rw [ho9, ← hpk]; unfold stZ; simp only; rw [if_neg hc100]; rfl]) ?_
            refine g_iinc (pc' := 125) hE ((nI (k - 1)) - (nI 1)) [(7, .int ((nI (k - 1)) - (nI 1))), (5, .long (oL (stZ (cut b cnt) N (pth (cut b cnt) N i (k - 1)) o))), (4, .int (nI (pth (cut b cnt) N i s))), (3, .int (nI s)), (0, .ref z0), (1, .ref h0), (2, .int (nI i))] 0 rfl dX6_measure_122 rfl (dn_dec _) (by decide) rfl ?_
            refine g_goto (tgt := 76) hE dX6_measure_125 rfl ?_
            exact ih76 _ (by omega) (k - 1) (stZ (cut b cnt) N (pth (cut b cnt) N i (k - 1)) o) rfl (by omega) (fun u hu => by subst ho9; unfold stZ at hu; simp only at hu; split at hu; (unfold tmZ at hu; split at hu; (cases hu; assumption); cases hu); (cases hu; exact hob _ rfl)) (by rw [← hfd]; exact fdZ_s hk0)
          · have hin := kdT_in (t := cut b cnt) (N := N) (i := pa (k - 1)) (by omega)
            refine g_lload (pc' := 105) hE 1 rfl dX6_measure_103 rfl ?_
            refine g_aload_n (pc' := 106) hE 5 rfl rfl dX6_measure_105 rfl ?_
            refine g_aload_n (pc' := 107) hE 4 rfl rfl dX6_measure_106 rfl ?_
            refine g_get (pc' := 110) hE gcX6 0 rfl 0 (by decide) rfl kX6_9 dX6_measure_107 rfl ?_
            refine g_iload (pc' := 112) hE 0 rfl dX6_measure_110 rfl ?_
            refine g_iald (pc' := 113) hE 1 rfl (by omega) (by omega) dX6_measure_112 rfl ?_
            refine g_iconst (pc' := 114) hE (nI 5) (by decide) dX6_measure_113 rfl ?_
            refine g_callV (pc' := 117) (As := [.int (nI (pa (k - 1))), .int (nI 5)]) (rest := [.long (lN sv)]) hE (qX7_word l D T h0 a1 a2 a3 x0 N sg af inf wf x1 cnt b (pa (k - 1)) 5 hN2 hT.1 (by omega) (by decide) hc hb) mX7_word kX6_29 iX7_word sX7_word (by decide) rfl (by decide) 2 rfl rfl [2, 3, 4, 5, 6, 7] rfl (by decide) rfl (Nat.le_of_ble_eq_true rfl) dX6_measure_114 rfl (gBackR [2, 3, 4, 5, 6, 7] rfl ?_)
            rintro _ rfl
            refine g_st (st' := [.long (lN (hv N (pa (k - 1)) (num (cut b cnt) (af (pa (k - 1)) + 4 * 5) 4))), .long (lN sv)]) rfl ?_
            refine g_eql (show _ = lN (hv N (pa (k - 1)) (wdT (cut b cnt) (pa (k - 1)) 5)) from congrArg lN (hT.word _ _)) ?_
            refine g_callS (pc' := 120) (As := [.long (lN sv), .long (lN (hv N (pa (k - 1)) (wdT (cut b cnt) (pa (k - 1)) 5)))]) (rest := []) hE (qX6_times l D T sv (hv N (pa (k - 1)) (wdT (cut b cnt) (pa (k - 1)) 5)) (hob _ ho9) (by rw [hv_in _ hin.1 hin.2]; exact num4_lt hct _)) mX6_times kX6_37 iX6_times (by decide) rfl (by decide) [] rfl (by decide) rfl (Nat.le_of_ble_eq_true rfl) dX6_measure_117 rfl (gBackR [] rfl ?_)
            rintro _ rfl
            refine g_st (st' := [.long (oL (tmZ sv (hv N (pa (k - 1)) (wdT (cut b cnt) (pa (k - 1)) 5))))]) rfl ?_
            refine g_lstore (pc' := 122) hE [(5, .long (oL (tmZ sv (hv N (pa (k - 1)) (wdT (cut b cnt) (pa (k - 1)) 5))))), (7, .int (nI (k - 1))), (4, .int (nI (pth (cut b cnt) N i s))), (3, .int (nI s)), (0, .ref z0), (1, .ref h0), (2, .int (nI i))] dX6_measure_120 rfl (by decide) rfl ?_
            refine g_lvw (lv' := [(5, .long (oL (stZ (cut b cnt) N (pth (cut b cnt) N i (k - 1)) o))), (7, .int (nI (k - 1))), (4, .int (nI (pth (cut b cnt) N i s))), (3, .int (nI s)), (0, .ref z0), (1, .ref h0), (2, .int (nI i))]) (by rw [show oL (stZ (cut b cnt) N (pth (cut b cnt) N i (k - 1)) o) = oL (tmZ sv (hv N (pa (k - 1)) (wdT (cut b cnt) (pa (k - 1)) 5))) from by rw [ho9, ← hpk]; unfold stZ; simp only; rw [if_pos hc100, hv_in _ hin.1 hin.2]]) ?_
            refine g_iinc (pc' := 125) hE ((nI (k - 1)) - (nI 1)) [(7, .int ((nI (k - 1)) - (nI 1))), (5, .long (oL (stZ (cut b cnt) N (pth (cut b cnt) N i (k - 1)) o))), (4, .int (nI (pth (cut b cnt) N i s))), (3, .int (nI s)), (0, .ref z0), (1, .ref h0), (2, .int (nI i))] 1 rfl dX6_measure_122 rfl (dn_dec _) (by decide) rfl ?_
            refine g_goto (tgt := 76) hE dX6_measure_125 rfl ?_
            exact ih76 _ (by omega) (k - 1) (stZ (cut b cnt) N (pth (cut b cnt) N i (k - 1)) o) rfl (by omega) (fun u hu => by subst ho9; unfold stZ at hu; simp only at hu; split at hu; (unfold tmZ at hu; split at hu; (cases hu; assumption); cases hu); (cases hu; exact hob _ rfl)) (by rw [← hfd]; exact fdZ_s hk0)
    · refine g_aload_n (pc' := 26) hE 2 rfl rfl dX6_measure_25 rfl ?_
      refine g_get (pc' := 29) hE gcX6 0 rfl 0 (by decide) rfl kX6_9 dX6_measure_26 rfl ?_
      refine g_iload_n (pc' := 30) hE 1 rfl rfl dX6_measure_29 rfl ?_
      refine g_iload (pc' := 32) hE 0 rfl dX6_measure_30 rfl ?_
      refine g_iast (pc' := 33) hE 1 [(z0, .inr (5, [.ref p0])), (p0, .inl (T 0, 201, .inl (fun z9 => nI ((gu pa s (pth (cut b cnt) N i s)) z9)))), (h0, .inr (6, [.ref a1, .ref a2, .ref a3, .ref x0, .int (nI N), .int (nI sg)])), (a1, .inl (T 0, 201, .inl (fun z9 => nI (af z9)))), (a2, .inl (T 1, 201, .inr (.inl (fun z9 => lN (inf z9))))), (a3, .inl (T 0, 201, .inl (fun z9 => nI (wf z9)))), (x0, .inr (4, [.int (nI 8192), .ref x1, .int (nI cnt)])), (x1, .inl (T 1, ((8192 + 7) / 8), .inr (.inl (pack b))))] rfl (by omega) (by omega) (gu_I _ _ _) rfl dX6_measure_32 rfl ?_
      refine g_iinc (pc' := 36) hE (nI (s + 1)) [(3, .int (nI (s + 1))), (4, .int (nI (pth (cut b cnt) N i s))), (0, .ref z0), (1, .ref h0), (2, .int (nI i))] 1 rfl dX6_measure_33 rfl (g_incN _ 1) (by decide) rfl ?_
      refine g_aload_n (pc' := 37) hE 3 rfl rfl dX6_measure_36 rfl ?_
      refine g_iload (pc' := 39) hE 1 rfl dX6_measure_37 rfl ?_
      refine g_aload_n (pc' := 40) hE 3 rfl rfl dX6_measure_39 rfl ?_
      refine g_iload (pc' := 42) hE 1 rfl dX6_measure_40 rfl ?_
      refine g_callV (pc' := 45) (As := [.int (nI (pth (cut b cnt) N i s))]) (rest := [.int (nI (pth (cut b cnt) N i s)), .ref h0]) hE (qX7_kind l D T h0 a1 a2 a3 x0 N sg af inf wf (pth (cut b cnt) N i s) hN2 hT.1 (by omega)) mX7_kind kX6_21 iX7_kind sX7_kind (by decide) rfl (by decide) 2 rfl rfl [2, 3, 4, 5] rfl (by decide) rfl (Nat.le_of_ble_eq_true rfl) dX6_measure_42 rfl (gBackR [2, 3, 4, 5] rfl ?_)
      rintro _ rfl
      refine g_st (st' := [.int (nI (hv N (pth (cut b cnt) N i s) (kd (inf (pth (cut b cnt) N i s))))), .int (nI (pth (cut b cnt) N i s)), .ref h0]) rfl ?_
      refine g_eqi (show _ = nI (kdT (cut b cnt) N (pth (cut b cnt) N i s)) from congrArg nI (hT.kind _)) ?_
      refine g_iconst (pc' := 46) hE (nI 3) (by decide) dX6_measure_45 rfl ?_
      refine g_icmpN_ne (pc' := 49) (tgt := 53) hE (Nat.lt_trans (kdT_lt _ _ _) (by decide)) (by omega) dX6_measure_46 rfl rfl (fun hc46 => ?_) (fun hc46 => ?_)
      · refine g_iconst (pc' := 54) hE (nI 2) (by decide) dX6_measure_53 rfl ?_
        refine g_callV (pc' := 57) (As := [.int (nI (pth (cut b cnt) N i s)), .int (nI 2)]) (rest := []) hE (qX7_word l D T h0 a1 a2 a3 x0 N sg af inf wf x1 cnt b (pth (cut b cnt) N i s) 2 hN2 hT.1 (by omega) (by decide) hc hb) mX7_word kX6_29 iX7_word sX7_word (by decide) rfl (by decide) 2 rfl rfl [2, 3, 4, 5, 6, 7] rfl (by decide) rfl (Nat.le_of_ble_eq_true rfl) dX6_measure_54 rfl (gBackR [2, 3, 4, 5, 6, 7] rfl ?_)
        rintro _ rfl
        refine g_st (st' := [.long (lN (hv N (pth (cut b cnt) N i s) (num (cut b cnt) (af (pth (cut b cnt) N i s) + 4 * 2) 4)))]) rfl ?_
        refine g_eql (show _ = lN (nxT (cut b cnt) N (pth (cut b cnt) N i s)) from by rw [hT.word]; unfold nxT; first | rw [if_pos hc46] | rw [if_neg hc46]) ?_
        refine g_l2i (pc' := 58) hE (nI (nxT (cut b cnt) N (pth (cut b cnt) N i s))) (lN_i _) dX6_measure_57 rfl ?_
        refine g_istore (pc' := 60) hE [(4, .int (nI (nxT (cut b cnt) N (pth (cut b cnt) N i s)))), (3, .int (nI (s + 1))), (0, .ref z0), (1, .ref h0), (2, .int (nI i))] dX6_measure_58 rfl (by decide) rfl ?_
        refine g_goto (tgt := 5) hE dX6_measure_60 rfl ?_
        exact ih5 _ (by omega) (s + 1) (gu pa s (pth (cut b cnt) N i s)) rfl (by omega) (nxT_le hhi hc22) (lt_s hle hc22) (lt_s (fun k hk => by rw [gu_n _ _ (by omega)]; exact hpa k hk) (gu_s _ _ _)) (lt_s hple hp)
      · refine g_iconst (pc' := 50) hE (nI 3) (by decide) dX6_measure_49 rfl ?_
        refine g_goto (tgt := 54) hE dX6_measure_50 rfl ?_
        refine g_callV (pc' := 57) (As := [.int (nI (pth (cut b cnt) N i s)), .int (nI 3)]) (rest := []) hE (qX7_word l D T h0 a1 a2 a3 x0 N sg af inf wf x1 cnt b (pth (cut b cnt) N i s) 3 hN2 hT.1 (by omega) (by decide) hc hb) mX7_word kX6_29 iX7_word sX7_word (by decide) rfl (by decide) 2 rfl rfl [2, 3, 4, 5, 6, 7] rfl (by decide) rfl (Nat.le_of_ble_eq_true rfl) dX6_measure_54 rfl (gBackR [2, 3, 4, 5, 6, 7] rfl ?_)
        rintro _ rfl
        refine g_st (st' := [.long (lN (hv N (pth (cut b cnt) N i s) (num (cut b cnt) (af (pth (cut b cnt) N i s) + 4 * 3) 4)))]) rfl ?_
        refine g_eql (show _ = lN (nxT (cut b cnt) N (pth (cut b cnt) N i s)) from by rw [hT.word]; unfold nxT; first | rw [if_pos hc46] | rw [if_neg hc46]) ?_
        refine g_l2i (pc' := 58) hE (nI (nxT (cut b cnt) N (pth (cut b cnt) N i s))) (lN_i _) dX6_measure_57 rfl ?_
        refine g_istore (pc' := 60) hE [(4, .int (nI (nxT (cut b cnt) N (pth (cut b cnt) N i s)))), (3, .int (nI (s + 1))), (0, .ref z0), (1, .ref h0), (2, .int (nI i))] dX6_measure_58 rfl (by decide) rfl ?_
        refine g_goto (tgt := 5) hE dX6_measure_60 rfl ?_
        exact ih5 _ (by omega) (s + 1) (gu pa s (pth (cut b cnt) N i s)) rfl (by omega) (nxT_le hhi hc22) (lt_s hle hc22) (lt_s (fun k hk => by rw [gu_n _ _ (by omega)]; exact hpa k hk) (gu_s _ _ _)) (lt_s hple hp)
