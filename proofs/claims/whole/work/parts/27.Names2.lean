set_option maxHeartbeats 4000000 in
set_option maxRecDepth 100000 in
theorem qX3_gatherOf (l : Launch) (D : va_G) (T : Nat → ClassId) (n0 s0 s1 s2 s3 s4 : Nat) (sl te pl le fr : Nat → Nat) (nc fb : Nat) (h0 a1 a2 a3 x0 N sg : Nat) (af inf wf : Nat → Nat) (x1 cnt : Nat) (b : Nat → Nat) (m : Nat) (hc : cnt ≤ 8192) (hb : ∀ i, b i < 256) (hT : TyArr (cut b cnt) N af inf wf) (hok : okUpTo (cut b cnt) sg cnt N) (hsg : sg ≤ cnt) (hm : m < N) (hN : NOK (cut b cnt) sg (nmA (cut b cnt) m) te pl le fr nc fb) : Con l D T yX3_gatherOf cX3_gatherOf 6 none 5 0 0 [.ref n0, .ref h0, .int (nI (m + 1))] [(n0, .inr (2, [.ref s0, .ref s1, .ref s2, .ref s3, .ref s4, .int (nI ((nmA (cut b cnt) m).length)), .int (nI nc), .int (nI fb)])), (s0, .inl (T 0, 201, .inl (fun j => nI (sl j)))), (s1, .inl (T 0, 800, .inl (fun j => nI (te j)))), (s2, .inl (T 0, 801, .inl (fun j => nI (pl j)))), (s3, .inl (T 0, 801, .inl (fun j => nI (le j)))), (s4, .inl (T 0, 801, .inl (fun j => nI (fr j)))), (h0, .inr (6, [.ref a1, .ref a2, .ref a3, .ref x0, .int (nI N), .int (nI sg)])), (a1, .inl (T 0, 201, .inl (fun j => nI (af j)))), (a2, .inl (T 1, 201, .inr (.inl (fun j => lN (inf j))))), (a3, .inl (T 0, 201, .inl (fun j => nI (wf j)))), (x0, .inr (4, [.int (nI 8192), .ref x1, .int (nI cnt)])), (x1, .inl (T 1, ((8192 + 7) / 8), .inr (.inl (pack b))))] (fun v w1 => ∃ (te' pl' le' fr' : Nat → Nat) (nc' fb' : Nat), v = none ∧ w1 = [(n0, .inr (2, [.ref s0, .ref s1, .ref s2, .ref s3, .ref s4, .int (nI ((nmA (cut b cnt) (m + 1)).length)), .int (nI nc'), .int (nI fb')])), (s0, .inl (T 0, 201, .inl (fun j => nI (sl j)))), (s1, .inl (T 0, 800, .inl (fun j => nI (te' j)))), (s2, .inl (T 0, 801, .inl (fun j => nI (pl' j)))), (s3, .inl (T 0, 801, .inl (fun j => nI (le' j)))), (s4, .inl (T 0, 801, .inl (fun j => nI (fr' j)))), (h0, .inr (6, [.ref a1, .ref a2, .ref a3, .ref x0, .int (nI N), .int (nI sg)])), (a1, .inl (T 0, 201, .inl (fun j => nI (af j)))), (a2, .inl (T 1, 201, .inr (.inl (fun j => lN (inf j))))), (a3, .inl (T 0, 201, .inl (fun j => nI (wf j)))), (x0, .inr (4, [.int (nI 8192), .ref x1, .int (nI cnt)])), (x1, .inl (T 1, ((8192 + 7) / 8), .inr (.inl (pack b))))] ∧ NOK (cut b cnt) sg (nmA (cut b cnt) (m + 1)) te' pl' le' fr' nc' fb') := by
  refine Con.of (by decide) (Nat.le_of_ble_eq_true rfl) ?_
  intro E hE
  have hct := cut_lt (c := cnt) hb
  have hN2 := hok.1
  obtain ⟨ho1, ho2, hi8, hnm, -⟩ := hok.at hm
  obtain ⟨e1, e2, e3⟩ := hT.2 (m + 1) (by omega) (by omega)
  have hkd := kd_lt (inft (cut b cnt) (m + 1))
  have hwd := wds_le (inft (cut b cnt) (m + 1))
  have hnmW := of_decide_eq_true hnm
  refine g_lv (lv' := [(0, .ref n0), (1, .ref h0), (2, .int (nI (m + 1)))]) [0, 1, 2] rfl ?_
  refine g_aload_n (pc' := 1) hE 1 rfl rfl dX3_gatherOf_0 rfl ?_
  refine g_iload_n (pc' := 2) hE 2 rfl rfl dX3_gatherOf_1 rfl ?_
  refine g_callV (pc' := 5) (As := [.int (nI (m + 1))]) (rest := []) hE (qX7_kind l D T h0 a1 a2 a3 x0 N sg af inf wf (m + 1) hN2 hT.1 (by omega)) mX7_kind kX3_55 iX7_kind sX7_kind (by decide) rfl (by decide) 6 rfl rfl [6, 7, 8, 9] rfl (by decide) rfl (Nat.le_of_ble_eq_true rfl) dX3_gatherOf_2 rfl (gBackR [6, 7, 8, 9] rfl ?_)
  rintro _ rfl
  refine g_st (st' := [.int (nI (hv N (m + 1) (kd (inf (m + 1)))))]) rfl ?_
  refine g_eqi (show _ = nI (kd (inft (cut b cnt) (m + 1))) from by rw [hv_in _ (by omega) (by omega), e2]) ?_
  refine g_istore_n (pc' := 6) hE [(3, .int (nI (kd (inft (cut b cnt) (m + 1))))), (0, .ref n0), (1, .ref h0), (2, .int (nI (m + 1)))] dX3_gatherOf_5 rfl rfl (by decide) rfl ?_
  refine g_aload_n (pc' := 7) hE 2 rfl rfl dX3_gatherOf_6 rfl ?_
  refine g_iload_n (pc' := 8) hE 3 rfl rfl dX3_gatherOf_7 rfl ?_
  refine g_callV (pc' := 11) (As := [.int (nI (m + 1))]) (rest := []) hE (qX7_words l D T h0 a1 a2 a3 x0 N sg af inf wf (m + 1) hN2 hT.1 (by omega)) mX7_words kX3_58 iX7_words sX7_words (by decide) rfl (by decide) 6 rfl rfl [6, 7, 8, 9] rfl (by decide) rfl (Nat.le_of_ble_eq_true rfl) dX3_gatherOf_8 rfl (gBackR [6, 7, 8, 9] rfl ?_)
  rintro _ rfl
  refine g_st (st' := [.int (nI (hv N (m + 1) (wf (m + 1))))]) rfl ?_
  refine g_eqi (show _ = nI (wds (inft (cut b cnt) (m + 1))) from by rw [hv_in _ (by omega) (by omega), e3]) ?_
  refine g_istore (pc' := 13) hE [(4, .int (nI (wds (inft (cut b cnt) (m + 1))))), (3, .int (nI (kd (inft (cut b cnt) (m + 1))))), (0, .ref n0), (1, .ref h0), (2, .int (nI (m + 1)))] dX3_gatherOf_11 rfl (by decide) rfl ?_
  refine g_iconst (pc' := 14) hE (nI 0) (by decide) dX3_gatherOf_13 rfl ?_
  refine g_istore (pc' := 16) hE [(5, .int (nI 0)), (4, .int (nI (wds (inft (cut b cnt) (m + 1))))), (3, .int (nI (kd (inft (cut b cnt) (m + 1))))), (0, .ref n0), (1, .ref h0), (2, .int (nI (m + 1)))] dX3_gatherOf_14 rfl (by decide) rfl ?_
  refine g_w (ws' := [(n0, .inr (2, [.ref s0, .ref s1, .ref s2, .ref s3, .ref s4, .int (nI ((nmP (cut b cnt) m 0).length)), .int (nI nc), .int (nI fb)])), (s0, .inl (T 0, 201, .inl (fun j => nI (sl j)))), (s1, .inl (T 0, 800, .inl (fun j => nI (te j)))), (s2, .inl (T 0, 801, .inl (fun j => nI (pl j)))), (s3, .inl (T 0, 801, .inl (fun j => nI (le j)))), (s4, .inl (T 0, 801, .inl (fun j => nI (fr j)))), (h0, .inr (6, [.ref a1, .ref a2, .ref a3, .ref x0, .int (nI N), .int (nI sg)])), (a1, .inl (T 0, 201, .inl (fun j => nI (af j)))), (a2, .inl (T 1, 201, .inr (.inl (fun j => lN (inf j))))), (a3, .inl (T 0, 201, .inl (fun j => nI (wf j)))), (x0, .inr (4, [.int (nI 8192), .ref x1, .int (nI cnt)])), (x1, .inl (T 1, ((8192 + 7) / 8), .inr (.inl (pack b))))]) (by rw [nmP_0]) ?_
  refine (show ∀ (d16 : Nat) (w : Nat) (te : Nat → Nat) (pl : Nat → Nat) (le : Nat → Nat) (fr : Nat → Nat) (nc : Nat) (fb : Nat), wds (inft (cut b cnt) (m + 1)) - w = d16 → (w ≤ wds (inft (cut b cnt) (m + 1))) → (NOK (cut b cnt) sg (nmP (cut b cnt) m w) te pl le fr nc fb) → G l E D 6 0 0 [(n0, .inr (2, [.ref s0, .ref s1, .ref s2, .ref s3, .ref s4, .int (nI ((nmP (cut b cnt) m w).length)), .int (nI nc), .int (nI fb)])), (s0, .inl (T 0, 201, .inl (fun j => nI (sl j)))), (s1, .inl (T 0, 800, .inl (fun j => nI (te j)))), (s2, .inl (T 0, 801, .inl (fun j => nI (pl j)))), (s3, .inl (T 0, 801, .inl (fun j => nI (le j)))), (s4, .inl (T 0, 801, .inl (fun j => nI (fr j)))), (h0, .inr (6, [.ref a1, .ref a2, .ref a3, .ref x0, .int (nI N), .int (nI sg)])), (a1, .inl (T 0, 201, .inl (fun j => nI (af j)))), (a2, .inl (T 1, 201, .inr (.inl (fun j => lN (inf j))))), (a3, .inl (T 0, 201, .inl (fun j => nI (wf j)))), (x0, .inr (4, [.int (nI 8192), .ref x1, .int (nI cnt)])), (x1, .inl (T 1, ((8192 + 7) / 8), .inr (.inl (pack b))))] [(5, .int (nI w)), (4, .int (nI (wds (inft (cut b cnt) (m + 1))))), (3, .int (nI (kd (inft (cut b cnt) (m + 1))))), (0, .ref n0), (1, .ref h0), (2, .int (nI (m + 1)))] 16 [] from ?_) _ 0 te pl le fr nc fb rfl (Nat.zero_le _) (by rw [nmP_0]; exact hN)
  intro d16
  induction d16 using Nat.strongRecOn with
  | _ d16 ih16 =>
  intro w te pl le fr nc fb hd16 hw hN
  refine g_iload (pc' := 18) hE 0 rfl dX3_gatherOf_16 rfl ?_
  refine g_iload (pc' := 20) hE 1 rfl dX3_gatherOf_18 rfl ?_
  refine g_icmpN_ge (pc' := 23) (tgt := 91) hE (by omega) (by omega) dX3_gatherOf_20 rfl rfl (fun hc20 => ?_) (fun hc20 => ?_)
  · exact hE.vret (⟨_, _, _, _, _, _, rfl, by rw [show w = wds (inft (cut b cnt) (m + 1)) by omega, nmP_all], by rw [show w = wds (inft (cut b cnt) (m + 1)) by omega, nmP_all] at hN; exact hN⟩) (Nat.zero_le _) (Nat.zero_le _) dX3_gatherOf_91
  · refine g_iload_n (pc' := 24) hE 2 rfl rfl dX3_gatherOf_23 rfl ?_
    refine g_iload (pc' := 26) hE 0 rfl dX3_gatherOf_24 rfl ?_
    refine g_callS (pc' := 29) (As := [.int (nI (kd (inft (cut b cnt) (m + 1)))), .int (nI w)]) (rest := []) hE (qX1_role l D T (kd (inft (cut b cnt) (m + 1))) w (by omega) (by omega)) mX1_role kX3_61 iX1_role (by decide) rfl (by decide) [] rfl (by decide) rfl (Nat.le_of_ble_eq_true rfl) dX3_gatherOf_26 rfl (gBackR [] rfl ?_)
    rintro _ rfl
    refine g_st (st' := [.int (nI (rl (kd (inft (cut b cnt) (m + 1))) w))]) rfl ?_
    have hrl := rl_le (kd (inft (cut b cnt) (m + 1))) w
    refine g_iconst (pc' := 30) hE (nI 1) (by decide) dX3_gatherOf_29 rfl ?_
    refine g_icmpN_ne (pc' := 33) (tgt := 85) hE (by omega) (by omega) dX3_gatherOf_30 rfl rfl (fun hc30 => ?_) (fun hc30 => ?_)
    · refine g_w (ws' := [(n0, .inr (2, [.ref s0, .ref s1, .ref s2, .ref s3, .ref s4, .int (nI ((nmP (cut b cnt) m (w + 1)).length)), .int (nI nc), .int (nI fb)])), (s0, .inl (T 0, 201, .inl (fun j => nI (sl j)))), (s1, .inl (T 0, 800, .inl (fun j => nI (te j)))), (s2, .inl (T 0, 801, .inl (fun j => nI (pl j)))), (s3, .inl (T 0, 801, .inl (fun j => nI (le j)))), (s4, .inl (T 0, 801, .inl (fun j => nI (fr j)))), (h0, .inr (6, [.ref a1, .ref a2, .ref a3, .ref x0, .int (nI N), .int (nI sg)])), (a1, .inl (T 0, 201, .inl (fun j => nI (af j)))), (a2, .inl (T 1, 201, .inr (.inl (fun j => lN (inf j))))), (a3, .inl (T 0, 201, .inl (fun j => nI (wf j)))), (x0, .inr (4, [.int (nI 8192), .ref x1, .int (nI cnt)])), (x1, .inl (T 1, ((8192 + 7) / 8), .inr (.inl (pack b))))]) (by rw [nmP_n hc30]) ?_
      refine g_iinc (pc' := 88) hE (nI (w + 1)) [(5, .int (nI (w + 1))), (4, .int (nI (wds (inft (cut b cnt) (m + 1))))), (3, .int (nI (kd (inft (cut b cnt) (m + 1))))), (0, .ref n0), (1, .ref h0), (2, .int (nI (m + 1)))] 0 rfl dX3_gatherOf_85 rfl (g_incN _ 1) (by decide) rfl ?_
      refine g_goto (tgt := 16) hE dX3_gatherOf_88 rfl ?_
      exact ih16 _ (by omega) (w + 1) te pl le fr nc fb rfl (by omega) (by first | (rw [nmP_n hc30]; exact hN) | (rw [nmP_s hc30]; exact hN.step (by omega) (by omega) (by omega) hx))
    · refine g_aload_n (pc' := 34) hE 3 rfl rfl dX3_gatherOf_33 rfl ?_
      refine g_get (pc' := 37) hE gcX3 0 rfl 5 (by decide) rfl kX3_27 dX3_gatherOf_34 rfl ?_
      have hlt := nmP_lt hc20 hc30
      refine g_aload_n (pc' := 38) hE 3 rfl rfl dX3_gatherOf_37 rfl ?_
      refine g_get (pc' := 41) hE gcX3 0 rfl 1 (by decide) rfl kX3_15 dX3_gatherOf_38 rfl ?_
      refine g_alen (pc' := 42) hE 2 0 rfl rfl dX3_gatherOf_41 rfl ?_
      refine g_icmpN_ge (pc' := 45) (tgt := 85) hE (by omega) (by omega) dX3_gatherOf_42 rfl rfl (fun hc42 => ?_) (fun hc42 => ?_)
      · omega
      refine g_aload_n (pc' := 46) hE 3 rfl rfl dX3_gatherOf_45 rfl ?_
      refine g_get (pc' := 49) hE gcX3 0 rfl 1 (by decide) rfl kX3_15 dX3_gatherOf_46 rfl ?_
      refine g_aload_n (pc' := 50) hE 3 rfl rfl dX3_gatherOf_49 rfl ?_
      refine g_get (pc' := 53) hE gcX3 0 rfl 5 (by decide) rfl kX3_27 dX3_gatherOf_50 rfl ?_
      refine g_aload_n (pc' := 54) hE 3 rfl rfl dX3_gatherOf_53 rfl ?_
      refine g_aload_n (pc' := 55) hE 4 rfl rfl dX3_gatherOf_54 rfl ?_
      refine g_callV (pc' := 58) (As := []) (rest := [.ref n0, .int (nI ((nmP (cut b cnt) m w).length)), .ref s1]) hE (qX7_text l D T h0 a1 a2 a3 x0 N sg af inf wf ) mX7_text kX3_67 iX7_text sX7_text (by decide) rfl (by decide) 6 rfl rfl [6, 7, 8, 9] rfl (by decide) rfl (Nat.le_of_ble_eq_true rfl) dX3_gatherOf_55 rfl (gBackR [6, 7, 8, 9] rfl ?_)
      rintro _ rfl
      refine g_st (st' := [.ref x0, .ref n0, .int (nI ((nmP (cut b cnt) m w).length)), .ref s1]) rfl ?_
      refine g_aload_n (pc' := 59) hE 4 rfl rfl dX3_gatherOf_58 rfl ?_
      refine g_callV (pc' := 62) (As := []) (rest := [.ref x0, .ref n0, .int (nI ((nmP (cut b cnt) m w).length)), .ref s1]) hE (qX7_strings l D T h0 a1 a2 a3 x0 N sg af inf wf ) mX7_strings kX3_71 iX7_strings sX7_strings (by decide) rfl (by decide) 6 rfl rfl [6, 7, 8, 9] rfl (by decide) rfl (Nat.le_of_ble_eq_true rfl) dX3_gatherOf_59 rfl (gBackR [6, 7, 8, 9] rfl ?_)
      rintro _ rfl
      refine g_st (st' := [.int (nI sg), .ref x0, .ref n0, .int (nI ((nmP (cut b cnt) m w).length)), .ref s1]) rfl ?_
      refine g_aload_n (pc' := 63) hE 4 rfl rfl dX3_gatherOf_62 rfl ?_
      refine g_iload_n (pc' := 64) hE 5 rfl rfl dX3_gatherOf_63 rfl ?_
      refine g_iload (pc' := 66) hE 0 rfl dX3_gatherOf_64 rfl ?_
      refine g_callV (pc' := 69) (As := [.int (nI (m + 1)), .int (nI w)]) (rest := [.int (nI sg), .ref x0, .ref n0, .int (nI ((nmP (cut b cnt) m w).length)), .ref s1]) hE (qX7_word l D T h0 a1 a2 a3 x0 N sg af inf wf x1 cnt b (m + 1) w hN2 hT.1 (by omega) (by omega) hc hb) mX7_word kX3_74 iX7_word sX7_word (by decide) rfl (by decide) 6 rfl rfl [6, 7, 8, 9, 10, 11] rfl (by decide) rfl (Nat.le_of_ble_eq_true rfl) dX3_gatherOf_66 rfl (gBackR [6, 7, 8, 9, 10, 11] rfl ?_)
      rintro _ rfl
      refine g_st (st' := [.long (lN (hv N (m + 1) (num (cut b cnt) (af (m + 1) + 4 * w) 4))), .int (nI sg), .ref x0, .ref n0, .int (nI ((nmP (cut b cnt) m w).length)), .ref s1]) rfl ?_
      refine g_eql (show _ = lN (num (cut b cnt) (off (cut b cnt) (m + 1) + 4 * w) 4) from by rw [hv_in _ (by omega) (by omega), e1]) ?_
      have hst : sg + num (cut b cnt) (off (cut b cnt) (m + 1) + 4 * w) 4 < cnt := hnmW w hc20 hc30
      have hll := (lfr_cut (b := b) (s := sg + num (cut b cnt) (off (cut b cnt) (m + 1) + 4 * w) 4) hc).1
      refine g_l2i (pc' := 70) hE (nI (num (cut b cnt) (off (cut b cnt) (m + 1) + 4 * w) 4)) (lN_i _) dX3_gatherOf_69 rfl ?_
      refine g_iadd (pc' := 71) hE dX3_gatherOf_70 rfl ?_
      refine g_eqi (show _ = nI (sg + (num (cut b cnt) (off (cut b cnt) (m + 1) + 4 * w) 4)) from nI_add _ _) ?_
      refine g_callV (pc' := 74) (As := [.ref x0, .int (nI (sg + (num (cut b cnt) (off (cut b cnt) (m + 1) + 4 * w) 4)))]) (rest := [.int (nI ((nmP (cut b cnt) m w).length)), .ref s1]) hE (qX3_numberOf l D T n0 s0 s1 s2 s3 s4 sl te pl le fr ((nmP (cut b cnt) m w).length) nc fb x0 x1 cnt b (sg + (num (cut b cnt) (off (cut b cnt) (m + 1) + 4 * w) 4)) hN.1 (by have := hN.2.1; omega) hc hb (by omega)) mX3_numberOf kX3_78 iX3_numberOf sX3_numberOf (by decide) rfl (by decide) 0 rfl rfl [0, 1, 2, 3, 4, 5, 10, 11] rfl (by decide) rfl (Nat.le_of_ble_eq_true rfl) dX3_gatherOf_71 rfl (gBackU [0, 1, 2, 3, 4, 5, 10, 11] rfl (fun v w1 h => by obtain ⟨_, _, _, _, _, _, _, rfl, _⟩ := h; simp only [List.map_cons, List.map_nil]) ?_)
      rintro _ _ ⟨pl', le', fr', nc', fb', r, rfl, rfl, hx⟩
      refine g_w (ws' := [(n0, .inr (2, [.ref s0, .ref s1, .ref s2, .ref s3, .ref s4, .int (nI ((nmP (cut b cnt) m w).length)), .int (nI nc'), .int (nI fb')])), (s0, .inl (T 0, 201, .inl (fun j => nI (sl j)))), (s1, .inl (T 0, 800, .inl (fun j => nI (te j)))), (s2, .inl (T 0, 801, .inl (fun j => nI (pl' j)))), (s3, .inl (T 0, 801, .inl (fun j => nI (le' j)))), (s4, .inl (T 0, 801, .inl (fun j => nI (fr' j)))), (h0, .inr (6, [.ref a1, .ref a2, .ref a3, .ref x0, .int (nI N), .int (nI sg)])), (a1, .inl (T 0, 201, .inl (fun j => nI (af j)))), (a2, .inl (T 1, 201, .inr (.inl (fun j => lN (inf j))))), (a3, .inl (T 0, 201, .inl (fun j => nI (wf j)))), (x0, .inr (4, [.int (nI 8192), .ref x1, .int (nI cnt)])), (x1, .inl (T 1, ((8192 + 7) / 8), .inr (.inl (pack b))))]) rfl ?_
      refine g_st (st' := [.int (nI r), .int (nI ((nmP (cut b cnt) m w).length)), .ref s1]) rfl ?_
      refine g_iast (pc' := 75) hE 2 [(n0, .inr (2, [.ref s0, .ref s1, .ref s2, .ref s3, .ref s4, .int (nI ((nmP (cut b cnt) m w).length)), .int (nI nc'), .int (nI fb')])), (s0, .inl (T 0, 201, .inl (fun j => nI (sl j)))), (s1, .inl (T 0, 800, .inl (fun j => nI ((gu te ((nmP (cut b cnt) m w).length) r) j)))), (s2, .inl (T 0, 801, .inl (fun j => nI (pl' j)))), (s3, .inl (T 0, 801, .inl (fun j => nI (le' j)))), (s4, .inl (T 0, 801, .inl (fun j => nI (fr' j)))), (h0, .inr (6, [.ref a1, .ref a2, .ref a3, .ref x0, .int (nI N), .int (nI sg)])), (a1, .inl (T 0, 201, .inl (fun j => nI (af j)))), (a2, .inl (T 1, 201, .inr (.inl (fun j => lN (inf j))))), (a3, .inl (T 0, 201, .inl (fun j => nI (wf j)))), (x0, .inr (4, [.int (nI 8192), .ref x1, .int (nI cnt)])), (x1, .inl (T 1, ((8192 + 7) / 8), .inr (.inl (pack b))))] rfl (by omega) (by omega) (gu_I _ _ _) rfl dX3_gatherOf_74 rfl ?_
      refine g_aload_n (pc' := 76) hE 3 rfl rfl dX3_gatherOf_75 rfl ?_
      refine g_dup (pc' := 77) hE rfl dX3_gatherOf_76 rfl ?_
      refine g_get (pc' := 80) hE gcX3 0 rfl 5 (by decide) rfl kX3_27 dX3_gatherOf_77 rfl ?_
      refine g_iconst (pc' := 81) hE (nI 1) (by decide) dX3_gatherOf_80 rfl ?_
      refine g_iadd (pc' := 82) hE dX3_gatherOf_81 rfl ?_
      refine g_eqi (show _ = nI ((nmP (cut b cnt) m w).length + 1) from nI_add _ _) ?_
      refine g_eqi (show _ = nI ((nmP (cut b cnt) m (w + 1)).length) from by rw [nmP_s hc30]; simp) ?_
      refine g_put (pc' := 85) hE gcX3 0 rfl 5 [(n0, .inr (2, [.ref s0, .ref s1, .ref s2, .ref s3, .ref s4, .int (nI ((nmP (cut b cnt) m (w + 1)).length)), .int (nI nc'), .int (nI fb')])), (s0, .inl (T 0, 201, .inl (fun j => nI (sl j)))), (s1, .inl (T 0, 800, .inl (fun j => nI ((gu te ((nmP (cut b cnt) m w).length) r) j)))), (s2, .inl (T 0, 801, .inl (fun j => nI (pl' j)))), (s3, .inl (T 0, 801, .inl (fun j => nI (le' j)))), (s4, .inl (T 0, 801, .inl (fun j => nI (fr' j)))), (h0, .inr (6, [.ref a1, .ref a2, .ref a3, .ref x0, .int (nI N), .int (nI sg)])), (a1, .inl (T 0, 201, .inl (fun j => nI (af j)))), (a2, .inl (T 1, 201, .inr (.inl (fun j => lN (inf j))))), (a3, .inl (T 0, 201, .inl (fun j => nI (wf j)))), (x0, .inr (4, [.int (nI 8192), .ref x1, .int (nI cnt)])), (x1, .inl (T 1, ((8192 + 7) / 8), .inr (.inl (pack b))))] (by decide) (Nat.le_of_ble_eq_true rfl) rfl rfl rfl rfl kX3_27 dX3_gatherOf_82 rfl ?_
      refine g_iinc (pc' := 88) hE (nI (w + 1)) [(5, .int (nI (w + 1))), (4, .int (nI (wds (inft (cut b cnt) (m + 1))))), (3, .int (nI (kd (inft (cut b cnt) (m + 1))))), (0, .ref n0), (1, .ref h0), (2, .int (nI (m + 1)))] 0 rfl dX3_gatherOf_85 rfl (g_incN _ 1) (by decide) rfl ?_
      refine g_goto (tgt := 16) hE dX3_gatherOf_88 rfl ?_
      exact ih16 _ (by omega) (w + 1) (gu te ((nmP (cut b cnt) m w).length) r) pl' le' fr' nc' fb' rfl (by omega) (by first | (rw [nmP_n hc30]; exact hN) | (rw [nmP_s hc30]; exact hN.step (by omega) (by omega) (by omega) hx))

set_option maxHeartbeats 4000000 in
set_option maxRecDepth 100000 in
theorem qX3_gather (l : Launch) (D : va_G) (T : Nat → ClassId) (n0 s0 s1 s2 s3 s4 : Nat) (sl te pl le fr : Nat → Nat) (ns nc fb : Nat) (h0 a1 a2 a3 x0 N sg : Nat) (af inf wf : Nat → Nat) (x1 cnt : Nat) (b : Nat → Nat) (hc : cnt ≤ 8192) (hb : ∀ i, b i < 256) (hT : TyArr (cut b cnt) N af inf wf) (hok : okUpTo (cut b cnt) sg cnt N) (hsg : sg ≤ cnt) (hNB : ∀ j, pl j < 2 ^ 20 ∧ le j < 2 ^ 20 ∧ fr j < 2 ^ 24) (hte : ∀ j, te j ≤ 800) (hsl : ∀ j, sl j ≤ 800) : Con l D T yX3_gather cX3_gather 3 none 6 0 0 [.ref n0, .ref h0] [(n0, .inr (2, [.ref s0, .ref s1, .ref s2, .ref s3, .ref s4, .int (nI ns), .int (nI nc), .int (nI fb)])), (s0, .inl (T 0, 201, .inl (fun j => nI (sl j)))), (s1, .inl (T 0, 800, .inl (fun j => nI (te j)))), (s2, .inl (T 0, 801, .inl (fun j => nI (pl j)))), (s3, .inl (T 0, 801, .inl (fun j => nI (le j)))), (s4, .inl (T 0, 801, .inl (fun j => nI (fr j)))), (h0, .inr (6, [.ref a1, .ref a2, .ref a3, .ref x0, .int (nI N), .int (nI sg)])), (a1, .inl (T 0, 201, .inl (fun j => nI (af j)))), (a2, .inl (T 1, 201, .inr (.inl (fun j => lN (inf j))))), (a3, .inl (T 0, 201, .inl (fun j => nI (wf j)))), (x0, .inr (4, [.int (nI 8192), .ref x1, .int (nI cnt)])), (x1, .inl (T 1, ((8192 + 7) / 8), .inr (.inl (pack b))))] (fun v w1 => ∃ (sl' te' pl' le' fr' : Nat → Nat) (ns' nc' fb' : Nat), v = none ∧ w1 = [(n0, .inr (2, [.ref s0, .ref s1, .ref s2, .ref s3, .ref s4, .int (nI ns'), .int (nI nc'), .int (nI fb')])), (s0, .inl (T 0, 201, .inl (fun j => nI (sl' j)))), (s1, .inl (T 0, 800, .inl (fun j => nI (te' j)))), (s2, .inl (T 0, 801, .inl (fun j => nI (pl' j)))), (s3, .inl (T 0, 801, .inl (fun j => nI (le' j)))), (s4, .inl (T 0, 801, .inl (fun j => nI (fr' j)))), (h0, .inr (6, [.ref a1, .ref a2, .ref a3, .ref x0, .int (nI N), .int (nI sg)])), (a1, .inl (T 0, 201, .inl (fun j => nI (af j)))), (a2, .inl (T 1, 201, .inr (.inl (fun j => lN (inf j))))), (a3, .inl (T 0, 201, .inl (fun j => nI (wf j)))), (x0, .inr (4, [.int (nI 8192), .ref x1, .int (nI cnt)])), (x1, .inl (T 1, ((8192 + 7) / 8), .inr (.inl (pack b))))] ∧ NamesOK (cut b cnt) N sg sl' te' pl' le' fr' ns' nc' fb') := by
  refine Con.of (by decide) (Nat.le_of_ble_eq_true rfl) ?_
  intro E hE
  have hN2 := hok.1
  refine g_lv (lv' := [(0, .ref n0), (1, .ref h0)]) [0, 1] rfl ?_
  refine g_aload_n (pc' := 1) hE 0 rfl rfl dX3_gather_0 rfl ?_
  refine g_iconst (pc' := 2) hE (nI 0) (by decide) dX3_gather_1 rfl ?_
  refine g_put (pc' := 5) hE gcX3 0 rfl 5 [(n0, .inr (2, [.ref s0, .ref s1, .ref s2, .ref s3, .ref s4, .int (nI 0), .int (nI nc), .int (nI fb)])), (s0, .inl (T 0, 201, .inl (fun j => nI (sl j)))), (s1, .inl (T 0, 800, .inl (fun j => nI (te j)))), (s2, .inl (T 0, 801, .inl (fun j => nI (pl j)))), (s3, .inl (T 0, 801, .inl (fun j => nI (le j)))), (s4, .inl (T 0, 801, .inl (fun j => nI (fr j)))), (h0, .inr (6, [.ref a1, .ref a2, .ref a3, .ref x0, .int (nI N), .int (nI sg)])), (a1, .inl (T 0, 201, .inl (fun j => nI (af j)))), (a2, .inl (T 1, 201, .inr (.inl (fun j => lN (inf j))))), (a3, .inl (T 0, 201, .inl (fun j => nI (wf j)))), (x0, .inr (4, [.int (nI 8192), .ref x1, .int (nI cnt)])), (x1, .inl (T 1, ((8192 + 7) / 8), .inr (.inl (pack b))))] (by decide) (Nat.le_of_ble_eq_true rfl) rfl rfl rfl rfl kX3_27 dX3_gather_2 rfl ?_
  refine g_aload_n (pc' := 6) hE 0 rfl rfl dX3_gather_5 rfl ?_
  refine g_iconst (pc' := 7) hE (nI 0) (by decide) dX3_gather_6 rfl ?_
  refine g_put (pc' := 10) hE gcX3 0 rfl 6 [(n0, .inr (2, [.ref s0, .ref s1, .ref s2, .ref s3, .ref s4, .int (nI 0), .int (nI 0), .int (nI fb)])), (s0, .inl (T 0, 201, .inl (fun j => nI (sl j)))), (s1, .inl (T 0, 800, .inl (fun j => nI (te j)))), (s2, .inl (T 0, 801, .inl (fun j => nI (pl j)))), (s3, .inl (T 0, 801, .inl (fun j => nI (le j)))), (s4, .inl (T 0, 801, .inl (fun j => nI (fr j)))), (h0, .inr (6, [.ref a1, .ref a2, .ref a3, .ref x0, .int (nI N), .int (nI sg)])), (a1, .inl (T 0, 201, .inl (fun j => nI (af j)))), (a2, .inl (T 1, 201, .inr (.inl (fun j => lN (inf j))))), (a3, .inl (T 0, 201, .inl (fun j => nI (wf j)))), (x0, .inr (4, [.int (nI 8192), .ref x1, .int (nI cnt)])), (x1, .inl (T 1, ((8192 + 7) / 8), .inr (.inl (pack b))))] (by decide) (Nat.le_of_ble_eq_true rfl) rfl rfl rfl rfl kX3_31 dX3_gather_7 rfl ?_
  refine g_aload_n (pc' := 11) hE 0 rfl rfl dX3_gather_10 rfl ?_
  refine g_iconst (pc' := 12) hE (nI 1) (by decide) dX3_gather_11 rfl ?_
  refine g_put (pc' := 15) hE gcX3 0 rfl 7 [(n0, .inr (2, [.ref s0, .ref s1, .ref s2, .ref s3, .ref s4, .int (nI 0), .int (nI 0), .int (nI 1)])), (s0, .inl (T 0, 201, .inl (fun j => nI (sl j)))), (s1, .inl (T 0, 800, .inl (fun j => nI (te j)))), (s2, .inl (T 0, 801, .inl (fun j => nI (pl j)))), (s3, .inl (T 0, 801, .inl (fun j => nI (le j)))), (s4, .inl (T 0, 801, .inl (fun j => nI (fr j)))), (h0, .inr (6, [.ref a1, .ref a2, .ref a3, .ref x0, .int (nI N), .int (nI sg)])), (a1, .inl (T 0, 201, .inl (fun j => nI (af j)))), (a2, .inl (T 1, 201, .inr (.inl (fun j => lN (inf j))))), (a3, .inl (T 0, 201, .inl (fun j => nI (wf j)))), (x0, .inr (4, [.int (nI 8192), .ref x1, .int (nI cnt)])), (x1, .inl (T 1, ((8192 + 7) / 8), .inr (.inl (pack b))))] (by decide) (Nat.le_of_ble_eq_true rfl) rfl rfl rfl rfl kX3_34 dX3_gather_12 rfl ?_
  refine g_iconst (pc' := 16) hE (nI 1) (by decide) dX3_gather_15 rfl ?_
  refine g_istore_n (pc' := 17) hE [(2, .int (nI 1)), (0, .ref n0), (1, .ref h0)] dX3_gather_16 rfl rfl (by decide) rfl ?_
  refine (show ∀ (d17 : Nat) (m : Nat) (sl : Nat → Nat) (te : Nat → Nat) (pl : Nat → Nat) (le : Nat → Nat) (fr : Nat → Nat) (nc : Nat) (fb : Nat), N - m = d17 → (m ≤ N) → (NOK (cut b cnt) sg (nmA (cut b cnt) m) te pl le fr nc fb) → (∀ j, j < m → sl (j + 1) = (nmA (cut b cnt) j).length) → (∀ j, sl j ≤ 800) → G l E D 3 0 0 [(n0, .inr (2, [.ref s0, .ref s1, .ref s2, .ref s3, .ref s4, .int (nI ((nmA (cut b cnt) m).length)), .int (nI nc), .int (nI fb)])), (s0, .inl (T 0, 201, .inl (fun j => nI (sl j)))), (s1, .inl (T 0, 800, .inl (fun j => nI (te j)))), (s2, .inl (T 0, 801, .inl (fun j => nI (pl j)))), (s3, .inl (T 0, 801, .inl (fun j => nI (le j)))), (s4, .inl (T 0, 801, .inl (fun j => nI (fr j)))), (h0, .inr (6, [.ref a1, .ref a2, .ref a3, .ref x0, .int (nI N), .int (nI sg)])), (a1, .inl (T 0, 201, .inl (fun j => nI (af j)))), (a2, .inl (T 1, 201, .inr (.inl (fun j => lN (inf j))))), (a3, .inl (T 0, 201, .inl (fun j => nI (wf j)))), (x0, .inr (4, [.int (nI 8192), .ref x1, .int (nI cnt)])), (x1, .inl (T 1, ((8192 + 7) / 8), .inr (.inl (pack b))))] [(2, .int (nI (m + 1))), (0, .ref n0), (1, .ref h0)] 17 [] from ?_) _ 0 sl te pl le fr 0 1 rfl (Nat.zero_le _) (NOK_0 _ _ hNB hte) (fun j hj => absurd hj (by omega)) hsl
  intro d17
  induction d17 using Nat.strongRecOn with
  | _ d17 ih17 =>
  intro m sl te pl le fr nc fb hd17 hm hN hs1 hs2
  refine g_iload_n (pc' := 18) hE 0 rfl rfl dX3_gather_17 rfl ?_
  refine g_aload_n (pc' := 19) hE 2 rfl rfl dX3_gather_18 rfl ?_
  refine g_callV (pc' := 22) (As := []) (rest := [.int (nI (m + 1))]) hE (qX7_count l D T h0 a1 a2 a3 x0 N sg af inf wf ) mX7_count kX3_37 iX7_count sX7_count (by decide) rfl (by decide) 6 rfl rfl [6, 7, 8, 9] rfl (by decide) rfl (Nat.le_of_ble_eq_true rfl) dX3_gather_19 rfl (gBackR [6, 7, 8, 9] rfl ?_)
  rintro _ rfl
  refine g_st (st' := [.int (nI N), .int (nI (m + 1))]) rfl ?_
  refine g_icmpN_gt (pc' := 25) (tgt := 56) hE (by omega) (by omega) dX3_gather_22 rfl rfl (fun hc22 => ?_) (fun hc22 => ?_)
  · exact hE.vret (⟨sl, te, pl, le, fr, _, nc, fb, rfl, rfl, by rw [show m = N by omega], by rw [show N = m by omega]; exact hN, by rw [show N = m by omega]; exact hs1, hs2, by have h1 := nmA_len (cut b cnt) m; have h2 := hok.2.2.1; rw [show m = N by omega] at h1 ⊢; omega⟩) (Nat.zero_le _) (Nat.zero_le _) dX3_gather_56
  · refine g_iload_n (pc' := 26) hE 0 rfl rfl dX3_gather_25 rfl ?_
    refine g_aload_n (pc' := 27) hE 1 rfl rfl dX3_gather_26 rfl ?_
    refine g_get (pc' := 30) hE gcX3 0 rfl 0 (by decide) rfl kX3_9 dX3_gather_27 rfl ?_
    refine g_alen (pc' := 31) hE 1 0 rfl rfl dX3_gather_30 rfl ?_
    refine g_icmpN_ge (pc' := 34) (tgt := 56) hE (by omega) (by omega) dX3_gather_31 rfl rfl (fun hc31 => ?_) (fun hc31 => ?_)
    · omega
    refine g_aload_n (pc' := 35) hE 1 rfl rfl dX3_gather_34 rfl ?_
    refine g_get (pc' := 38) hE gcX3 0 rfl 0 (by decide) rfl kX3_9 dX3_gather_35 rfl ?_
    refine g_iload_n (pc' := 39) hE 0 rfl rfl dX3_gather_38 rfl ?_
    refine g_aload_n (pc' := 40) hE 1 rfl rfl dX3_gather_39 rfl ?_
    refine g_get (pc' := 43) hE gcX3 0 rfl 5 (by decide) rfl kX3_27 dX3_gather_40 rfl ?_
    obtain ⟨-, -, hi8, -, -⟩ := hok.at (show m < N by omega)
    have hml := nmA_len (cut b cnt) m
    have hms : itc (cut b cnt) (m + 1) = itc (cut b cnt) m + ic (inft (cut b cnt) (m + 1)) := rfl
    refine g_iast (pc' := 44) hE 1 [(n0, .inr (2, [.ref s0, .ref s1, .ref s2, .ref s3, .ref s4, .int (nI ((nmA (cut b cnt) m).length)), .int (nI nc), .int (nI fb)])), (s0, .inl (T 0, 201, .inl (fun j => nI ((gu sl (m + 1) ((nmA (cut b cnt) m).length)) j)))), (s1, .inl (T 0, 800, .inl (fun j => nI (te j)))), (s2, .inl (T 0, 801, .inl (fun j => nI (pl j)))), (s3, .inl (T 0, 801, .inl (fun j => nI (le j)))), (s4, .inl (T 0, 801, .inl (fun j => nI (fr j)))), (h0, .inr (6, [.ref a1, .ref a2, .ref a3, .ref x0, .int (nI N), .int (nI sg)])), (a1, .inl (T 0, 201, .inl (fun j => nI (af j)))), (a2, .inl (T 1, 201, .inr (.inl (fun j => lN (inf j))))), (a3, .inl (T 0, 201, .inl (fun j => nI (wf j)))), (x0, .inr (4, [.int (nI 8192), .ref x1, .int (nI cnt)])), (x1, .inl (T 1, ((8192 + 7) / 8), .inr (.inl (pack b))))] rfl (by omega) (by omega) (gu_I _ _ _) rfl dX3_gather_43 rfl ?_
    refine g_aload_n (pc' := 45) hE 1 rfl rfl dX3_gather_44 rfl ?_
    refine g_aload_n (pc' := 46) hE 2 rfl rfl dX3_gather_45 rfl ?_
    refine g_iload_n (pc' := 47) hE 0 rfl rfl dX3_gather_46 rfl ?_
    refine g_callV (pc' := 50) (As := [.ref h0, .int (nI (m + 1))]) (rest := []) hE (qX3_gatherOf l D T n0 s0 s1 s2 s3 s4 (gu sl (m + 1) (nmA (cut b cnt) m).length) te pl le fr nc fb h0 a1 a2 a3 x0 N sg af inf wf x1 cnt b m hc hb hT hok hsg (by omega) hN) mX3_gatherOf kX3_42 iX3_gatherOf sX3_gatherOf (by decide) rfl (by decide) 0 rfl rfl [0, 1, 2, 3, 4, 5, 6, 7, 8, 9, 10, 11] rfl (by decide) rfl (Nat.le_of_ble_eq_true rfl) dX3_gather_47 rfl (gBackU [0, 1, 2, 3, 4, 5, 6, 7, 8, 9, 10, 11] rfl (fun v w1 h => by obtain ⟨_, _, _, _, _, _, _, rfl, _⟩ := h; simp only [List.map_cons, List.map_nil]) ?_)
    rintro _ _ ⟨te', pl', le', fr', nc', fb', rfl, rfl, hN'⟩
    refine g_w (ws' := [(n0, .inr (2, [.ref s0, .ref s1, .ref s2, .ref s3, .ref s4, .int (nI ((nmA (cut b cnt) (m + 1)).length)), .int (nI nc'), .int (nI fb')])), (s0, .inl (T 0, 201, .inl (fun j => nI ((gu sl (m + 1) (nmA (cut b cnt) m).length) j)))), (s1, .inl (T 0, 800, .inl (fun j => nI (te' j)))), (s2, .inl (T 0, 801, .inl (fun j => nI (pl' j)))), (s3, .inl (T 0, 801, .inl (fun j => nI (le' j)))), (s4, .inl (T 0, 801, .inl (fun j => nI (fr' j)))), (h0, .inr (6, [.ref a1, .ref a2, .ref a3, .ref x0, .int (nI N), .int (nI sg)])), (a1, .inl (T 0, 201, .inl (fun j => nI (af j)))), (a2, .inl (T 1, 201, .inr (.inl (fun j => lN (inf j))))), (a3, .inl (T 0, 201, .inl (fun j => nI (wf j)))), (x0, .inr (4, [.int (nI 8192), .ref x1, .int (nI cnt)])), (x1, .inl (T 1, ((8192 + 7) / 8), .inr (.inl (pack b))))]) rfl ?_
    refine g_iinc (pc' := 53) hE (nI (m + 1 + 1)) [(2, .int (nI (m + 1 + 1))), (0, .ref n0), (1, .ref h0)] 0 rfl dX3_gather_50 rfl (g_incN _ 1) (by decide) rfl ?_
    refine g_goto (tgt := 17) hE dX3_gather_53 rfl ?_
    exact ih17 _ (by omega) (m + 1) (gu sl (m + 1) (nmA (cut b cnt) m).length) te' pl' le' fr' nc' fb' rfl (by omega) hN' (fun j hj => by by_cases e : j = m; (subst e; exact gu_s _ _ _); (rw [gu_n _ _ (by omega)]; exact hs1 j (by omega))) (fun j => by unfold gu; split; omega; exact hs2 j)
