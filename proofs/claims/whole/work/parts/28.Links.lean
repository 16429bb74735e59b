set_option maxHeartbeats 4000000 in
set_option maxRecDepth 100000 in
/-- tally of a type that is there, or VOID -/
theorem qX2_tally (l : Launch) (D : va_G) (T : Nat → ClassId) (l0 k0 k1 k2 k3 k4 k5 k6 : Nat) (st to bs bk qu on ba : Nat → Nat) (i : Nat) (hi : i ≤ 200) (hm : st i ≤ st (i + 1)) : Con l D T yX2_tally cX2_tally 2 (some .int) 0 0 0 [.ref l0, .int (nI i)] [(l0, .inr (1, [.ref k0, .ref k1, .ref k2, .ref k3, .ref k4, .ref k5, .ref k6])), (k0, .inl (T 0, 202, .inl (fun j => nI (st j)))), (k1, .inl (T 0, 1000, .inl (fun j => nI (to j)))), (k2, .inl (T 0, 202, .inl (fun j => nI (bs j)))), (k3, .inl (T 0, 1000, .inl (fun j => nI (bk j)))), (k4, .inl (T 0, 201, .inl (fun j => nI (qu j)))), (k5, .inl (T 2, 201, .inl (fun j => nI (on j)))), (k6, .inl (T 2, 201, .inl (fun j => nI (ba j))))] (fun v w1 => w1 = [(l0, .inr (1, [.ref k0, .ref k1, .ref k2, .ref k3, .ref k4, .ref k5, .ref k6])), (k0, .inl (T 0, 202, .inl (fun j => nI (st j)))), (k1, .inl (T 0, 1000, .inl (fun j => nI (to j)))), (k2, .inl (T 0, 202, .inl (fun j => nI (bs j)))), (k3, .inl (T 0, 1000, .inl (fun j => nI (bk j)))), (k4, .inl (T 0, 201, .inl (fun j => nI (qu j)))), (k5, .inl (T 2, 201, .inl (fun j => nI (on j)))), (k6, .inl (T 2, 201, .inl (fun j => nI (ba j))))] ∧ v = some (.int (nI (st (i + 1) - st i)))) := by
  refine Con.of (by decide) (Nat.le_of_ble_eq_true rfl) ?_
  intro E hE
  refine g_lv (lv' := [(0, .ref l0), (1, .int (nI i))]) [0, 1] rfl ?_
  refine g_iload_n (pc' := 1) hE 1 rfl rfl dX2_tally_0 rfl ?_
  refine g_ifN_lt (pc' := 4) (tgt := 29) hE (by omega) dX2_tally_1 rfl rfl (fun hc1 => ?_) (fun hc1 => ?_)
  · exact hc1.elim
  refine g_iload_n (pc' := 5) hE 1 rfl rfl dX2_tally_4 rfl ?_
  refine g_sipush (pc' := 8) hE (nI 200) (by decide) dX2_tally_5 rfl ?_
  refine g_icmpN_gt (pc' := 11) (tgt := 29) hE (by omega) (by omega) dX2_tally_8 rfl rfl (fun hc8 => ?_) (fun hc8 => ?_)
  · omega
  refine g_aload_n (pc' := 12) hE 0 rfl rfl dX2_tally_11 rfl ?_
  refine g_get (pc' := 15) hE gcX2 0 rfl 0 (by decide) rfl kX2_9 dX2_tally_12 rfl ?_
  refine g_iload_n (pc' := 16) hE 1 rfl rfl dX2_tally_15 rfl ?_
  refine g_iconst (pc' := 17) hE (nI 1) (by decide) dX2_tally_16 rfl ?_
  refine g_iadd (pc' := 18) hE dX2_tally_17 rfl ?_
  refine g_eqi (show _ = nI (i + 1) from nI_add _ _) ?_
  refine g_iald (pc' := 19) hE 1 rfl (by omega) (by omega) dX2_tally_18 rfl ?_
  refine g_aload_n (pc' := 20) hE 0 rfl rfl dX2_tally_19 rfl ?_
  refine g_get (pc' := 23) hE gcX2 0 rfl 0 (by decide) rfl kX2_9 dX2_tally_20 rfl ?_
  refine g_iload_n (pc' := 24) hE 1 rfl rfl dX2_tally_23 rfl ?_
  refine g_iald (pc' := 25) hE 1 rfl (by omega) (by omega) dX2_tally_24 rfl ?_
  refine g_isub (pc' := 26) hE dX2_tally_25 rfl ?_
  refine g_eqi (show _ = nI (st (i + 1) - (st i)) from pk_sub (by omega)) ?_
  refine g_goto (tgt := 30) hE dX2_tally_26 rfl ?_
  exact hE.iret (⟨rfl, rfl⟩) (Nat.zero_le _) (Nat.zero_le _) dX2_tally_30

set_option maxHeartbeats 4000000 in
set_option maxRecDepth 100000 in
theorem qX2_target (l : Launch) (D : va_G) (T : Nat → ClassId) (l0 k0 k1 k2 k3 k4 k5 k6 : Nat) (st to bs bk qu on ba : Nat → Nat) (i k : Nat) (hi : i ≤ 200) (hm : st i ≤ st (i + 1)) (hs : st (i + 1) ≤ 1000) (hk : k < st (i + 1) - st i) : Con l D T yX2_target cX2_target 3 (some .int) 1 0 0 [.ref l0, .int (nI i), .int (nI k)] [(l0, .inr (1, [.ref k0, .ref k1, .ref k2, .ref k3, .ref k4, .ref k5, .ref k6])), (k0, .inl (T 0, 202, .inl (fun j => nI (st j)))), (k1, .inl (T 0, 1000, .inl (fun j => nI (to j)))), (k2, .inl (T 0, 202, .inl (fun j => nI (bs j)))), (k3, .inl (T 0, 1000, .inl (fun j => nI (bk j)))), (k4, .inl (T 0, 201, .inl (fun j => nI (qu j)))), (k5, .inl (T 2, 201, .inl (fun j => nI (on j)))), (k6, .inl (T 2, 201, .inl (fun j => nI (ba j))))] (fun v w1 => w1 = [(l0, .inr (1, [.ref k0, .ref k1, .ref k2, .ref k3, .ref k4, .ref k5, .ref k6])), (k0, .inl (T 0, 202, .inl (fun j => nI (st j)))), (k1, .inl (T 0, 1000, .inl (fun j => nI (to j)))), (k2, .inl (T 0, 202, .inl (fun j => nI (bs j)))), (k3, .inl (T 0, 1000, .inl (fun j => nI (bk j)))), (k4, .inl (T 0, 201, .inl (fun j => nI (qu j)))), (k5, .inl (T 2, 201, .inl (fun j => nI (on j)))), (k6, .inl (T 2, 201, .inl (fun j => nI (ba j))))] ∧ v = some (.int (nI (to (st i + k))))) := by
  refine Con.of (by decide) (Nat.le_of_ble_eq_true rfl) ?_
  intro E hE
  refine g_lv (lv' := [(0, .ref l0), (1, .int (nI i)), (2, .int (nI k))]) [0, 1, 2] rfl ?_
  refine g_iload_n (pc' := 1) hE 2 rfl rfl dX2_target_0 rfl ?_
  refine g_ifN_lt (pc' := 4) (tgt := 29) hE (by omega) dX2_target_1 rfl rfl (fun hc1 => ?_) (fun hc1 => ?_)
  · exact hc1.elim
  refine g_iload_n (pc' := 5) hE 2 rfl rfl dX2_target_4 rfl ?_
  refine g_aload_n (pc' := 6) hE 0 rfl rfl dX2_target_5 rfl ?_
  refine g_iload_n (pc' := 7) hE 1 rfl rfl dX2_target_6 rfl ?_
  refine g_callV (pc' := 10) (As := [.int (nI i)]) (rest := [.int (nI k)]) hE (qX2_tally l D T l0 k0 k1 k2 k3 k4 k5 k6 st to bs bk qu on ba i hi hm) mX2_tally kX2_48 iX2_tally sX2_tally (by decide) rfl (by decide) 0 rfl rfl [0, 1, 2, 3, 4, 5, 6, 7] rfl (by decide) rfl (Nat.le_of_ble_eq_true rfl) dX2_target_7 rfl (gBackR [0, 1, 2, 3, 4, 5, 6, 7] rfl ?_)
  rintro _ rfl
  refine g_st (st' := [.int (nI (st (i + 1) - st i)), .int (nI k)]) rfl ?_
  refine g_icmpN_ge (pc' := 13) (tgt := 29) hE (by omega) (by omega) dX2_target_10 rfl rfl (fun hc10 => ?_) (fun hc10 => ?_)
  · omega
  refine g_aload_n (pc' := 14) hE 0 rfl rfl dX2_target_13 rfl ?_
  refine g_get (pc' := 17) hE gcX2 0 rfl 1 (by decide) rfl kX2_15 dX2_target_14 rfl ?_
  refine g_aload_n (pc' := 18) hE 0 rfl rfl dX2_target_17 rfl ?_
  refine g_get (pc' := 21) hE gcX2 0 rfl 0 (by decide) rfl kX2_9 dX2_target_18 rfl ?_
  refine g_iload_n (pc' := 22) hE 1 rfl rfl dX2_target_21 rfl ?_
  refine g_iald (pc' := 23) hE 1 rfl (by omega) (by omega) dX2_target_22 rfl ?_
  refine g_iload_n (pc' := 24) hE 2 rfl rfl dX2_target_23 rfl ?_
  refine g_iadd (pc' := 25) hE dX2_target_24 rfl ?_
  refine g_eqi (show _ = nI (st i + k) from nI_add _ _) ?_
  refine g_iald (pc' := 26) hE 2 rfl (by omega) (by omega) dX2_target_25 rfl ?_
  refine g_goto (tgt := 30) hE dX2_target_26 rfl ?_
  exact hE.iret (⟨rfl, rfl⟩) (Nat.zero_le _) (Nat.zero_le _) dX2_target_30

set_option maxHeartbeats 4000000 in
set_option maxRecDepth 100000 in
theorem qX2_gatherOf0 (l : Launch) (D : va_G) (T : Nat → ClassId) (l0 k0 k1 k2 k3 k4 k5 k6 : Nat) (st to bs bk qu on ba : Nat → Nat) (h0 a1 a2 a3 x0 N sg : Nat) (af inf wf : Nat → Nat) (x1 cnt : Nat) (b : Nat → Nat) (f : Nat) (hc : cnt ≤ 8192) (hb : ∀ i, b i < 256) (hT : TyArr (cut b cnt) N af inf wf) (hok : okUpTo (cut b cnt) sg cnt N) (hsg : sg ≤ cnt) : Con l D T yX2_gatherOf cX2_gatherOf 8 (some .int) 3 0 0 [.ref l0, .ref h0, .int (nI 0), .int (nI f)] [(l0, .inr (1, [.ref k0, .ref k1, .ref k2, .ref k3, .ref k4, .ref k5, .ref k6])), (k0, .inl (T 0, 202, .inl (fun j => nI (st j)))), (k1, .inl (T 0, 1000, .inl (fun j => nI (to j)))), (k2, .inl (T 0, 202, .inl (fun j => nI (bs j)))), (k3, .inl (T 0, 1000, .inl (fun j => nI (bk j)))), (k4, .inl (T 0, 201, .inl (fun j => nI (qu j)))), (k5, .inl (T 2, 201, .inl (fun j => nI (on j)))), (k6, .inl (T 2, 201, .inl (fun j => nI (ba j)))), (h0, .inr (6, [.ref a1, .ref a2, .ref a3, .ref x0, .int (nI N), .int (nI sg)])), (a1, .inl (T 0, 201, .inl (fun j => nI (af j)))), (a2, .inl (T 1, 201, .inr (.inl (fun j => lN (inf j))))), (a3, .inl (T 0, 201, .inl (fun j => nI (wf j)))), (x0, .inr (4, [.int (nI 8192), .ref x1, .int (nI cnt)])), (x1, .inl (T 1, ((8192 + 7) / 8), .inr (.inl (pack b))))] (fun v w1 => w1 = [(l0, .inr (1, [.ref k0, .ref k1, .ref k2, .ref k3, .ref k4, .ref k5, .ref k6])), (k0, .inl (T 0, 202, .inl (fun j => nI (st j)))), (k1, .inl (T 0, 1000, .inl (fun j => nI (to j)))), (k2, .inl (T 0, 202, .inl (fun j => nI (bs j)))), (k3, .inl (T 0, 1000, .inl (fun j => nI (bk j)))), (k4, .inl (T 0, 201, .inl (fun j => nI (qu j)))), (k5, .inl (T 2, 201, .inl (fun j => nI (on j)))), (k6, .inl (T 2, 201, .inl (fun j => nI (ba j)))), (h0, .inr (6, [.ref a1, .ref a2, .ref a3, .ref x0, .int (nI N), .int (nI sg)])), (a1, .inl (T 0, 201, .inl (fun j => nI (af j)))), (a2, .inl (T 1, 201, .inr (.inl (fun j => lN (inf j))))), (a3, .inl (T 0, 201, .inl (fun j => nI (wf j)))), (x0, .inr (4, [.int (nI 8192), .ref x1, .int (nI cnt)])), (x1, .inl (T 1, ((8192 + 7) / 8), .inr (.inl (pack b))))] ∧ v = some (.int (nI f))) := by
  refine Con.of (by decide) (Nat.le_of_ble_eq_true rfl) ?_
  intro E hE
  have hN2 := hok.1
  refine g_lv (lv' := [(0, .ref l0), (1, .ref h0), (2, .int (nI 0)), (3, .int (nI f))]) [0, 1, 2, 3] rfl ?_
  refine g_aload_n (pc' := 1) hE 1 rfl rfl dX2_gatherOf_0 rfl ?_
  refine g_iload_n (pc' := 2) hE 2 rfl rfl dX2_gatherOf_1 rfl ?_
  refine g_callV (pc' := 5) (As := [.int (nI 0)]) (rest := []) hE (qX7_kind l D T h0 a1 a2 a3 x0 N sg af inf wf 0 hN2 hT.1 (by omega)) mX7_kind kX2_56 iX7_kind sX7_kind (by decide) rfl (by decide) 8 rfl rfl [8, 9, 10, 11] rfl (by decide) rfl (Nat.le_of_ble_eq_true rfl) dX2_gatherOf_2 rfl (gBackR [8, 9, 10, 11] rfl ?_)
  rintro _ rfl
  refine g_st (st' := [.int (nI (hv N 0 (kd (inf 0))))]) rfl ?_
  refine g_eqi (show _ = nI 0 from by rw [hv_0]) ?_
  refine g_istore (pc' := 7) hE [(4, .int (nI 0)), (0, .ref l0), (1, .ref h0), (2, .int (nI 0)), (3, .int (nI f))] dX2_gatherOf_5 rfl (by decide) rfl ?_
  refine g_aload_n (pc' := 8) hE 2 rfl rfl dX2_gatherOf_7 rfl ?_
  refine g_iload_n (pc' := 9) hE 3 rfl rfl dX2_gatherOf_8 rfl ?_
  refine g_callV (pc' := 12) (As := [.int (nI 0)]) (rest := []) hE (qX7_words l D T h0 a1 a2 a3 x0 N sg af inf wf 0 hN2 hT.1 (by omega)) mX7_words kX2_59 iX7_words sX7_words (by decide) rfl (by decide) 8 rfl rfl [8, 9, 10, 11] rfl (by decide) rfl (Nat.le_of_ble_eq_true rfl) dX2_gatherOf_9 rfl (gBackR [8, 9, 10, 11] rfl ?_)
  rintro _ rfl
  refine g_st (st' := [.int (nI (hv N 0 (wf 0)))]) rfl ?_
  refine g_eqi (show _ = nI 0 from by rw [hv_0]) ?_
  refine g_istore (pc' := 14) hE [(5, .int (nI 0)), (4, .int (nI 0)), (0, .ref l0), (1, .ref h0), (2, .int (nI 0)), (3, .int (nI f))] dX2_gatherOf_12 rfl (by decide) rfl ?_
  refine g_iload_n (pc' := 15) hE 5 rfl rfl dX2_gatherOf_14 rfl ?_
  refine g_istore (pc' := 17) hE [(6, .int (nI f)), (5, .int (nI 0)), (4, .int (nI 0)), (0, .ref l0), (1, .ref h0), (2, .int (nI 0)), (3, .int (nI f))] dX2_gatherOf_15 rfl (by decide) rfl ?_
  refine g_iconst (pc' := 18) hE (nI 0) (by decide) dX2_gatherOf_17 rfl ?_
  refine g_istore (pc' := 20) hE [(7, .int (nI 0)), (6, .int (nI f)), (5, .int (nI 0)), (4, .int (nI 0)), (0, .ref l0), (1, .ref h0), (2, .int (nI 0)), (3, .int (nI f))] dX2_gatherOf_18 rfl (by decide) rfl ?_
  refine g_iload (pc' := 22) hE 0 rfl dX2_gatherOf_20 rfl ?_
  refine g_iload (pc' := 24) hE 2 rfl dX2_gatherOf_22 rfl ?_
  refine g_icmpN_ge (pc' := 27) (tgt := 72) hE (by omega) (by omega) dX2_gatherOf_24 rfl rfl (fun hc24 => ?_) (fun hc24 => ?_)
  rotate_left
  · omega
  refine g_iload (pc' := 74) hE 1 rfl dX2_gatherOf_72 rfl ?_
  exact hE.iret (⟨rfl, rfl⟩) (Nat.zero_le _) (Nat.zero_le _) dX2_gatherOf_74

set_option maxHeartbeats 4000000 in
set_option maxRecDepth 100000 in
theorem qX2_gatherOf (l : Launch) (D : va_G) (T : Nat → ClassId) (l0 k0 k1 k2 k3 k4 k5 k6 : Nat) (st to bs bk qu on ba : Nat → Nat) (h0 a1 a2 a3 x0 N sg : Nat) (af inf wf : Nat → Nat) (x1 cnt : Nat) (b : Nat → Nat) (m : Nat) (hc : cnt ≤ 8192) (hb : ∀ i, b i < 256) (hT : TyArr (cut b cnt) N af inf wf) (hok : okUpTo (cut b cnt) sg cnt N) (hsg : sg ≤ cnt) (hm : m < N) (hR : TOK (rfA (cut b cnt) m) to) : Con l D T yX2_gatherOf cX2_gatherOf 8 (some .int) 3 0 0 [.ref l0, .ref h0, .int (nI (m + 1)), .int (nI ((rfA (cut b cnt) m).length))] [(l0, .inr (1, [.ref k0, .ref k1, .ref k2, .ref k3, .ref k4, .ref k5, .ref k6])), (k0, .inl (T 0, 202, .inl (fun j => nI (st j)))), (k1, .inl (T 0, 1000, .inl (fun j => nI (to j)))), (k2, .inl (T 0, 202, .inl (fun j => nI (bs j)))), (k3, .inl (T 0, 1000, .inl (fun j => nI (bk j)))), (k4, .inl (T 0, 201, .inl (fun j => nI (qu j)))), (k5, .inl (T 2, 201, .inl (fun j => nI (on j)))), (k6, .inl (T 2, 201, .inl (fun j => nI (ba j)))), (h0, .inr (6, [.ref a1, .ref a2, .ref a3, .ref x0, .int (nI N), .int (nI sg)])), (a1, .inl (T 0, 201, .inl (fun j => nI (af j)))), (a2, .inl (T 1, 201, .inr (.inl (fun j => lN (inf j))))), (a3, .inl (T 0, 201, .inl (fun j => nI (wf j)))), (x0, .inr (4, [.int (nI 8192), .ref x1, .int (nI cnt)])), (x1, .inl (T 1, ((8192 + 7) / 8), .inr (.inl (pack b))))] (fun v w1 => ∃ to' : Nat → Nat, v = some (.int (nI (rfA (cut b cnt) (m + 1)).length)) ∧ w1 = [(l0, .inr (1, [.ref k0, .ref k1, .ref k2, .ref k3, .ref k4, .ref k5, .ref k6])), (k0, .inl (T 0, 202, .inl (fun j => nI (st j)))), (k1, .inl (T 0, 1000, .inl (fun j => nI (to' j)))), (k2, .inl (T 0, 202, .inl (fun j => nI (bs j)))), (k3, .inl (T 0, 1000, .inl (fun j => nI (bk j)))), (k4, .inl (T 0, 201, .inl (fun j => nI (qu j)))), (k5, .inl (T 2, 201, .inl (fun j => nI (on j)))), (k6, .inl (T 2, 201, .inl (fun j => nI (ba j)))), (h0, .inr (6, [.ref a1, .ref a2, .ref a3, .ref x0, .int (nI N), .int (nI sg)])), (a1, .inl (T 0, 201, .inl (fun j => nI (af j)))), (a2, .inl (T 1, 201, .inr (.inl (fun j => lN (inf j))))), (a3, .inl (T 0, 201, .inl (fun j => nI (wf j)))), (x0, .inr (4, [.int (nI 8192), .ref x1, .int (nI cnt)])), (x1, .inl (T 1, ((8192 + 7) / 8), .inr (.inl (pack b))))] ∧ TOK (rfA (cut b cnt) (m + 1)) to') := by
  refine Con.of (by decide) (Nat.le_of_ble_eq_true rfl) ?_
  intro E hE
  have hct := cut_lt (c := cnt) hb
  have hN2 := hok.1
  obtain ⟨ho1, ho2, hi8, -, -⟩ := hok.at hm
  obtain ⟨e1, e2, e3⟩ := hT.2 (m + 1) (by omega) (by omega)
  have hkd := kd_lt (inft (cut b cnt) (m + 1))
  have hwd := wds_le (inft (cut b cnt) (m + 1))
  have hrl := rfA_len (cut b cnt) (m + 1)
  refine g_lv (lv' := [(0, .ref l0), (1, .ref h0), (2, .int (nI (m + 1))), (3, .int (nI ((rfA (cut b cnt) m).length)))]) [0, 1, 2, 3] rfl ?_
  refine g_aload_n (pc' := 1) hE 1 rfl rfl dX2_gatherOf_0 rfl ?_
  refine g_iload_n (pc' := 2) hE 2 rfl rfl dX2_gatherOf_1 rfl ?_
  refine g_callV (pc' := 5) (As := [.int (nI (m + 1))]) (rest := []) hE (qX7_kind l D T h0 a1 a2 a3 x0 N sg af inf wf (m + 1) hN2 hT.1 (by omega)) mX7_kind kX2_56 iX7_kind sX7_kind (by decide) rfl (by decide) 8 rfl rfl [8, 9, 10, 11] rfl (by decide) rfl (Nat.le_of_ble_eq_true rfl) dX2_gatherOf_2 rfl (gBackR [8, 9, 10, 11] rfl ?_)
  rintro _ rfl
  refine g_st (st' := [.int (nI (hv N (m + 1) (kd (inf (m + 1)))))]) rfl ?_
  refine g_eqi (show _ = nI (kd (inft (cut b cnt) (m + 1))) from by rw [hv_in _ (by omega) (by omega), e2]) ?_
  refine g_istore (pc' := 7) hE [(4, .int (nI (kd (inft (cut b cnt) (m + 1))))), (0, .ref l0), (1, .ref h0), (2, .int (nI (m + 1))), (3, .int (nI ((rfA (cut b cnt) m).length)))] dX2_gatherOf_5 rfl (by decide) rfl ?_
  refine g_aload_n (pc' := 8) hE 2 rfl rfl dX2_gatherOf_7 rfl ?_
  refine g_iload_n (pc' := 9) hE 3 rfl rfl dX2_gatherOf_8 rfl ?_
  refine g_callV (pc' := 12) (As := [.int (nI (m + 1))]) (rest := []) hE (qX7_words l D T h0 a1 a2 a3 x0 N sg af inf wf (m + 1) hN2 hT.1 (by omega)) mX7_words kX2_59 iX7_words sX7_words (by decide) rfl (by decide) 8 rfl rfl [8, 9, 10, 11] rfl (by decide) rfl (Nat.le_of_ble_eq_true rfl) dX2_gatherOf_9 rfl (gBackR [8, 9, 10, 11] rfl ?_)
  rintro _ rfl
  refine g_st (st' := [.int (nI (hv N (m + 1) (wf (m + 1))))]) rfl ?_
  refine g_eqi (show _ = nI (wds (inft (cut b cnt) (m + 1))) from by rw [hv_in _ (by omega) (by omega), e3]) ?_
  refine g_istore (pc' := 14) hE [(5, .int (nI (wds (inft (cut b cnt) (m + 1))))), (4, .int (nI (kd (inft (cut b cnt) (m + 1))))), (0, .ref l0), (1, .ref h0), (2, .int (nI (m + 1))), (3, .int (nI ((rfA (cut b cnt) m).length)))] dX2_gatherOf_12 rfl (by decide) rfl ?_
  refine g_iload_n (pc' := 15) hE 5 rfl rfl dX2_gatherOf_14 rfl ?_
  refine g_istore (pc' := 17) hE [(6, .int (nI ((rfA (cut b cnt) m).length))), (5, .int (nI (wds (inft (cut b cnt) (m + 1))))), (4, .int (nI (kd (inft (cut b cnt) (m + 1))))), (0, .ref l0), (1, .ref h0), (2, .int (nI (m + 1))), (3, .int (nI ((rfA (cut b cnt) m).length)))] dX2_gatherOf_15 rfl (by decide) rfl ?_
  refine g_iconst (pc' := 18) hE (nI 0) (by decide) dX2_gatherOf_17 rfl ?_
  refine g_istore (pc' := 20) hE [(7, .int (nI 0)), (6, .int (nI ((rfA (cut b cnt) m).length))), (5, .int (nI (wds (inft (cut b cnt) (m + 1))))), (4, .int (nI (kd (inft (cut b cnt) (m + 1))))), (0, .ref l0), (1, .ref h0), (2, .int (nI (m + 1))), (3, .int (nI ((rfA (cut b cnt) m).length)))] dX2_gatherOf_18 rfl (by decide) rfl ?_
  refine g_lvw (lv' := [(7, .int (nI 0)), (6, .int (nI ((rfP (cut b cnt) m 0).length))), (5, .int (nI (wds (inft (cut b cnt) (m + 1))))), (4, .int (nI (kd (inft (cut b cnt) (m + 1))))), (0, .ref l0), (1, .ref h0), (2, .int (nI (m + 1))), (3, .int (nI ((rfA (cut b cnt) m).length)))]) (by rw [rfP_0]) ?_
  refine (show ∀ (d20 : Nat) (w : Nat) (to : Nat → Nat), wds (inft (cut b cnt) (m + 1)) - w = d20 → (w ≤ wds (inft (cut b cnt) (m + 1))) → (TOK (rfP (cut b cnt) m w) to) → G l E D 8 0 0 [(l0, .inr (1, [.ref k0, .ref k1, .ref k2, .ref k3, .ref k4, .ref k5, .ref k6])), (k0, .inl (T 0, 202, .inl (fun j => nI (st j)))), (k1, .inl (T 0, 1000, .inl (fun j => nI (to j)))), (k2, .inl (T 0, 202, .inl (fun j => nI (bs j)))), (k3, .inl (T 0, 1000, .inl (fun j => nI (bk j)))), (k4, .inl (T 0, 201, .inl (fun j => nI (qu j)))), (k5, .inl (T 2, 201, .inl (fun j => nI (on j)))), (k6, .inl (T 2, 201, .inl (fun j => nI (ba j)))), (h0, .inr (6, [.ref a1, .ref a2, .ref a3, .ref x0, .int (nI N), .int (nI sg)])), (a1, .inl (T 0, 201, .inl (fun j => nI (af j)))), (a2, .inl (T 1, 201, .inr (.inl (fun j => lN (inf j))))), (a3, .inl (T 0, 201, .inl (fun j => nI (wf j)))), (x0, .inr (4, [.int (nI 8192), .ref x1, .int (nI cnt)])), (x1, .inl (T 1, ((8192 + 7) / 8), .inr (.inl (pack b))))] [(7, .int (nI w)), (6, .int (nI ((rfP (cut b cnt) m w).length))), (5, .int (nI (wds (inft (cut b cnt) (m + 1))))), (4, .int (nI (kd (inft (cut b cnt) (m + 1))))), (0, .ref l0), (1, .ref h0), (2, .int (nI (m + 1))), (3, .int (nI ((rfA (cut b cnt) m).length)))] 20 [] from ?_) _ 0 to rfl (Nat.zero_le _) (by rw [rfP_0]; exact hR)
  intro d20
  induction d20 using Nat.strongRecOn with
  | _ d20 ih20 =>
  intro w to hd20 hw hR
  refine g_iload (pc' := 22) hE 0 rfl dX2_gatherOf_20 rfl ?_
  refine g_iload (pc' := 24) hE 2 rfl dX2_gatherOf_22 rfl ?_
  refine g_icmpN_ge (pc' := 27) (tgt := 72) hE (by omega) (by omega) dX2_gatherOf_24 rfl rfl (fun hc24 => ?_) (fun hc24 => ?_)
  · refine g_iload (pc' := 74) hE 1 rfl dX2_gatherOf_72 rfl ?_
    exact hE.iret (⟨to, by rw [show w = wds (inft (cut b cnt) (m + 1)) by omega, rfP_all], rfl, by rw [show w = wds (inft (cut b cnt) (m + 1)) by omega, rfP_all] at hR; exact hR⟩) (Nat.zero_le _) (Nat.zero_le _) dX2_gatherOf_74
  · refine g_iload (pc' := 29) hE 3 rfl dX2_gatherOf_27 rfl ?_
    refine g_iload (pc' := 31) hE 0 rfl dX2_gatherOf_29 rfl ?_
    refine g_callS (pc' := 34) (As := [.int (nI (kd (inft (cut b cnt) (m + 1)))), .int (nI w)]) (rest := []) hE (qX1_role l D T (kd (inft (cut b cnt) (m + 1))) w (by omega) (by omega)) mX1_role kX2_62 iX1_role (by decide) rfl (by decide) [] rfl (by decide) rfl (Nat.le_of_ble_eq_true rfl) dX2_gatherOf_31 rfl (gBackR [] rfl ?_)
    rintro _ rfl
    refine g_st (st' := [.int (nI (rl (kd (inft (cut b cnt) (m + 1))) w))]) rfl ?_
    have hrl2 := rl_le (kd (inft (cut b cnt) (m + 1))) w
    refine g_iconst (pc' := 35) hE (nI 2) (by decide) dX2_gatherOf_34 rfl ?_
    refine g_icmpN_ne (pc' := 38) (tgt := 66) hE (by omega) (by omega) dX2_gatherOf_35 rfl rfl (fun hc35 => ?_) (fun hc35 => ?_)
    · refine g_lvw (lv' := [(7, .int (nI w)), (6, .int (nI ((rfP (cut b cnt) m (w + 1)).length))), (5, .int (nI (wds (inft (cut b cnt) (m + 1))))), (4, .int (nI (kd (inft (cut b cnt) (m + 1))))), (0, .ref l0), (1, .ref h0), (2, .int (nI (m + 1))), (3, .int (nI ((rfA (cut b cnt) m).length)))]) (by rw [rfP_n hc35]) ?_
      refine g_iinc (pc' := 69) hE (nI (w + 1)) [(7, .int (nI (w + 1))), (6, .int (nI ((rfP (cut b cnt) m (w + 1)).length))), (5, .int (nI (wds (inft (cut b cnt) (m + 1))))), (4, .int (nI (kd (inft (cut b cnt) (m + 1))))), (0, .ref l0), (1, .ref h0), (2, .int (nI (m + 1))), (3, .int (nI ((rfA (cut b cnt) m).length)))] 0 rfl dX2_gatherOf_66 rfl (g_incN _ 1) (by decide) rfl ?_
      refine g_goto (tgt := 20) hE dX2_gatherOf_69 rfl ?_
      exact ih20 _ (by omega) (w + 1) to rfl (by omega) (by first | (rw [rfP_n hc35]; exact hR) | (rw [rfP_s hc35]; exact hR.step (by omega)))
    · refine g_iload (pc' := 40) hE 1 rfl dX2_gatherOf_38 rfl ?_
      have hlt := rfP_lt hc24 hc35
      refine g_aload_n (pc' := 41) hE 4 rfl rfl dX2_gatherOf_40 rfl ?_
      refine g_get (pc' := 44) hE gcX2 0 rfl 1 (by decide) rfl kX2_15 dX2_gatherOf_41 rfl ?_
      refine g_alen (pc' := 45) hE 2 0 rfl rfl dX2_gatherOf_44 rfl ?_
      refine g_icmpN_ge (pc' := 48) (tgt := 66) hE (by omega) (by omega) dX2_gatherOf_45 rfl rfl (fun hc45 => ?_) (fun hc45 => ?_)
      · omega
      refine g_aload_n (pc' := 49) hE 4 rfl rfl dX2_gatherOf_48 rfl ?_
      refine g_get (pc' := 52) hE gcX2 0 rfl 1 (by decide) rfl kX2_15 dX2_gatherOf_49 rfl ?_
      refine g_iload (pc' := 54) hE 1 rfl dX2_gatherOf_52 rfl ?_
      refine g_aload_n (pc' := 55) hE 5 rfl rfl dX2_gatherOf_54 rfl ?_
      refine g_iload_n (pc' := 56) hE 6 rfl rfl dX2_gatherOf_55 rfl ?_
      refine g_iload (pc' := 58) hE 0 rfl dX2_gatherOf_56 rfl ?_
      refine g_callV (pc' := 61) (As := [.int (nI (m + 1)), .int (nI w)]) (rest := [.int (nI ((rfP (cut b cnt) m w).length)), .ref k1]) hE (qX7_word l D T h0 a1 a2 a3 x0 N sg af inf wf x1 cnt b (m + 1) w hN2 hT.1 (by omega) (by omega) hc hb) mX7_word kX2_68 iX7_word sX7_word (by decide) rfl (by decide) 8 rfl rfl [8, 9, 10, 11, 12, 13] rfl (by decide) rfl (Nat.le_of_ble_eq_true rfl) dX2_gatherOf_58 rfl (gBackR [8, 9, 10, 11, 12, 13] rfl ?_)
      rintro _ rfl
      refine g_st (st' := [.long (lN (hv N (m + 1) (num (cut b cnt) (af (m + 1) + 4 * w) 4))), .int (nI ((rfP (cut b cnt) m w).length)), .ref k1]) rfl ?_
      refine g_eql (show _ = lN (num (cut b cnt) (off (cut b cnt) (m + 1) + 4 * w) 4) from by rw [hv_in _ (by omega) (by omega), e1]) ?_
      refine g_l2i (pc' := 62) hE (nI (num (cut b cnt) (off (cut b cnt) (m + 1) + 4 * w) 4)) (lN_i _) dX2_gatherOf_61 rfl ?_
      have hw4 := num4_lt hct (off (cut b cnt) (m + 1) + 4 * w)
      refine g_iast (pc' := 63) hE 2 [(l0, .inr (1, [.ref k0, .ref k1, .ref k2, .ref k3, .ref k4, .ref k5, .ref k6])), (k0, .inl (T 0, 202, .inl (fun j => nI (st j)))), (k1, .inl (T 0, 1000, .inl (fun j => nI ((gu to ((rfP (cut b cnt) m w).length) (num (cut b cnt) (off (cut b cnt) (m + 1) + 4 * w) 4)) j)))), (k2, .inl (T 0, 202, .inl (fun j => nI (bs j)))), (k3, .inl (T 0, 1000, .inl (fun j => nI (bk j)))), (k4, .inl (T 0, 201, .inl (fun j => nI (qu j)))), (k5, .inl (T 2, 201, .inl (fun j => nI (on j)))), (k6, .inl (T 2, 201, .inl (fun j => nI (ba j)))), (h0, .inr (6, [.ref a1, .ref a2, .ref a3, .ref x0, .int (nI N), .int (nI sg)])), (a1, .inl (T 0, 201, .inl (fun j => nI (af j)))), (a2, .inl (T 1, 201, .inr (.inl (fun j => lN (inf j))))), (a3, .inl (T 0, 201, .inl (fun j => nI (wf j)))), (x0, .inr (4, [.int (nI 8192), .ref x1, .int (nI cnt)])), (x1, .inl (T 1, ((8192 + 7) / 8), .inr (.inl (pack b))))] rfl (by omega) (by omega) (gu_I _ _ _) rfl dX2_gatherOf_62 rfl ?_
      refine g_iinc (pc' := 66) hE (nI ((rfP (cut b cnt) m (w + 1)).length)) [(6, .int (nI ((rfP (cut b cnt) m (w + 1)).length))), (7, .int (nI w)), (5, .int (nI (wds (inft (cut b cnt) (m + 1))))), (4, .int (nI (kd (inft (cut b cnt) (m + 1))))), (0, .ref l0), (1, .ref h0), (2, .int (nI (m + 1))), (3, .int (nI ((rfA (cut b cnt) m).length)))] 1 rfl dX2_gatherOf_63 rfl (by rw [rfP_s hc35, show (rfP (cut b cnt) m w ++ [num (cut b cnt) (off (cut b cnt) (m + 1) + 4 * w) 4]).length = (rfP (cut b cnt) m w).length + 1 by simp]; exact g_incN _ 1) (by decide) rfl ?_
      refine g_iinc (pc' := 69) hE (nI (w + 1)) [(7, .int (nI (w + 1))), (6, .int (nI ((rfP (cut b cnt) m (w + 1)).length))), (5, .int (nI (wds (inft (cut b cnt) (m + 1))))), (4, .int (nI (kd (inft (cut b cnt) (m + 1))))), (0, .ref l0), (1, .ref h0), (2, .int (nI (m + 1))), (3, .int (nI ((rfA (cut b cnt) m).length)))] 1 rfl dX2_gatherOf_66 rfl (g_incN _ 1) (by decide) rfl ?_
      refine g_goto (tgt := 20) hE dX2_gatherOf_69 rfl ?_
      exact ih20 _ (by omega) (w + 1) (gu to ((rfP (cut b cnt) m w).length) (num (cut b cnt) (off (cut b cnt) (m + 1) + 4 * w) 4)) rfl (by omega) (by first | (rw [rfP_n hc35]; exact hR) | (rw [rfP_s hc35]; exact hR.step (by omega)))
