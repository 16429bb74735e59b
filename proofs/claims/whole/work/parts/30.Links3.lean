set_option maxHeartbeats 4000000 in
set_option maxRecDepth 100000 in
theorem qX2_gather (l : Launch) (D : va_G) (T : Nat → ClassId) (l0 k0 k1 k2 k3 k4 k5 k6 : Nat) (st to bs bk qu on ba : Nat → Nat) (h0 a1 a2 a3 x0 N sg : Nat) (af inf wf : Nat → Nat) (x1 cnt : Nat) (b : Nat → Nat) (hc : cnt ≤ 8192) (hb : ∀ i, b i < 256) (hT : TyArr (cut b cnt) N af inf wf) (hok : okUpTo (cut b cnt) sg cnt N) (hsg : sg ≤ cnt) (hhi : hiAll (cut b cnt) N ≤ N) (hst : ∀ j, st j ≤ 1000) (hto : ∀ j, to j < 2 ^ 32) (hbk : ∀ j, bk j ≤ 200) : Con l D T yX2_gather cX2_gather 5 none 4 0 0 [.ref l0, .ref h0] [(l0, .inr (1, [.ref k0, .ref k1, .ref k2, .ref k3, .ref k4, .ref k5, .ref k6])), (k0, .inl (T 0, 202, .inl (fun z9 => nI (st z9)))), (k1, .inl (T 0, 1000, .inl (fun z9 => nI (to z9)))), (k2, .inl (T 0, 202, .inl (fun z9 => nI (bs z9)))), (k3, .inl (T 0, 1000, .inl (fun z9 => nI (bk z9)))), (k4, .inl (T 0, 201, .inl (fun z9 => nI (qu z9)))), (k5, .inl (T 2, 201, .inl (fun z9 => nI (on z9)))), (k6, .inl (T 2, 201, .inl (fun z9 => nI (ba z9)))), (h0, .inr (6, [.ref a1, .ref a2, .ref a3, .ref x0, .int (nI N), .int (nI sg)])), (a1, .inl (T 0, 201, .inl (fun z9 => nI (af z9)))), (a2, .inl (T 1, 201, .inr (.inl (fun z9 => lN (inf z9))))), (a3, .inl (T 0, 201, .inl (fun z9 => nI (wf z9)))), (x0, .inr (4, [.int (nI 8192), .ref x1, .int (nI cnt)])), (x1, .inl (T 1, ((8192 + 7) / 8), .inr (.inl (pack b))))] (fun v w1 => ∃ st' to' bs' bk' qu' : Nat → Nat, v = none ∧ w1 = [(l0, .inr (1, [.ref k0, .ref k1, .ref k2, .ref k3, .ref k4, .ref k5, .ref k6])), (k0, .inl (T 0, 202, .inl (fun z9 => nI (st' z9)))), (k1, .inl (T 0, 1000, .inl (fun z9 => nI (to' z9)))), (k2, .inl (T 0, 202, .inl (fun z9 => nI (bs' z9)))), (k3, .inl (T 0, 1000, .inl (fun z9 => nI (bk' z9)))), (k4, .inl (T 0, 201, .inl (fun z9 => nI (qu' z9)))), (k5, .inl (T 2, 201, .inl (fun z9 => nI (on z9)))), (k6, .inl (T 2, 201, .inl (fun z9 => nI (ba z9)))), (h0, .inr (6, [.ref a1, .ref a2, .ref a3, .ref x0, .int (nI N), .int (nI sg)])), (a1, .inl (T 0, 201, .inl (fun z9 => nI (af z9)))), (a2, .inl (T 1, 201, .inr (.inl (fun z9 => lN (inf z9))))), (a3, .inl (T 0, 201, .inl (fun z9 => nI (wf z9)))), (x0, .inr (4, [.int (nI 8192), .ref x1, .int (nI cnt)])), (x1, .inl (T 1, ((8192 + 7) / 8), .inr (.inl (pack b))))] ∧ LinksOK (cut b cnt) N st' to' bs' bk') := by
  refine Con.of (by decide) (Nat.le_of_ble_eq_true rfl) ?_
  intro E hE
  have hN2 := hok.1
  refine g_lv (lv' := [(0, .ref l0), (1, .ref h0)]) [0, 1] rfl ?_
  refine g_aload_n (pc' := 1) hE 1 rfl rfl dX2_gather_0 rfl ?_
  refine g_callV (pc' := 4) (As := []) (rest := []) hE (qX7_count l D T h0 a1 a2 a3 x0 N sg af inf wf ) mX7_count kX2_34 iX7_count sX7_count (by decide) rfl (by decide) 8 rfl rfl [8, 9, 10, 11] rfl (by decide) rfl (Nat.le_of_ble_eq_true rfl) dX2_gather_1 rfl (gBackR [8, 9, 10, 11] rfl ?_)
  rintro _ rfl
  refine g_st (st' := [.int (nI N)]) rfl ?_
  refine g_istore_n (pc' := 5) hE [(2, .int (nI N)), (0, .ref l0), (1, .ref h0)] dX2_gather_4 rfl rfl (by decide) rfl ?_
  refine g_iconst (pc' := 6) hE (nI 0) (by decide) dX2_gather_5 rfl ?_
  refine g_istore_n (pc' := 7) hE [(3, .int (nI 0)), (2, .int (nI N)), (0, .ref l0), (1, .ref h0)] dX2_gather_6 rfl rfl (by decide) rfl ?_
  refine g_aload_n (pc' := 8) hE 2 rfl rfl dX2_gather_7 rfl ?_
  refine g_get (pc' := 11) hE gcX2 0 rfl 0 (by decide) rfl kX2_9 dX2_gather_8 rfl ?_
  refine g_iconst (pc' := 12) hE (nI 0) (by decide) dX2_gather_11 rfl ?_
  refine g_iconst (pc' := 13) hE (nI 0) (by decide) dX2_gather_12 rfl ?_
  refine g_iast (pc' := 14) hE 1 [(l0, .inr (1, [.ref k0, .ref k1, .ref k2, .ref k3, .ref k4, .ref k5, .ref k6])), (k0, .inl (T 0, 202, .inl (fun z9 => nI ((gu st 0 0) z9)))), (k1, .inl (T 0, 1000, .inl (fun z9 => nI (to z9)))), (k2, .inl (T 0, 202, .inl (fun z9 => nI (bs z9)))), (k3, .inl (T 0, 1000, .inl (fun z9 => nI (bk z9)))), (k4, .inl (T 0, 201, .inl (fun z9 => nI (qu z9)))), (k5, .inl (T 2, 201, .inl (fun z9 => nI (on z9)))), (k6, .inl (T 2, 201, .inl (fun z9 => nI (ba z9)))), (h0, .inr (6, [.ref a1, .ref a2, .ref a3, .ref x0, .int (nI N), .int (nI sg)])), (a1, .inl (T 0, 201, .inl (fun z9 => nI (af z9)))), (a2, .inl (T 1, 201, .inr (.inl (fun z9 => lN (inf z9))))), (a3, .inl (T 0, 201, .inl (fun z9 => nI (wf z9)))), (x0, .inr (4, [.int (nI 8192), .ref x1, .int (nI cnt)])), (x1, .inl (T 1, ((8192 + 7) / 8), .inr (.inl (pack b))))] rfl (by omega) (by omega) (gu_I _ _ _) rfl dX2_gather_13 rfl ?_
  refine g_iconst (pc' := 15) hE (nI 0) (by decide) dX2_gather_14 rfl ?_
  refine g_istore (pc' := 17) hE [(4, .int (nI 0)), (3, .int (nI 0)), (2, .int (nI N)), (0, .ref l0), (1, .ref h0)] dX2_gather_15 rfl (by decide) rfl ?_
  refine g_iload (pc' := 19) hE 0 rfl dX2_gather_17 rfl ?_
  refine g_iload_n (pc' := 20) hE 2 rfl rfl dX2_gather_19 rfl ?_
  refine g_icmpN_gt (pc' := 23) (tgt := 56) hE (by omega) (by omega) dX2_gather_20 rfl rfl (fun hc20 => ?_) (fun hc20 => ?_)
  · omega
  refine g_iload (pc' := 25) hE 0 rfl dX2_gather_23 rfl ?_
  refine g_sipush (pc' := 28) hE (nI 200) (by decide) dX2_gather_25 rfl ?_
  refine g_icmpN_gt (pc' := 31) (tgt := 56) hE (by omega) (by omega) dX2_gather_28 rfl rfl (fun hc28 => ?_) (fun hc28 => ?_)
  · omega
  refine g_aload_n (pc' := 32) hE 3 rfl rfl dX2_gather_31 rfl ?_
  refine g_aload_n (pc' := 33) hE 4 rfl rfl dX2_gather_32 rfl ?_
  refine g_iload (pc' := 35) hE 0 rfl dX2_gather_33 rfl ?_
  refine g_iload_n (pc' := 36) hE 1 rfl rfl dX2_gather_35 rfl ?_
  refine g_callV (pc' := 39) (As := [.ref h0, .int (nI 0), .int (nI 0)]) (rest := []) hE (qX2_gatherOf0 l D T l0 k0 k1 k2 k3 k4 k5 k6 (gu st 0 0) to bs bk qu on ba h0 a1 a2 a3 x0 N sg af inf wf x1 cnt b 0 hc hb hT hok hsg) mX2_gatherOf kX2_40 iX2_gatherOf sX2_gatherOf (by decide) rfl (by decide) 0 rfl rfl [0, 1, 2, 3, 4, 5, 6, 7, 8, 9, 10, 11, 12, 13] rfl (by decide) rfl (Nat.le_of_ble_eq_true rfl) dX2_gather_36 rfl (gBackR [0, 1, 2, 3, 4, 5, 6, 7, 8, 9, 10, 11, 12, 13] rfl ?_)
  rintro _ rfl
  refine g_st (st' := [.int (nI 0)]) rfl ?_
  refine g_istore_n (pc' := 40) hE [(3, .int (nI 0)), (4, .int (nI 0)), (2, .int (nI N)), (0, .ref l0), (1, .ref h0)] dX2_gather_39 rfl rfl (by decide) rfl ?_
  refine g_aload_n (pc' := 41) hE 3 rfl rfl dX2_gather_40 rfl ?_
  refine g_get (pc' := 44) hE gcX2 0 rfl 0 (by decide) rfl kX2_9 dX2_gather_41 rfl ?_
  refine g_iload (pc' := 46) hE 1 rfl dX2_gather_44 rfl ?_
  refine g_iconst (pc' := 47) hE (nI 1) (by decide) dX2_gather_46 rfl ?_
  refine g_iadd (pc' := 48) hE dX2_gather_47 rfl ?_
  refine g_eqi (show _ = nI 1 from nI_add _ _) ?_
  refine g_iload_n (pc' := 49) hE 0 rfl rfl dX2_gather_48 rfl ?_
  refine g_iast (pc' := 50) hE 1 [(l0, .inr (1, [.ref k0, .ref k1, .ref k2, .ref k3, .ref k4, .ref k5, .ref k6])), (k0, .inl (T 0, 202, .inl (fun z9 => nI ((gu (gu st 0 0) 1 0) z9)))), (k1, .inl (T 0, 1000, .inl (fun z9 => nI (to z9)))), (k2, .inl (T 0, 202, .inl (fun z9 => nI (bs z9)))), (k3, .inl (T 0, 1000, .inl (fun z9 => nI (bk z9)))), (k4, .inl (T 0, 201, .inl (fun z9 => nI (qu z9)))), (k5, .inl (T 2, 201, .inl (fun z9 => nI (on z9)))), (k6, .inl (T 2, 201, .inl (fun z9 => nI (ba z9)))), (h0, .inr (6, [.ref a1, .ref a2, .ref a3, .ref x0, .int (nI N), .int (nI sg)])), (a1, .inl (T 0, 201, .inl (fun z9 => nI (af z9)))), (a2, .inl (T 1, 201, .inr (.inl (fun z9 => lN (inf z9))))), (a3, .inl (T 0, 201, .inl (fun z9 => nI (wf z9)))), (x0, .inr (4, [.int (nI 8192), .ref x1, .int (nI cnt)])), (x1, .inl (T 1, ((8192 + 7) / 8), .inr (.inl (pack b))))] rfl (by omega) (by omega) (gu_I _ _ _) rfl dX2_gather_49 rfl ?_
  refine g_iinc (pc' := 53) hE (nI 1) [(4, .int (nI 1)), (3, .int (nI 0)), (2, .int (nI N)), (0, .ref l0), (1, .ref h0)] 1 rfl dX2_gather_50 rfl (g_incN _ 1) (by decide) rfl ?_
  refine g_goto (tgt := 17) hE dX2_gather_53 rfl ?_
  refine (show ∀ (d17 : Nat) (m : Nat) (st : Nat → Nat) (to : Nat → Nat), N - m = d17 → (m ≤ N) → (SOK (cut b cnt) m st) → (TOK (rfA (cut b cnt) m) to) → G l E D 5 0 0 [(l0, .inr (1, [.ref k0, .ref k1, .ref k2, .ref k3, .ref k4, .ref k5, .ref k6])), (k0, .inl (T 0, 202, .inl (fun z9 => nI (st z9)))), (k1, .inl (T 0, 1000, .inl (fun z9 => nI (to z9)))), (k2, .inl (T 0, 202, .inl (fun z9 => nI (bs z9)))), (k3, .inl (T 0, 1000, .inl (fun z9 => nI (bk z9)))), (k4, .inl (T 0, 201, .inl (fun z9 => nI (qu z9)))), (k5, .inl (T 2, 201, .inl (fun z9 => nI (on z9)))), (k6, .inl (T 2, 201, .inl (fun z9 => nI (ba z9)))), (h0, .inr (6, [.ref a1, .ref a2, .ref a3, .ref x0, .int (nI N), .int (nI sg)])), (a1, .inl (T 0, 201, .inl (fun z9 => nI (af z9)))), (a2, .inl (T 1, 201, .inr (.inl (fun z9 => lN (inf z9))))), (a3, .inl (T 0, 201, .inl (fun z9 => nI (wf z9)))), (x0, .inr (4, [.int (nI 8192), .ref x1, .int (nI cnt)])), (x1, .inl (T 1, ((8192 + 7) / 8), .inr (.inl (pack b))))] [(4, .int (nI (m + 1))), (3, .int (nI ((rfA (cut b cnt) m).length))), (2, .int (nI N)), (0, .ref l0), (1, .ref h0)] 17 [] from ?_) _ 0 (gu (gu st 0 0) 1 0) to rfl (Nat.zero_le _) (⟨by rw [gu_n _ _ (by omega)]; exact gu_s _ _ _, fun i hi => by rw [show i = 0 by omega]; exact gu_s _ _ _, fun j => by unfold gu; split; omega; split; omega; exact hst j⟩) (⟨fun r hr => absurd hr (by simp [rfA]), hto⟩)
  intro d17
  induction d17 using Nat.strongRecOn with
  | _ d17 ih17 =>
  intro m st to hd17 hm hS hR
  refine g_iload (pc' := 19) hE 0 rfl dX2_gather_17 rfl ?_
  refine g_iload_n (pc' := 20) hE 2 rfl rfl dX2_gather_19 rfl ?_
  refine g_icmpN_gt (pc' := 23) (tgt := 56) hE (by omega) (by omega) dX2_gather_20 rfl rfl (fun hc20 => ?_) (fun hc20 => ?_)
  · have hmN : m = N := by omega
    rw [hmN] at hS hR
    refine g_aload_n (pc' := 57) hE 3 rfl rfl dX2_gather_56 rfl ?_
    refine g_iload_n (pc' := 58) hE 2 rfl rfl dX2_gather_57 rfl ?_
    refine g_callV (pc' := 61) (As := [.int (nI N)]) (rest := []) hE (qX2_turnRound l D T l0 k0 k1 k2 k3 k4 k5 k6 st to bs bk qu on ba N hN2 (hS.2.1 0 (by omega)) (fun i hi => hS.mono hi) (hS.2.2 _) (fun r hr => Nat.le_trans (hR.hi (by rw [hS.2.1 N (Nat.le_refl _)] at hr; exact hr)) hhi) hbk (fun i hi => hS.le hi (Nat.le_refl _)) hS.one) mX2_turnRound kX2_44 iX2_turnRound sX2_turnRound (by decide) rfl (by decide) 0 rfl rfl [0, 1, 2, 3, 4, 5, 6, 7] rfl (by decide) rfl (Nat.le_of_ble_eq_true rfl) dX2_gather_58 rfl (gBackU [0, 1, 2, 3, 4, 5, 6, 7] rfl (fun v w1 h => by obtain ⟨_, _, _, _, rfl, _⟩ := h; simp only [List.map_cons, List.map_nil]) ?_)
    rintro _ _ ⟨bs', bk', qu', rfl, rfl, hBk⟩
    refine g_w (ws' := [(l0, .inr (1, [.ref k0, .ref k1, .ref k2, .ref k3, .ref k4, .ref k5, .ref k6])), (k0, .inl (T 0, 202, .inl (fun z9 => nI (st z9)))), (k1, .inl (T 0, 1000, .inl (fun z9 => nI (to z9)))), (k2, .inl (T 0, 202, .inl (fun z9 => nI (bs' z9)))), (k3, .inl (T 0, 1000, .inl (fun z9 => nI (bk' z9)))), (k4, .inl (T 0, 201, .inl (fun z9 => nI (qu' z9)))), (k5, .inl (T 2, 201, .inl (fun z9 => nI (on z9)))), (k6, .inl (T 2, 201, .inl (fun z9 => nI (ba z9)))), (h0, .inr (6, [.ref a1, .ref a2, .ref a3, .ref x0, .int (nI N), .int (nI sg)])), (a1, .inl (T 0, 201, .inl (fun z9 => nI (af z9)))), (a2, .inl (T 1, 201, .inr (.inl (fun z9 => lN (inf z9))))), (a3, .inl (T 0, 201, .inl (fun z9 => nI (wf z9)))), (x0, .inr (4, [.int (nI 8192), .ref x1, .int (nI cnt)])), (x1, .inl (T 1, ((8192 + 7) / 8), .inr (.inl (pack b))))]) rfl ?_
    exact hE.vret (⟨_, _, _, _, _, rfl, rfl, hS, hR, hBk⟩) (Nat.zero_le _) (Nat.zero_le _) dX2_gather_61
  · refine g_iload (pc' := 25) hE 0 rfl dX2_gather_23 rfl ?_
    refine g_sipush (pc' := 28) hE (nI 200) (by decide) dX2_gather_25 rfl ?_
    refine g_icmpN_gt (pc' := 31) (tgt := 56) hE (by omega) (by omega) dX2_gather_28 rfl rfl (fun hc28 => ?_) (fun hc28 => ?_)
    · omega
    refine g_aload_n (pc' := 32) hE 3 rfl rfl dX2_gather_31 rfl ?_
    refine g_aload_n (pc' := 33) hE 4 rfl rfl dX2_gather_32 rfl ?_
    refine g_iload (pc' := 35) hE 0 rfl dX2_gather_33 rfl ?_
    refine g_iload_n (pc' := 36) hE 1 rfl rfl dX2_gather_35 rfl ?_
    refine g_callV (pc' := 39) (As := [.ref h0, .int (nI (m + 1)), .int (nI ((rfA (cut b cnt) m).length))]) (rest := []) hE (qX2_gatherOf l D T l0 k0 k1 k2 k3 k4 k5 k6 st to bs bk qu on ba h0 a1 a2 a3 x0 N sg af inf wf x1 cnt b m hc hb hT hok hsg (by omega) hR) mX2_gatherOf kX2_40 iX2_gatherOf sX2_gatherOf (by decide) rfl (by decide) 0 rfl rfl [0, 1, 2, 3, 4, 5, 6, 7, 8, 9, 10, 11, 12, 13] rfl (by decide) rfl (Nat.le_of_ble_eq_true rfl) dX2_gather_36 rfl (gBackU [0, 1, 2, 3, 4, 5, 6, 7, 8, 9, 10, 11, 12, 13] rfl (fun v w1 h => by obtain ⟨_, _, rfl, _⟩ := h; simp only [List.map_cons, List.map_nil]) ?_)
    rintro _ _ ⟨to', rfl, rfl, hR'⟩
    refine g_w (ws' := [(l0, .inr (1, [.ref k0, .ref k1, .ref k2, .ref k3, .ref k4, .ref k5, .ref k6])), (k0, .inl (T 0, 202, .inl (fun z9 => nI (st z9)))), (k1, .inl (T 0, 1000, .inl (fun z9 => nI (to' z9)))), (k2, .inl (T 0, 202, .inl (fun z9 => nI (bs z9)))), (k3, .inl (T 0, 1000, .inl (fun z9 => nI (bk z9)))), (k4, .inl (T 0, 201, .inl (fun z9 => nI (qu z9)))), (k5, .inl (T 2, 201, .inl (fun z9 => nI (on z9)))), (k6, .inl (T 2, 201, .inl (fun z9 => nI (ba z9)))), (h0, .inr (6, [.ref a1, .ref a2, .ref a3, .ref x0, .int (nI N), .int (nI sg)])), (a1, .inl (T 0, 201, .inl (fun z9 => nI (af z9)))), (a2, .inl (T 1, 201, .inr (.inl (fun z9 => lN (inf z9))))), (a3, .inl (T 0, 201, .inl (fun z9 => nI (wf z9)))), (x0, .inr (4, [.int (nI 8192), .ref x1, .int (nI cnt)])), (x1, .inl (T 1, ((8192 + 7) / 8), .inr (.inl (pack b))))]) rfl ?_
    refine g_st (st' := [.int (nI ((rfA (cut b cnt) (m + 1)).length))]) rfl ?_
    refine g_istore_n (pc' := 40) hE [(3, .int (nI ((rfA (cut b cnt) (m + 1)).length))), (4, .int (nI (m + 1))), (2, .int (nI N)), (0, .ref l0), (1, .ref h0)] dX2_gather_39 rfl rfl (by decide) rfl ?_
    refine g_aload_n (pc' := 41) hE 3 rfl rfl dX2_gather_40 rfl ?_
    refine g_get (pc' := 44) hE gcX2 0 rfl 0 (by decide) rfl kX2_9 dX2_gather_41 rfl ?_
    refine g_iload (pc' := 46) hE 1 rfl dX2_gather_44 rfl ?_
    refine g_iconst (pc' := 47) hE (nI 1) (by decide) dX2_gather_46 rfl ?_
    refine g_iadd (pc' := 48) hE dX2_gather_47 rfl ?_
    refine g_eqi (show _ = nI (m + 1 + 1) from nI_add _ _) ?_
    refine g_iload_n (pc' := 49) hE 0 rfl rfl dX2_gather_48 rfl ?_
    refine g_iast (pc' := 50) hE 1 [(l0, .inr (1, [.ref k0, .ref k1, .ref k2, .ref k3, .ref k4, .ref k5, .ref k6])), (k0, .inl (T 0, 202, .inl (fun z9 => nI ((gu st (m + 1 + 1) ((rfA (cut b cnt) (m + 1)).length)) z9)))), (k1, .inl (T 0, 1000, .inl (fun z9 => nI (to' z9)))), (k2, .inl (T 0, 202, .inl (fun z9 => nI (bs z9)))), (k3, .inl (T 0, 1000, .inl (fun z9 => nI (bk z9)))), (k4, .inl (T 0, 201, .inl (fun z9 => nI (qu z9)))), (k5, .inl (T 2, 201, .inl (fun z9 => nI (on z9)))), (k6, .inl (T 2, 201, .inl (fun z9 => nI (ba z9)))), (h0, .inr (6, [.ref a1, .ref a2, .ref a3, .ref x0, .int (nI N), .int (nI sg)])), (a1, .inl (T 0, 201, .inl (fun z9 => nI (af z9)))), (a2, .inl (T 1, 201, .inr (.inl (fun z9 => lN (inf z9))))), (a3, .inl (T 0, 201, .inl (fun z9 => nI (wf z9)))), (x0, .inr (4, [.int (nI 8192), .ref x1, .int (nI cnt)])), (x1, .inl (T 1, ((8192 + 7) / 8), .inr (.inl (pack b))))] rfl (by omega) (by omega) (gu_I _ _ _) rfl dX2_gather_49 rfl ?_
    refine g_iinc (pc' := 53) hE (nI (m + 1 + 1)) [(4, .int (nI (m + 1 + 1))), (3, .int (nI ((rfA (cut b cnt) (m + 1)).length))), (2, .int (nI N)), (0, .ref l0), (1, .ref h0)] 1 rfl dX2_gather_50 rfl (g_incN _ 1) (by decide) rfl ?_
    refine g_goto (tgt := 17) hE dX2_gather_53 rfl ?_
    exact ih17 _ (by omega) (m + 1) (gu st (m + 1 + 1) ((rfA (cut b cnt) (m + 1)).length)) to' rfl (by omega) (hS.step (by have h1 := rfA_len (cut b cnt) (m + 1); obtain ⟨-, -, h2, -, -⟩ := hok.at (show m < N by omega); have h3 := (teE_0 (hok.2.2.2 m (by omega)).2).2.2.1; have h4 : itc (cut b cnt) (m + 1) ≤ 600 := h3; omega)) hR'

set_option maxHeartbeats 4000000 in
set_option maxRecDepth 100000 in
theorem qX2_spread (l : Launch) (D : va_G) (T : Nat → ClassId) (l0 k0 k1 k2 k3 k4 k5 k6 f0 e0 r0 : Nat) (fr en qu on : Nat → Nat) (N i : Nat) (hN : N ≤ 200) (hi : i ≤ N) (hfr : ∀ u, u ≤ N → fr u ≤ fr (u + 1) ∧ fr (u + 1) ≤ 1000) (hen : ∀ u, u ≤ N → ∀ v, edge fr en u v → v ≤ N) (hon : ∀ j, on j ≤ 1) : Con l D T yX2_spread cX2_spread 8 none 0 0 0 [.ref l0, .ref f0, .ref e0, .int (nI i), .ref r0] [(l0, .inr (1, [.ref k0, .ref k1, .ref k2, .ref k3, .ref k4, .ref k5, .ref k6])), (f0, .inl (T 0, 202, .inl (fun z9 => nI (fr z9)))), (e0, .inl (T 0, 1000, .inl (fun z9 => nI (en z9)))), (k4, .inl (T 0, 201, .inl (fun z9 => nI (qu z9)))), (r0, .inl (T 2, 201, .inl (fun z9 => nI (on z9))))] (fun v w1 => ∃ qu' on' : Nat → Nat, v = none ∧ w1 = [(l0, .inr (1, [.ref k0, .ref k1, .ref k2, .ref k3, .ref k4, .ref k5, .ref k6])), (f0, .inl (T 0, 202, .inl (fun z9 => nI (fr z9)))), (e0, .inl (T 0, 1000, .inl (fun z9 => nI (en z9)))), (k4, .inl (T 0, 201, .inl (fun z9 => nI (qu' z9)))), (r0, .inl (T 2, 201, .inl (fun z9 => nI (on' z9))))] ∧ (∀ j, on' j ≤ 1) ∧ ∀ j, j ≤ N → (on' j = 1 ↔ Reach fr en i j)) := by
  refine Con.of (by decide) (Nat.le_of_ble_eq_true rfl) ?_
  intro E hE
  refine g_lv (lv' := [(0, .ref l0), (1, .ref f0), (2, .ref e0), (3, .int (nI i)), (4, .ref r0)]) [0, 1, 2, 3, 4] rfl ?_
  refine g_iconst (pc' := 1) hE (nI 0) (by decide) dX2_spread_0 rfl ?_
  refine g_istore (pc' := 3) hE [(5, .int (nI 0)), (0, .ref l0), (1, .ref f0), (2, .ref e0), (3, .int (nI i)), (4, .ref r0)] dX2_spread_1 rfl (by decide) rfl ?_
  refine (show ∀ (d3 : Nat) (j : Nat) (on : Nat → Nat), 201 - j = d3 → (j ≤ 201) → (∀ u, u < j → on u = 0) → (∀ u, on u ≤ 1) → G l E D 8 0 0 [(l0, .inr (1, [.ref k0, .ref k1, .ref k2, .ref k3, .ref k4, .ref k5, .ref k6])), (f0, .inl (T 0, 202, .inl (fun z9 => nI (fr z9)))), (e0, .inl (T 0, 1000, .inl (fun z9 => nI (en z9)))), (k4, .inl (T 0, 201, .inl (fun z9 => nI (qu z9)))), (r0, .inl (T 2, 201, .inl (fun z9 => nI (on z9))))] [(5, .int (nI j)), (0, .ref l0), (1, .ref f0), (2, .ref e0), (3, .int (nI i)), (4, .ref r0)] 3 [] from ?_) _ 0 on rfl (by omega) (fun u hu => absurd hu (by omega)) hon
  intro d3
  induction d3 using Nat.strongRecOn with
  | _ d3 ih3 =>
  intro j on hd3 hj hz hon
  refine g_iload (pc' := 5) hE 0 rfl dX2_spread_3 rfl ?_
  refine g_aload (pc' := 7) hE 5 rfl dX2_spread_5 rfl ?_
  refine g_alen (pc' := 8) hE 4 2 rfl rfl dX2_spread_7 rfl ?_
  refine g_icmpN_ge (pc' := 11) (tgt := 23) hE (by omega) (by omega) dX2_spread_8 rfl rfl (fun hc8 => ?_) (fun hc8 => ?_)
  · refine g_aload_n (pc' := 24) hE 1 rfl rfl dX2_spread_23 rfl ?_
    refine g_get (pc' := 27) hE gcX2 0 rfl 4 (by decide) rfl kX2_24 dX2_spread_24 rfl ?_
    refine g_iconst (pc' := 28) hE (nI 0) (by decide) dX2_spread_27 rfl ?_
    refine g_iload_n (pc' := 29) hE 4 rfl rfl dX2_spread_28 rfl ?_
    refine g_iast (pc' := 30) hE 3 [(l0, .inr (1, [.ref k0, .ref k1, .ref k2, .ref k3, .ref k4, .ref k5, .ref k6])), (f0, .inl (T 0, 202, .inl (fun z9 => nI (fr z9)))), (e0, .inl (T 0, 1000, .inl (fun z9 => nI (en z9)))), (k4, .inl (T 0, 201, .inl (fun z9 => nI ((gu qu 0 i) z9)))), (r0, .inl (T 2, 201, .inl (fun z9 => nI (on z9))))] rfl (by omega) (by omega) (gu_I _ _ _) rfl dX2_spread_29 rfl ?_
    refine g_aload (pc' := 32) hE 5 rfl dX2_spread_30 rfl ?_
    refine g_iload_n (pc' := 33) hE 4 rfl rfl dX2_spread_32 rfl ?_
    refine g_iconst (pc' := 34) hE (nI 1) (by decide) dX2_spread_33 rfl ?_
    refine g_zast (pc' := 35) hE 4 [(l0, .inr (1, [.ref k0, .ref k1, .ref k2, .ref k3, .ref k4, .ref k5, .ref k6])), (f0, .inl (T 0, 202, .inl (fun z9 => nI (fr z9)))), (e0, .inl (T 0, 1000, .inl (fun z9 => nI (en z9)))), (k4, .inl (T 0, 201, .inl (fun z9 => nI ((gu qu 0 i) z9)))), (r0, .inl (T 2, 201, .inl (fun z9 => nI ((gu on i 1) z9))))] rfl (by omega) (by omega) (by rw [nar_1]; exact gu_I _ _ _) rfl dX2_spread_34 rfl ?_
    refine g_iconst (pc' := 36) hE (nI 1) (by decide) dX2_spread_35 rfl ?_
    refine g_istore (pc' := 38) hE [(5, .int (nI 1)), (0, .ref l0), (1, .ref f0), (2, .ref e0), (3, .int (nI i)), (4, .ref r0)] dX2_spread_36 rfl (by decide) rfl ?_
    refine g_iconst (pc' := 39) hE (nI 0) (by decide) dX2_spread_38 rfl ?_
    refine g_istore (pc' := 41) hE [(6, .int (nI 0)), (5, .int (nI 1)), (0, .ref l0), (1, .ref f0), (2, .ref e0), (3, .int (nI i)), (4, .ref r0)] dX2_spread_39 rfl (by decide) rfl ?_
    refine (show ∀ (d41 : Nat) (q : Nat) (fd : Nat) (qu : Nat → Nat) (on : Nat → Nat), 201 - q = d41 → (q ≤ fd) → (fd ≤ 201) → (BF fr en N i qu on fd) → (∀ q', q' < q → ∀ v, edge fr en (qu q') v → on v = 1) → G l E D 8 0 0 [(l0, .inr (1, [.ref k0, .ref k1, .ref k2, .ref k3, .ref k4, .ref k5, .ref k6])), (f0, .inl (T 0, 202, .inl (fun z9 => nI (fr z9)))), (e0, .inl (T 0, 1000, .inl (fun z9 => nI (en z9)))), (k4, .inl (T 0, 201, .inl (fun z9 => nI (qu z9)))), (r0, .inl (T 2, 201, .inl (fun z9 => nI (on z9))))] [(6, .int (nI q)), (5, .int (nI fd)), (0, .ref l0), (1, .ref f0), (2, .ref e0), (3, .int (nI i)), (4, .ref r0)] 41 [] from ?_) _ 0 1 (gu qu 0 i) (gu on i 1) rfl (by omega) (by omega) (BF.start hi hN hon (fun u hu => hz u (by omega))) (fun q' hq' => absurd hq' (by omega))
    intro d41
    induction d41 using Nat.strongRecOn with
    | _ d41 ih41 =>
    intro q fd qu on hd41 hq hfd hBF hpr
    refine g_iload (pc' := 43) hE 0 rfl dX2_spread_41 rfl ?_
    refine g_iload (pc' := 45) hE 1 rfl dX2_spread_43 rfl ?_
    refine g_icmpN_ge (pc' := 48) (tgt := 139) hE (by omega) (by omega) dX2_spread_45 rfl rfl (fun hc45 => ?_) (fun hc45 => ?_)
    · exact hE.vret (⟨qu, on, rfl, rfl, hBF.1, hBF.done hN hi hen (fun q' hq' => hpr q' (by omega))⟩) (Nat.zero_le _) (Nat.zero_le _) dX2_spread_139
    · refine g_iload (pc' := 50) hE 0 rfl dX2_spread_48 rfl ?_
      refine g_aload_n (pc' := 51) hE 2 rfl rfl dX2_spread_50 rfl ?_
      refine g_get (pc' := 54) hE gcX2 0 rfl 4 (by decide) rfl kX2_24 dX2_spread_51 rfl ?_
      refine g_alen (pc' := 55) hE 3 0 rfl rfl dX2_spread_54 rfl ?_
      refine g_icmpN_ge (pc' := 58) (tgt := 139) hE (by omega) (by omega) dX2_spread_55 rfl rfl (fun hc55 => ?_) (fun hc55 => ?_)
      · exact hE.vret (⟨qu, on, rfl, rfl, hBF.1, hBF.done hN hi hen (fun q' hq' => hpr q' (by omega))⟩) (Nat.zero_le _) (Nat.zero_le _) dX2_spread_139
      · obtain ⟨hq1, hq2⟩ := hBF.2.1 q hc45
        obtain ⟨hf1, hf2⟩ := hfr (qu q) hq1
        refine g_aload_n (pc' := 59) hE 3 rfl rfl dX2_spread_58 rfl ?_
        refine g_aload_n (pc' := 60) hE 2 rfl rfl dX2_spread_59 rfl ?_
        refine g_get (pc' := 63) hE gcX2 0 rfl 4 (by decide) rfl kX2_24 dX2_spread_60 rfl ?_
        refine g_iload (pc' := 65) hE 0 rfl dX2_spread_63 rfl ?_
        refine g_iald (pc' := 66) hE 3 rfl (by omega) (by omega) dX2_spread_65 rfl ?_
        refine g_iald (pc' := 67) hE 1 rfl (by omega) (by omega) dX2_spread_66 rfl ?_
        refine g_istore (pc' := 69) hE [(7, .int (nI (fr (qu q)))), (6, .int (nI q)), (5, .int (nI fd)), (0, .ref l0), (1, .ref f0), (2, .ref e0), (3, .int (nI i)), (4, .ref r0)] dX2_spread_67 rfl (by decide) rfl ?_
        refine (show ∀ (d69 : Nat) (r : Nat) (fd : Nat) (qu : Nat → Nat) (on : Nat → Nat), fr (qu q + 1) - r = d69 → (q < fd) → (fd ≤ 201) → (fr (qu q) ≤ r) → (r ≤ fr (qu q + 1)) → (BF fr en N i qu on fd) → (∀ q', q' < q → ∀ v, edge fr en (qu q') v → on v = 1) → (∀ r', fr (qu q) ≤ r' → r' < r → on (en r') = 1) → G l E D 8 0 0 [(l0, .inr (1, [.ref k0, .ref k1, .ref k2, .ref k3, .ref k4, .ref k5, .ref k6])), (f0, .inl (T 0, 202, .inl (fun z9 => nI (fr z9)))), (e0, .inl (T 0, 1000, .inl (fun z9 => nI (en z9)))), (k4, .inl (T 0, 201, .inl (fun z9 => nI (qu z9)))), (r0, .inl (T 2, 201, .inl (fun z9 => nI (on z9))))] [(7, .int (nI r)), (6, .int (nI q)), (5, .int (nI fd)), (0, .ref l0), (1, .ref f0), (2, .ref e0), (3, .int (nI i)), (4, .ref r0)] 69 [] from ?_) _ (fr (qu q)) fd qu on rfl hc45 hfd (Nat.le_refl _) hf1 hBF hpr (fun r' g1 g2 => absurd g2 (by omega))
        intro d69
        induction d69 using Nat.strongRecOn with
        | _ d69 ih69 =>
        intro r fd qu on hd69 hq0 hfd hr1 hr2 hBF hpr hin
        obtain ⟨hq1, hq2⟩ := hBF.2.1 q hq0
        obtain ⟨hf1, hf2⟩ := hfr (qu q) hq1
        have hs4 := hBF.2.2.2.1
        refine g_iload (pc' := 71) hE 0 rfl dX2_spread_69 rfl ?_
        refine g_aload_n (pc' := 72) hE 4 rfl rfl dX2_spread_71 rfl ?_
        refine g_aload_n (pc' := 73) hE 3 rfl rfl dX2_spread_72 rfl ?_
        refine g_get (pc' := 76) hE gcX2 0 rfl 4 (by decide) rfl kX2_24 dX2_spread_73 rfl ?_
        refine g_iload (pc' := 78) hE 1 rfl dX2_spread_76 rfl ?_
        refine g_iald (pc' := 79) hE 3 rfl (by omega) (by omega) dX2_spread_78 rfl ?_
        refine g_iconst (pc' := 80) hE (nI 1) (by decide) dX2_spread_79 rfl ?_
        refine g_iadd (pc' := 81) hE dX2_spread_80 rfl ?_
        refine g_eqi (show _ = nI (qu q + 1) from nI_add _ _) ?_
        refine g_iald (pc' := 82) hE 1 rfl (by omega) (by omega) dX2_spread_81 rfl ?_
        refine g_icmpN_ge (pc' := 85) (tgt := 133) hE (by omega) (by omega) dX2_spread_82 rfl rfl (fun hc82 => ?_) (fun hc82 => ?_)
        · refine g_iinc (pc' := 136) hE (nI (q + 1)) [(6, .int (nI (q + 1))), (7, .int (nI r)), (5, .int (nI fd)), (0, .ref l0), (1, .ref f0), (2, .ref e0), (3, .int (nI i)), (4, .ref r0)] 1 rfl dX2_spread_133 rfl (g_incN _ 1) (by decide) rfl ?_
          refine g_goto (tgt := 41) hE dX2_spread_136 rfl ?_
          refine g_lv [0, 2, 3, 4, 5, 6, 7] (lv' := [(6, .int (nI (q + 1))), (5, .int (nI fd)), (0, .ref l0), (1, .ref f0), (2, .ref e0), (3, .int (nI i)), (4, .ref r0)]) rfl ?_
          exact ih41 _ (by omega) (q + 1) fd qu on rfl (by omega) hfd hBF (fun q' hq' v he => by by_cases e : q' = q; (subst e; obtain ⟨r', g1, g2, g3⟩ := he; rw [← g3]; exact hin r' g1 (by omega)); exact hpr q' (by omega) v he)
        · have hev := hen (qu q) hq1 (en r) ⟨r, hr1, hc82, rfl⟩
          refine g_aload (pc' := 87) hE 7 rfl dX2_spread_85 rfl ?_
          refine g_aload_n (pc' := 88) hE 5 rfl rfl dX2_spread_87 rfl ?_
          refine g_iload (pc' := 90) hE 0 rfl dX2_spread_88 rfl ?_
          refine g_iald (pc' := 91) hE 2 rfl (by omega) (by omega) dX2_spread_90 rfl ?_
          refine g_zald (pc' := 92) hE 4 rfl (by omega) (by omega) dX2_spread_91 rfl ?_
          refine g_ifN_ne (pc' := 95) (tgt := 127) hE (Nat.lt_of_le_of_lt (hBF.1 _) (by decide)) dX2_spread_92 rfl rfl (fun hc92 => ?_) (fun hc92 => ?_)
          · refine g_iinc (pc' := 130) hE (nI (r + 1)) [(7, .int (nI (r + 1))), (6, .int (nI q)), (5, .int (nI fd)), (0, .ref l0), (1, .ref f0), (2, .ref e0), (3, .int (nI i)), (4, .ref r0)] 0 rfl dX2_spread_127 rfl (g_incN _ 1) (by decide) rfl ?_
            refine g_goto (tgt := 69) hE dX2_spread_130 rfl ?_
            exact ih69 _ (by first | omega | (rw [gu_n _ _ (by omega)]; omega)) (r + 1) fd qu on rfl hq0 hfd (by omega) (by omega) hBF hpr (fun r' g1 g2 => by by_cases e : r' = r; (subst e; have := hBF.1 (en r'); omega); exact hin r' g1 (by omega))
          · have hsl := sumN_lt hBF.1 hc92 201 (by omega)
            refine g_iload (pc' := 97) hE 2 rfl dX2_spread_95 rfl ?_
            refine g_aload_n (pc' := 98) hE 3 rfl rfl dX2_spread_97 rfl ?_
            refine g_get (pc' := 101) hE gcX2 0 rfl 4 (by decide) rfl kX2_24 dX2_spread_98 rfl ?_
            refine g_alen (pc' := 102) hE 3 0 rfl rfl dX2_spread_101 rfl ?_
            refine g_icmpN_ge (pc' := 105) (tgt := 127) hE (by omega) (by omega) dX2_spread_102 rfl rfl (fun hc102 => ?_) (fun hc102 => ?_)
            · omega
            refine g_aload (pc' := 107) hE 7 rfl dX2_spread_105 rfl ?_
            refine g_aload_n (pc' := 108) hE 5 rfl rfl dX2_spread_107 rfl ?_
            refine g_iload (pc' := 110) hE 0 rfl dX2_spread_108 rfl ?_
            refine g_iald (pc' := 111) hE 2 rfl (by omega) (by omega) dX2_spread_110 rfl ?_
            refine g_iconst (pc' := 112) hE (nI 1) (by decide) dX2_spread_111 rfl ?_
            refine g_zast (pc' := 113) hE 4 [(l0, .inr (1, [.ref k0, .ref k1, .ref k2, .ref k3, .ref k4, .ref k5, .ref k6])), (f0, .inl (T 0, 202, .inl (fun z9 => nI (fr z9)))), (e0, .inl (T 0, 1000, .inl (fun z9 => nI (en z9)))), (k4, .inl (T 0, 201, .inl (fun z9 => nI (qu z9)))), (r0, .inl (T 2, 201, .inl (fun z9 => nI ((gu on (en r) 1) z9))))] rfl (by omega) (by omega) (by rw [nar_1]; exact gu_I _ _ _) rfl dX2_spread_112 rfl ?_
            refine g_aload_n (pc' := 114) hE 3 rfl rfl dX2_spread_113 rfl ?_
            refine g_get (pc' := 117) hE gcX2 0 rfl 4 (by decide) rfl kX2_24 dX2_spread_114 rfl ?_
            refine g_iload (pc' := 119) hE 2 rfl dX2_spread_117 rfl ?_
            refine g_aload_n (pc' := 120) hE 5 rfl rfl dX2_spread_119 rfl ?_
            refine g_iload (pc' := 122) hE 0 rfl dX2_spread_120 rfl ?_
            refine g_iald (pc' := 123) hE 2 rfl (by omega) (by omega) dX2_spread_122 rfl ?_
            refine g_iast (pc' := 124) hE 3 [(l0, .inr (1, [.ref k0, .ref k1, .ref k2, .ref k3, .ref k4, .ref k5, .ref k6])), (f0, .inl (T 0, 202, .inl (fun z9 => nI (fr z9)))), (e0, .inl (T 0, 1000, .inl (fun z9 => nI (en z9)))), (k4, .inl (T 0, 201, .inl (fun z9 => nI ((gu qu fd (en r)) z9)))), (r0, .inl (T 2, 201, .inl (fun z9 => nI ((gu on (en r) 1) z9))))] rfl (by omega) (by omega) (gu_I _ _ _) rfl dX2_spread_123 rfl ?_
            refine g_iinc (pc' := 127) hE (nI (fd + 1)) [(5, .int (nI (fd + 1))), (7, .int (nI r)), (6, .int (nI q)), (0, .ref l0), (1, .ref f0), (2, .ref e0), (3, .int (nI i)), (4, .ref r0)] 2 rfl dX2_spread_124 rfl (g_incN _ 1) (by decide) rfl ?_
            refine g_iinc (pc' := 130) hE (nI (r + 1)) [(7, .int (nI (r + 1))), (5, .int (nI (fd + 1))), (6, .int (nI q)), (0, .ref l0), (1, .ref f0), (2, .ref e0), (3, .int (nI i)), (4, .ref r0)] 1 rfl dX2_spread_127 rfl (g_incN _ 1) (by decide) rfl ?_
            refine g_goto (tgt := 69) hE dX2_spread_130 rfl ?_
            refine g_lv [0, 2, 1, 3, 4, 5, 6, 7] (lv' := [(7, .int (nI (r + 1))), (6, .int (nI q)), (5, .int (nI (fd + 1))), (0, .ref l0), (1, .ref f0), (2, .ref e0), (3, .int (nI i)), (4, .ref r0)]) rfl ?_
            exact ih69 _ (by first | omega | (rw [gu_n _ _ (by omega)]; omega)) (r + 1) (fd + 1) (gu qu fd (en r)) (gu on (en r) 1) rfl (by omega) (by omega) (by rw [gu_n _ _ (by omega)]; omega) (by rw [gu_n _ _ (by omega)]; omega) (hBF.add hN hq2 hq1 ⟨r, hr1, hc82, rfl⟩ hev hc92) (fun q' hq' v he => by rw [gu_n _ _ (by omega)] at he; have h9 := hpr q' hq' v he; by_cases e : v = en r; (rw [e]; exact gu_s _ _ _); (rw [gu_n _ _ e]; exact h9)) (fun r' g1 g2 => by rw [gu_n _ _ (by omega)] at g1; by_cases e : en r' = en r; (rw [e]; exact gu_s _ _ _); (rw [gu_n _ _ e]; exact hin r' g1 (by by_cases e2 : r' = r; (subst e2; exact absurd rfl e); omega)))
  · refine g_aload (pc' := 13) hE 5 rfl dX2_spread_11 rfl ?_
    refine g_iload (pc' := 15) hE 0 rfl dX2_spread_13 rfl ?_
    refine g_iconst (pc' := 16) hE (nI 0) (by decide) dX2_spread_15 rfl ?_
    refine g_zast (pc' := 17) hE 4 [(l0, .inr (1, [.ref k0, .ref k1, .ref k2, .ref k3, .ref k4, .ref k5, .ref k6])), (f0, .inl (T 0, 202, .inl (fun z9 => nI (fr z9)))), (e0, .inl (T 0, 1000, .inl (fun z9 => nI (en z9)))), (k4, .inl (T 0, 201, .inl (fun z9 => nI (qu z9)))), (r0, .inl (T 2, 201, .inl (fun z9 => nI ((gu on j 0) z9))))] rfl (by omega) (by omega) (by rw [nar_0]; exact gu_I _ _ _) rfl dX2_spread_16 rfl ?_
    refine g_iinc (pc' := 20) hE (nI (j + 1)) [(5, .int (nI (j + 1))), (0, .ref l0), (1, .ref f0), (2, .ref e0), (3, .int (nI i)), (4, .ref r0)] 0 rfl dX2_spread_17 rfl (g_incN _ 1) (by decide) rfl ?_
    refine g_goto (tgt := 3) hE dX2_spread_20 rfl ?_
    exact ih3 _ (by omega) (j + 1) (gu on j 0) rfl (by omega) (lt_s (fun u hu => by rw [gu_n _ _ (by omega)]; exact hz u hu) (gu_s _ _ _)) (fun u => by unfold gu; split; omega; exact hon u)

set_option maxHeartbeats 4000000 in
set_option maxRecDepth 100000 in
theorem qX2_ringSize (l : Launch) (D : va_G) (T : Nat → ClassId) (l0 k0 k1 k2 k3 k4 k5 k6 : Nat) (st to bs bk qu on ba : Nat → Nat) (i N : Nat) (hN : N ≤ 200) (hi : i ≤ N) (hfr : ∀ u, u ≤ N → st u ≤ st (u + 1) ∧ st (u + 1) ≤ 1000) (hen : ∀ u, u ≤ N → ∀ v, edge st to u v → v ≤ N) (hbr : ∀ u, u ≤ N → bs u ≤ bs (u + 1) ∧ bs (u + 1) ≤ 1000) (hbn : ∀ u, u ≤ N → ∀ v, edge bs bk u v → v ≤ N) (hon : ∀ j, on j ≤ 1) (hba : ∀ j, ba j ≤ 1) : Con l D T yX2_ringSize cX2_ringSize 5 (some .int) 1 0 0 [.ref l0, .int (nI i), .int (nI N)] [(l0, .inr (1, [.ref k0, .ref k1, .ref k2, .ref k3, .ref k4, .ref k5, .ref k6])), (k0, .inl (T 0, 202, .inl (fun z9 => nI (st z9)))), (k1, .inl (T 0, 1000, .inl (fun z9 => nI (to z9)))), (k2, .inl (T 0, 202, .inl (fun z9 => nI (bs z9)))), (k3, .inl (T 0, 1000, .inl (fun z9 => nI (bk z9)))), (k4, .inl (T 0, 201, .inl (fun z9 => nI (qu z9)))), (k5, .inl (T 2, 201, .inl (fun z9 => nI (on z9)))), (k6, .inl (T 2, 201, .inl (fun z9 => nI (ba z9))))] (fun v w1 => ∃ qu' on' ba' : Nat → Nat, v = some (.int (nI (cntP (fun j => decide (on' j = 1 ∧ ba' j = 1)) N))) ∧ w1 = [(l0, .inr (1, [.ref k0, .ref k1, .ref k2, .ref k3, .ref k4, .ref k5, .ref k6])), (k0, .inl (T 0, 202, .inl (fun z9 => nI (st z9)))), (k1, .inl (T 0, 1000, .inl (fun z9 => nI (to z9)))), (k2, .inl (T 0, 202, .inl (fun z9 => nI (bs z9)))), (k3, .inl (T 0, 1000, .inl (fun z9 => nI (bk z9)))), (k4, .inl (T 0, 201, .inl (fun z9 => nI (qu' z9)))), (k5, .inl (T 2, 201, .inl (fun z9 => nI (on' z9)))), (k6, .inl (T 2, 201, .inl (fun z9 => nI (ba' z9))))] ∧ (∀ j, on' j ≤ 1) ∧ (∀ j, ba' j ≤ 1) ∧ ∀ j, j ≤ N → (on' j = 1 ↔ Reach st to i j) ∧ (ba' j = 1 ↔ Reach bs bk i j)) := by
  refine Con.of (by decide) (Nat.le_of_ble_eq_true rfl) ?_
  intro E hE
  refine g_lv (lv' := [(0, .ref l0), (1, .int (nI i)), (2, .int (nI N))]) [0, 1, 2] rfl ?_
  refine g_aload_n (pc' := 1) hE 0 rfl rfl dX2_ringSize_0 rfl ?_
  refine g_aload_n (pc' := 2) hE 0 rfl rfl dX2_ringSize_1 rfl ?_
  refine g_get (pc' := 5) hE gcX2 0 rfl 0 (by decide) rfl kX2_9 dX2_ringSize_2 rfl ?_
  refine g_aload_n (pc' := 6) hE 0 rfl rfl dX2_ringSize_5 rfl ?_
  refine g_get (pc' := 9) hE gcX2 0 rfl 1 (by decide) rfl kX2_15 dX2_ringSize_6 rfl ?_
  refine g_iload_n (pc' := 10) hE 1 rfl rfl dX2_ringSize_9 rfl ?_
  refine g_aload_n (pc' := 11) hE 0 rfl rfl dX2_ringSize_10 rfl ?_
  refine g_get (pc' := 14) hE gcX2 0 rfl 5 (by decide) rfl kX2_27 dX2_ringSize_11 rfl ?_
  refine g_callV (pc' := 17) (As := [.ref k0, .ref k1, .int (nI i), .ref k5]) (rest := []) hE (qX2_spread l D T l0 k0 k1 k2 k3 k4 k5 k6 k0 k1 k5 st to qu on N i hN hi hfr hen hon) mX2_spread kX2_52 iX2_spread sX2_spread (by decide) rfl (by decide) 0 rfl rfl [0, 1, 2, 5, 6] rfl (by decide) rfl (Nat.le_of_ble_eq_true rfl) dX2_ringSize_14 rfl (gBackU [0, 1, 2, 5, 6] rfl (fun v w1 h => by obtain ⟨_, _, _, rfl, _⟩ := h; simp only [List.map_cons, List.map_nil]) ?_)
  rintro _ _ ⟨qu', on', rfl, rfl, hon1, hon2⟩
  refine g_w (ws' := [(l0, .inr (1, [.ref k0, .ref k1, .ref k2, .ref k3, .ref k4, .ref k5, .ref k6])), (k0, .inl (T 0, 202, .inl (fun z9 => nI (st z9)))), (k1, .inl (T 0, 1000, .inl (fun z9 => nI (to z9)))), (k2, .inl (T 0, 202, .inl (fun z9 => nI (bs z9)))), (k3, .inl (T 0, 1000, .inl (fun z9 => nI (bk z9)))), (k4, .inl (T 0, 201, .inl (fun z9 => nI (qu' z9)))), (k5, .inl (T 2, 201, .inl (fun z9 => nI (on' z9)))), (k6, .inl (T 2, 201, .inl (fun z9 => nI (ba z9))))]) rfl ?_
  refine g_aload_n (pc' := 18) hE 0 rfl rfl dX2_ringSize_17 rfl ?_
  refine g_aload_n (pc' := 19) hE 0 rfl rfl dX2_ringSize_18 rfl ?_
  refine g_get (pc' := 22) hE gcX2 0 rfl 2 (by decide) rfl kX2_18 dX2_ringSize_19 rfl ?_
  refine g_aload_n (pc' := 23) hE 0 rfl rfl dX2_ringSize_22 rfl ?_
  refine g_get (pc' := 26) hE gcX2 0 rfl 3 (by decide) rfl kX2_21 dX2_ringSize_23 rfl ?_
  refine g_iload_n (pc' := 27) hE 1 rfl rfl dX2_ringSize_26 rfl ?_
  refine g_aload_n (pc' := 28) hE 0 rfl rfl dX2_ringSize_27 rfl ?_
  refine g_get (pc' := 31) hE gcX2 0 rfl 6 (by decide) rfl kX2_31 dX2_ringSize_28 rfl ?_
  refine g_callV (pc' := 34) (As := [.ref k2, .ref k3, .int (nI i), .ref k6]) (rest := []) hE (qX2_spread l D T l0 k0 k1 k2 k3 k4 k5 k6 k2 k3 k6 bs bk qu' ba N i hN hi hbr hbn hba) mX2_spread kX2_52 iX2_spread sX2_spread (by decide) rfl (by decide) 0 rfl rfl [0, 3, 4, 5, 7] rfl (by decide) rfl (Nat.le_of_ble_eq_true rfl) dX2_ringSize_31 rfl (gBackU [0, 3, 4, 5, 7] rfl (fun v w1 h => by obtain ⟨_, _, _, rfl, _⟩ := h; simp only [List.map_cons, List.map_nil]) ?_)
  rintro _ _ ⟨qu'', ba'', rfl, rfl, hba1, hba2⟩
  refine g_w (ws' := [(l0, .inr (1, [.ref k0, .ref k1, .ref k2, .ref k3, .ref k4, .ref k5, .ref k6])), (k0, .inl (T 0, 202, .inl (fun z9 => nI (st z9)))), (k1, .inl (T 0, 1000, .inl (fun z9 => nI (to z9)))), (k2, .inl (T 0, 202, .inl (fun z9 => nI (bs z9)))), (k3, .inl (T 0, 1000, .inl (fun z9 => nI (bk z9)))), (k4, .inl (T 0, 201, .inl (fun z9 => nI (qu'' z9)))), (k5, .inl (T 2, 201, .inl (fun z9 => nI (on' z9)))), (k6, .inl (T 2, 201, .inl (fun z9 => nI (ba'' z9))))]) rfl ?_
  refine g_iconst (pc' := 35) hE (nI 0) (by decide) dX2_ringSize_34 rfl ?_
  refine g_istore_n (pc' := 36) hE [(3, .int (nI 0)), (0, .ref l0), (1, .int (nI i)), (2, .int (nI N))] dX2_ringSize_35 rfl rfl (by decide) rfl ?_
  refine g_iconst (pc' := 37) hE (nI 1) (by decide) dX2_ringSize_36 rfl ?_
  refine g_istore (pc' := 39) hE [(4, .int (nI 1)), (3, .int (nI 0)), (0, .ref l0), (1, .int (nI i)), (2, .int (nI N))] dX2_ringSize_37 rfl (by decide) rfl ?_
  refine (show ∀ (d39 : Nat) (m : Nat), N - m = d39 → (m ≤ N) → G l E D 5 0 0 [(l0, .inr (1, [.ref k0, .ref k1, .ref k2, .ref k3, .ref k4, .ref k5, .ref k6])), (k0, .inl (T 0, 202, .inl (fun z9 => nI (st z9)))), (k1, .inl (T 0, 1000, .inl (fun z9 => nI (to z9)))), (k2, .inl (T 0, 202, .inl (fun z9 => nI (bs z9)))), (k3, .inl (T 0, 1000, .inl (fun z9 => nI (bk z9)))), (k4, .inl (T 0, 201, .inl (fun z9 => nI (qu'' z9)))), (k5, .inl (T 2, 201, .inl (fun z9 => nI (on' z9)))), (k6, .inl (T 2, 201, .inl (fun z9 => nI (ba'' z9))))] [(4, .int (nI (m + 1))), (3, .int (nI (cntP (fun j => decide (on' j = 1 ∧ ba'' j = 1)) m))), (0, .ref l0), (1, .int (nI i)), (2, .int (nI N))] 39 [] from ?_) _ 0 rfl (by omega)
  intro d39
  induction d39 using Nat.strongRecOn with
  | _ d39 ih39 =>
  intro m hd39 hm
  have hcp := cntP_le (fun j => decide (on' j = 1 ∧ ba'' j = 1)) m
  refine g_iload (pc' := 41) hE 0 rfl dX2_ringSize_39 rfl ?_
  refine g_iload_n (pc' := 42) hE 4 rfl rfl dX2_ringSize_41 rfl ?_
  refine g_icmpN_gt (pc' := 45) (tgt := 82) hE (by omega) (by omega) dX2_ringSize_42 rfl rfl (fun hc42 => ?_) (fun hc42 => ?_)
  · refine g_iload_n (pc' := 83) hE 1 rfl rfl dX2_ringSize_82 rfl ?_
    exact hE.iret (⟨_, _, _, by rw [show m = N by omega], rfl, hon1, hba1, fun j hj => ⟨hon2 j hj, hba2 j hj⟩⟩) (Nat.zero_le _) (Nat.zero_le _) dX2_ringSize_83
  · refine g_iload (pc' := 47) hE 0 rfl dX2_ringSize_45 rfl ?_
    refine g_sipush (pc' := 50) hE (nI 200) (by decide) dX2_ringSize_47 rfl ?_
    refine g_icmpN_gt (pc' := 53) (tgt := 82) hE (by omega) (by omega) dX2_ringSize_50 rfl rfl (fun hc50 => ?_) (fun hc50 => ?_)
    · refine g_iload_n (pc' := 83) hE 1 rfl rfl dX2_ringSize_82 rfl ?_
      exact hE.iret (⟨_, _, _, by rw [show m = N by omega], rfl, hon1, hba1, fun j hj => ⟨hon2 j hj, hba2 j hj⟩⟩) (Nat.zero_le _) (Nat.zero_le _) dX2_ringSize_83
    · refine g_aload_n (pc' := 54) hE 2 rfl rfl dX2_ringSize_53 rfl ?_
      refine g_get (pc' := 57) hE gcX2 0 rfl 5 (by decide) rfl kX2_27 dX2_ringSize_54 rfl ?_
      refine g_iload (pc' := 59) hE 0 rfl dX2_ringSize_57 rfl ?_
      refine g_zald (pc' := 60) hE 6 rfl (by omega) (by omega) dX2_ringSize_59 rfl ?_
      have ho1 := hon1 (m + 1)
      refine g_ifN_eq (pc' := 63) (tgt := 76) hE (by omega) dX2_ringSize_60 rfl rfl (fun hc60 => ?_) (fun hc60 => ?_)
      · refine g_lvw (lv' := [(4, .int (nI (m + 1))), (3, .int (nI (cntP (fun j => decide (on' j = 1 ∧ ba'' j = 1)) (m + 1)))), (0, .ref l0), (1, .int (nI i)), (2, .int (nI N))]) (by simp only [cntP]; rw [if_neg (by simp; omega)]; rfl) ?_
        refine g_iinc (pc' := 79) hE (nI (m + 1 + 1)) [(4, .int (nI (m + 1 + 1))), (3, .int (nI (cntP (fun j => decide (on' j = 1 ∧ ba'' j = 1)) (m + 1)))), (0, .ref l0), (1, .int (nI i)), (2, .int (nI N))] 0 rfl dX2_ringSize_76 rfl (g_incN _ 1) (by decide) rfl ?_
        refine g_goto (tgt := 39) hE dX2_ringSize_79 rfl ?_
        exact ih39 _ (by omega) (m + 1) rfl (by omega)
      · refine g_aload_n (pc' := 64) hE 2 rfl rfl dX2_ringSize_63 rfl ?_
        refine g_get (pc' := 67) hE gcX2 0 rfl 6 (by decide) rfl kX2_31 dX2_ringSize_64 rfl ?_
        refine g_iload (pc' := 69) hE 0 rfl dX2_ringSize_67 rfl ?_
        refine g_zald (pc' := 70) hE 7 rfl (by omega) (by omega) dX2_ringSize_69 rfl ?_
        have hb1 := hba1 (m + 1)
        refine g_ifN_eq (pc' := 73) (tgt := 76) hE (by omega) dX2_ringSize_70 rfl rfl (fun hc70 => ?_) (fun hc70 => ?_)
        · refine g_lvw (lv' := [(4, .int (nI (m + 1))), (3, .int (nI (cntP (fun j => decide (on' j = 1 ∧ ba'' j = 1)) (m + 1)))), (0, .ref l0), (1, .int (nI i)), (2, .int (nI N))]) (by simp only [cntP]; rw [if_neg (by simp; omega)]; rfl) ?_
          refine g_iinc (pc' := 79) hE (nI (m + 1 + 1)) [(4, .int (nI (m + 1 + 1))), (3, .int (nI (cntP (fun j => decide (on' j = 1 ∧ ba'' j = 1)) (m + 1)))), (0, .ref l0), (1, .int (nI i)), (2, .int (nI N))] 0 rfl dX2_ringSize_76 rfl (g_incN _ 1) (by decide) rfl ?_
          refine g_goto (tgt := 39) hE dX2_ringSize_79 rfl ?_
          exact ih39 _ (by omega) (m + 1) rfl (by omega)
        · refine g_iinc (pc' := 76) hE (nI (cntP (fun j => decide (on' j = 1 ∧ ba'' j = 1)) (m + 1))) [(3, .int (nI (cntP (fun j => decide (on' j = 1 ∧ ba'' j = 1)) (m + 1)))), (4, .int (nI (m + 1))), (0, .ref l0), (1, .int (nI i)), (2, .int (nI N))] 1 rfl dX2_ringSize_73 rfl (by simp only [cntP]; rw [if_pos (by simp; omega)]; exact g_incN _ 1) (by decide) rfl ?_
          refine g_iinc (pc' := 79) hE (nI (m + 1 + 1)) [(4, .int (nI (m + 1 + 1))), (3, .int (nI (cntP (fun j => decide (on' j = 1 ∧ ba'' j = 1)) (m + 1)))), (0, .ref l0), (1, .int (nI i)), (2, .int (nI N))] 1 rfl dX2_ringSize_76 rfl (g_incN _ 1) (by decide) rfl ?_
          refine g_goto (tgt := 39) hE dX2_ringSize_79 rfl ?_
          exact ih39 _ (by omega) (m + 1) rfl (by omega)
