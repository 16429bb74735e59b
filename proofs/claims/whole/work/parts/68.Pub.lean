set_option maxHeartbeats 4000000 in
set_option maxRecDepth 100000 in
theorem qX8_feed (l : Launch) (D : va_G) (T : Nat → ClassId) (me op oa oc : Nat) (ob : Nat → Nat) (rf er sd it tp ta tc : Nat) (tb : Nat → Nat) (h0 a1 a2 a3 x0 x1 N sg : Nat) (af inf wf : Nat → Nat) (cnt : Nat) (b : Nat → Nat) (n0 s0 s1 s2 s3 s4 : Nat) (sl te pl le fb0 : Nat → Nat) (ns nc fb : Nat) (l0 k0 k1 k2 k3 k4 k5 k6 : Nat) (st to bs bk qu on ba : Nat → Nat) (f0 y0 y1 y2 y3 y4 y5 y6 : Nat) (nw wa fi : Nat → Nat) (sb : Nat → Option Nat) (pa bi fr : Nat → Nat) (cn lb : Nat) (z0 p0 : Nat) (pz : Nat → Nat) (n : Nat) (x : Int64) (hn : 1 ≤ n ∧ n ≤ 8) (hcp : tc + n ≤ 8192) (htb : ∀ i, tb i < 256) : Con l D T yX8_feed cX8_feed 4 (some .int) 8 0 0 [.ref me, .int (nI n), .long x] [(me, .inr (7, [.ref op, .ref rf, .ref h0, .ref n0, .ref l0, .ref f0, .ref z0, .ref tp])), (tp, .inr (4, [.int (nI 8192), .ref ta, .int (nI tc)])), (ta, .inl (T 1, ((8192 + 7) / 8), .inr (.inl (pack tb))))] (fun v w1 => v = some (.int (nI (tc + n))) ∧ w1 = [(me, .inr (7, [.ref op, .ref rf, .ref h0, .ref n0, .ref l0, .ref f0, .ref z0, .ref tp])), (tp, .inr (4, [.int (nI 8192), .ref ta, .int (nI (tc + n))])), (ta, .inl (T 1, ((8192 + 7) / 8), .inr (.inl (pack (app tb tc (vb x) n)))))]) := by
  refine Con.of (by decide) (Nat.le_of_ble_eq_true rfl) ?_
  intro E hE
  refine g_lv (lv' := [(0, .ref me), (1, .int (nI n)), (2, .long x)]) [0, 1, 2] rfl ?_
  refine g_iload_n (pc' := 1) hE 1 rfl rfl dX8_feed_0 rfl ?_
  refine g_iconst (pc' := 2) hE (nI 1) (by decide) dX8_feed_1 rfl ?_
  refine g_icmpN_lt (pc' := 5) (tgt := 11) hE (by omega) (by omega) dX8_feed_2 rfl rfl (fun hc2 => ?_) (fun hc2 => ?_)
  · omega
  refine g_iload_n (pc' := 6) hE 1 rfl rfl dX8_feed_5 rfl ?_
  refine g_bipush (pc' := 8) hE (nI 8) (by decide) dX8_feed_6 rfl ?_
  refine g_icmpN_le (pc' := 11) (tgt := 19) hE (by omega) (by omega) dX8_feed_8 rfl rfl (fun hc8 => ?_) (fun hc8 => ?_)
  rotate_left
  · omega
  refine g_aload_n (pc' := 20) hE 0 rfl rfl dX8_feed_19 rfl ?_
  refine g_get (pc' := 23) hE gcX8 0 rfl 7 (by decide) rfl kX8_14 dX8_feed_20 rfl ?_
  refine g_callV (pc' := 26) (As := []) (rest := []) hE (qX5_count l D T tp ta 8192 tc tb) mX5_count kX8_66 iX5_count sX5_count (by decide) rfl (by decide) 1 rfl rfl [1, 2] rfl (by decide) rfl (Nat.le_of_ble_eq_true rfl) dX8_feed_23 rfl (gBackR [1, 2] rfl ?_)
  rintro _ rfl
  refine g_st (st' := [.int (nI tc)]) rfl ?_
  refine g_iload_n (pc' := 27) hE 1 rfl rfl dX8_feed_26 rfl ?_
  refine g_iadd (pc' := 28) hE dX8_feed_27 rfl ?_
  refine g_eqi (show _ = nI (tc + n) from nI_add _ _) ?_
  refine g_sipush (pc' := 31) hE (nI 8192) (by decide) dX8_feed_28 rfl ?_
  refine g_icmpN_le (pc' := 34) (tgt := 42) hE (by omega) (by omega) dX8_feed_31 rfl rfl (fun hc31 => ?_) (fun hc31 => ?_)
  rotate_left
  · omega
  refine g_aload_n (pc' := 43) hE 0 rfl rfl dX8_feed_42 rfl ?_
  refine g_get (pc' := 46) hE gcX8 0 rfl 7 (by decide) rfl kX8_14 dX8_feed_43 rfl ?_
  refine g_iload_n (pc' := 47) hE 1 rfl rfl dX8_feed_46 rfl ?_
  refine g_lload_n (pc' := 48) hE 2 rfl rfl dX8_feed_47 rfl ?_
  refine g_callV (pc' := 51) (As := [.int (nI n), .long x]) (rest := []) hE (qX5_addLowest l D T tp ta 8192 tc tb n x (by decide) (by omega) htb (by omega)) mX5_addLowest kX8_73 iX5_addLowest sX5_addLowest (by decide) rfl (by decide) 1 rfl rfl [1, 2] rfl (by decide) rfl (Nat.le_of_ble_eq_true rfl) dX8_feed_48 rfl (gBackU [1, 2] rfl (fun v w1 h => by obtain ⟨_, rfl⟩ := h; simp only [List.map_cons, List.map_nil]) ?_)
  rintro _ _ ⟨rfl, rfl⟩
  refine g_w (ws' := [(me, .inr (7, [.ref op, .ref rf, .ref h0, .ref n0, .ref l0, .ref f0, .ref z0, .ref tp])), (tp, .inr (4, [.int (nI 8192), .ref ta, .int (nI (tc + n))])), (ta, .inl (T 1, ((8192 + 7) / 8), .inr (.inl (pack (app tb tc (vb x) n)))))]) (rfl) ?_
  refine g_aload_n (pc' := 52) hE 0 rfl rfl dX8_feed_51 rfl ?_
  refine g_get (pc' := 55) hE gcX8 0 rfl 7 (by decide) rfl kX8_14 dX8_feed_52 rfl ?_
  refine g_callV (pc' := 58) (As := []) (rest := []) hE (qX5_count l D T tp ta 8192 (tc + n) (app tb tc (vb x) n)) mX5_count kX8_66 iX5_count sX5_count (by decide) rfl (by decide) 1 rfl rfl [1, 2] rfl (by decide) rfl (Nat.le_of_ble_eq_true rfl) dX8_feed_55 rfl (gBackR [1, 2] rfl ?_)
  rintro _ rfl
  refine g_st (st' := [.int (nI (tc + n))]) rfl ?_
  exact hE.iret (⟨rfl, rfl⟩) (Nat.zero_le _) (Nat.zero_le _) dX8_feed_58

set_option maxHeartbeats 4000000 in
set_option maxRecDepth 100000 in
theorem qX8_feedX (l : Launch) (D : va_G) (T : Nat → ClassId) (hlt : l.stackTraces = false) (me op oa oc : Nat) (ob : Nat → Nat) (rf er sd it tp ta tc : Nat) (tb : Nat → Nat) (h0 a1 a2 a3 x0 x1 N sg : Nat) (af inf wf : Nat → Nat) (cnt : Nat) (b : Nat → Nat) (n0 s0 s1 s2 s3 s4 : Nat) (sl te pl le fb0 : Nat → Nat) (ns nc fb : Nat) (l0 k0 k1 k2 k3 k4 k5 k6 : Nat) (st to bs bk qu on ba : Nat → Nat) (f0 y0 y1 y2 y3 y4 y5 y6 : Nat) (nw wa fi : Nat → Nat) (sb : Nat → Option Nat) (pa bi fr : Nat → Nat) (cn lb : Nat) (z0 p0 : Nat) (pz : Nat → Nat) (x : Int32) (z : Int64) (hv : ¬ (nI 1 ≤ x ∧ x ≤ nI 8)) : ConT l D T yX8_feed cX8_feed 4 (some .int) 8 1 6 [.ref me, .int x, .long z] [(me, .inr (7, [.ref op, .ref rf, .ref h0, .ref n0, .ref l0, .ref f0, .ref z0, .ref tp]))] xIA := by
  refine ConT.of (by decide) (Nat.le_of_ble_eq_true rfl) ?_
  intro E hE hZ htab hQ
  refine g_lv (lv' := [(0, .ref me), (1, .int x), (2, .long z)]) [0, 1, 2] rfl ?_
  refine g_iload_n (pc' := 1) hE 1 rfl rfl dX8_feed_0 rfl ?_
  refine g_iconst (pc' := 2) hE (nI 1) (by decide) dX8_feed_1 rfl ?_
  refine g_icmp_lt (pc' := 5) (tgt := 11) hE dX8_feed_2 rfl rfl (fun hc2 => ?_) (fun hc2 => ?_)
  · exact g_throw hE hlt hZ htab hQ (by decide) kX8_63 ti_IA ta_IA tb_IA tc_IA hZ.1.2.1 dX8_feed_11 dX8_feed_14 dX8_feed_15 dX8_feed_18 (by decide) (by decide) (by decide) (by decide)
  · refine g_iload_n (pc' := 6) hE 1 rfl rfl dX8_feed_5 rfl ?_
    refine g_bipush (pc' := 8) hE (nI 8) (by decide) dX8_feed_6 rfl ?_
    refine g_icmp_le (pc' := 11) (tgt := 19) hE dX8_feed_8 rfl rfl (fun hc8 => ?_) (fun hc8 => ?_)
    · exact absurd ⟨Int32.not_lt.mp hc2, hc8⟩ hv
    exact g_throw hE hlt hZ htab hQ (by decide) kX8_63 ti_IA ta_IA tb_IA tc_IA hZ.1.2.1 dX8_feed_11 dX8_feed_14 dX8_feed_15 dX8_feed_18 (by decide) (by decide) (by decide) (by decide)

set_option maxHeartbeats 4000000 in
set_option maxRecDepth 100000 in
theorem qX8_feedY (l : Launch) (D : va_G) (T : Nat → ClassId) (hlt : l.stackTraces = false) (me op oa oc : Nat) (ob : Nat → Nat) (rf er sd it tp ta tc : Nat) (tb : Nat → Nat) (h0 a1 a2 a3 x0 x1 N sg : Nat) (af inf wf : Nat → Nat) (cnt : Nat) (b : Nat → Nat) (n0 s0 s1 s2 s3 s4 : Nat) (sl te pl le fb0 : Nat → Nat) (ns nc fb : Nat) (l0 k0 k1 k2 k3 k4 k5 k6 : Nat) (st to bs bk qu on ba : Nat → Nat) (f0 y0 y1 y2 y3 y4 y5 y6 : Nat) (nw wa fi : Nat → Nat) (sb : Nat → Option Nat) (pa bi fr : Nat → Nat) (cn lb : Nat) (z0 p0 : Nat) (pz : Nat → Nat) (n : Nat) (z : Int64) (hn : 1 ≤ n ∧ n ≤ 8) (htc : tc ≤ 8192) (hcp : 8192 < tc + n) : ConT l D T yX8_feed cX8_feed 4 (some .int) 8 1 6 [.ref me, .int (nI n), .long z] [(me, .inr (7, [.ref op, .ref rf, .ref h0, .ref n0, .ref l0, .ref f0, .ref z0, .ref tp])), (tp, .inr (4, [.int (nI 8192), .ref ta, .int (nI tc)])), (ta, .inl (T 1, ((8192 + 7) / 8), .inr (.inl (pack tb))))] xIS := by
  refine ConT.of (by decide) (Nat.le_of_ble_eq_true rfl) ?_
  intro E hE hZ htab hQ
  refine g_lv (lv' := [(0, .ref me), (1, .int (nI n)), (2, .long z)]) [0, 1, 2] rfl ?_
  refine g_iload_n (pc' := 1) hE 1 rfl rfl dX8_feed_0 rfl ?_
  refine g_iconst (pc' := 2) hE (nI 1) (by decide) dX8_feed_1 rfl ?_
  refine g_icmpN_lt (pc' := 5) (tgt := 11) hE (by omega) (by omega) dX8_feed_2 rfl rfl (fun hc2 => ?_) (fun hc2 => ?_)
  · omega
  refine g_iload_n (pc' := 6) hE 1 rfl rfl dX8_feed_5 rfl ?_
  refine g_bipush (pc' := 8) hE (nI 8) (by decide) dX8_feed_6 rfl ?_
  refine g_icmpN_le (pc' := 11) (tgt := 19) hE (by omega) (by omega) dX8_feed_8 rfl rfl (fun hc8 => ?_) (fun hc8 => ?_)
  rotate_left
  · omega
  refine g_aload_n (pc' := 20) hE 0 rfl rfl dX8_feed_19 rfl ?_
  refine g_get (pc' := 23) hE gcX8 0 rfl 7 (by decide) rfl kX8_14 dX8_feed_20 rfl ?_
  refine g_callV (pc' := 26) (As := []) (rest := []) hE (qX5_count l D T tp ta 8192 tc tb) mX5_count kX8_66 iX5_count sX5_count (by decide) rfl (by decide) 1 rfl rfl [1, 2] rfl (by decide) rfl (Nat.le_of_ble_eq_true rfl) dX8_feed_23 rfl (gBackR [1, 2] rfl ?_)
  rintro _ rfl
  refine g_st (st' := [.int (nI tc)]) rfl ?_
  refine g_iload_n (pc' := 27) hE 1 rfl rfl dX8_feed_26 rfl ?_
  refine g_iadd (pc' := 28) hE dX8_feed_27 rfl ?_
  refine g_eqi (show _ = nI (tc + n) from nI_add _ _) ?_
  refine g_sipush (pc' := 31) hE (nI 8192) (by decide) dX8_feed_28 rfl ?_
  refine g_icmpN_le (pc' := 34) (tgt := 42) hE (by omega) (by omega) dX8_feed_31 rfl rfl (fun hc31 => ?_) (fun hc31 => ?_)
  · omega
  exact g_throw hE hlt hZ htab hQ (by decide) kX8_70 ti_IS ta_IS tb_IS tc_IS hZ.1.2.2.1 dX8_feed_34 dX8_feed_37 dX8_feed_38 dX8_feed_41 (by decide) (by decide) (by decide) (by decide)

set_option maxHeartbeats 4000000 in
set_option maxRecDepth 100000 in
theorem qX8_type (l : Launch) (D : va_G) (T : Nat → ClassId) (me op oa oc : Nat) (ob : Nat → Nat) (rf er sd it tp ta tc : Nat) (tb : Nat → Nat) (h0 a1 a2 a3 x0 x1 N sg : Nat) (af inf wf : Nat → Nat) (cnt : Nat) (b : Nat → Nat) (n0 s0 s1 s2 s3 s4 : Nat) (sl te pl le fb0 : Nat → Nat) (ns nc fb : Nat) (l0 k0 k1 k2 k3 k4 k5 k6 : Nat) (st to bs bk qu on ba : Nat → Nat) (f0 y0 y1 y2 y3 y4 y5 y6 : Nat) (nw wa fi : Nat → Nat) (sb : Nat → Option Nat) (pa bi fr : Nat → Nat) (cn lb : Nat) (z0 p0 : Nat) (pz : Nat → Nat) (i w : Nat) (hc : cnt ≤ 8192) (hb : ∀ i, b i < 256) (hT : TyArr (cut b cnt) N af inf wf) (hN2 : N ≤ 200) (hNm : NamesOK (cut b cnt) N sg sl te pl le fb0 ns nc fb) (hLk : LinksOK (cut b cnt) N st to bs bk) (hFo : FoldOK (cut b cnt) sg N nw fi pa bi fr cn lb) (hFB : FB nw wa fi sb pa bi fr) (h1i : 1 ≤ i) (h2i : i ≤ N) (hw : w ≤ 7) : Con l D T yX8_type cX8_type 3 (some .long) 8 0 0 [.ref me, .int (nI i), .int (nI w)] [(me, .inr (7, [.ref op, .ref rf, .ref h0, .ref n0, .ref l0, .ref f0, .ref z0, .ref tp])), (h0, .inr (6, [.ref a1, .ref a2, .ref a3, .ref x0, .int (nI N), .int (nI sg)])), (a1, .inl (T 0, 201, .inl (fun z9 => nI (af z9)))), (a2, .inl (T 1, 201, .inr (.inl (fun z9 => lN (inf z9))))), (a3, .inl (T 0, 201, .inl (fun z9 => nI (wf z9)))), (x0, .inr (4, [.int (nI 8192), .ref x1, .int (nI cnt)])), (x1, .inl (T 1, ((8192 + 7) / 8), .inr (.inl (pack b)))), (n0, .inr (2, [.ref s0, .ref s1, .ref s2, .ref s3, .ref s4, .int (nI ns), .int (nI nc), .int (nI fb)])), (s0, .inl (T 0, 201, .inl (fun z9 => nI (sl z9)))), (s1, .inl (T 0, 800, .inl (fun z9 => nI (te z9)))), (s2, .inl (T 0, 801, .inl (fun z9 => nI (pl z9)))), (s3, .inl (T 0, 801, .inl (fun z9 => nI (le z9)))), (s4, .inl (T 0, 801, .inl (fun z9 => nI (fb0 z9)))), (l0, .inr (1, [.ref k0, .ref k1, .ref k2, .ref k3, .ref k4, .ref k5, .ref k6])), (k0, .inl (T 0, 202, .inl (fun z9 => nI (st z9)))), (k1, .inl (T 0, 1000, .inl (fun z9 => nI (to z9)))), (k2, .inl (T 0, 202, .inl (fun z9 => nI (bs z9)))), (k3, .inl (T 0, 1000, .inl (fun z9 => nI (bk z9)))), (k4, .inl (T 0, 201, .inl (fun z9 => nI (qu z9)))), (k5, .inl (T 2, 201, .inl (fun z9 => nI (on z9)))), (k6, .inl (T 2, 201, .inl (fun z9 => nI (ba z9)))), (f0, .inr (0, [.ref y0, .ref y1, .ref y2, .ref y3, .ref y4, .ref y5, .ref y6, .int (nI cn), .int (nI lb)])), (y0, .inl (T 0, 201, .inl (fun z9 => nI (nw z9)))), (y1, .inl (T 0, 201, .inl (fun z9 => nI (wa z9)))), (y2, .inl (T 0, 201, .inl (fun z9 => nI (fi z9)))), (y3, .inl (T 0, 201, .inl (fun z9 => oI (sb z9)))), (y4, .inl (T 0, 201, .inl (fun z9 => nI (pa z9)))), (y5, .inl (T 0, 201, .inl (fun z9 => nI (bi z9)))), (y6, .inl (T 0, 201, .inl (fun z9 => nI (fr z9))))] (fun v w1 => w1 = [(me, .inr (7, [.ref op, .ref rf, .ref h0, .ref n0, .ref l0, .ref f0, .ref z0, .ref tp])), (h0, .inr (6, [.ref a1, .ref a2, .ref a3, .ref x0, .int (nI N), .int (nI sg)])), (a1, .inl (T 0, 201, .inl (fun z9 => nI (af z9)))), (a2, .inl (T 1, 201, .inr (.inl (fun z9 => lN (inf z9))))), (a3, .inl (T 0, 201, .inl (fun z9 => nI (wf z9)))), (x0, .inr (4, [.int (nI 8192), .ref x1, .int (nI cnt)])), (x1, .inl (T 1, ((8192 + 7) / 8), .inr (.inl (pack b)))), (n0, .inr (2, [.ref s0, .ref s1, .ref s2, .ref s3, .ref s4, .int (nI ns), .int (nI nc), .int (nI fb)])), (s0, .inl (T 0, 201, .inl (fun z9 => nI (sl z9)))), (s1, .inl (T 0, 800, .inl (fun z9 => nI (te z9)))), (s2, .inl (T 0, 801, .inl (fun z9 => nI (pl z9)))), (s3, .inl (T 0, 801, .inl (fun z9 => nI (le z9)))), (s4, .inl (T 0, 801, .inl (fun z9 => nI (fb0 z9)))), (l0, .inr (1, [.ref k0, .ref k1, .ref k2, .ref k3, .ref k4, .ref k5, .ref k6])), (k0, .inl (T 0, 202, .inl (fun z9 => nI (st z9)))), (k1, .inl (T 0, 1000, .inl (fun z9 => nI (to z9)))), (k2, .inl (T 0, 202, .inl (fun z9 => nI (bs z9)))), (k3, .inl (T 0, 1000, .inl (fun z9 => nI (bk z9)))), (k4, .inl (T 0, 201, .inl (fun z9 => nI (qu z9)))), (k5, .inl (T 2, 201, .inl (fun z9 => nI (on z9)))), (k6, .inl (T 2, 201, .inl (fun z9 => nI (ba z9)))), (f0, .inr (0, [.ref y0, .ref y1, .ref y2, .ref y3, .ref y4, .ref y5, .ref y6, .int (nI cn), .int (nI lb)])), (y0, .inl (T 0, 201, .inl (fun z9 => nI (nw z9)))), (y1, .inl (T 0, 201, .inl (fun z9 => nI (wa z9)))), (y2, .inl (T 0, 201, .inl (fun z9 => nI (fi z9)))), (y3, .inl (T 0, 201, .inl (fun z9 => oI (sb z9)))), (y4, .inl (T 0, 201, .inl (fun z9 => nI (pa z9)))), (y5, .inl (T 0, 201, .inl (fun z9 => nI (bi z9)))), (y6, .inl (T 0, 201, .inl (fun z9 => nI (fr z9))))] ∧ v = some (.long (lN (tyA (cut b cnt) sg (fun i => fi (nw i)) (fun i => fr (fi (nw i))) i w)))) := by
  refine Con.of (by decide) (Nat.le_of_ble_eq_true rfl) ?_
  intro E hE
  obtain ⟨m, hm⟩ : ∃ m, i = m + 1 := ⟨i - 1, by omega⟩
  obtain ⟨o1, o2, o3, o4, o5⟩ := hNm.own (show m < N by omega)
  rw [← hm] at o1 o2 o3 o4 o5
  have hns8 := hNm.2.2.2.2
  have hsl8 := hNm.2.2.2.1
  have hnc8 := hNm.2.1.1.1.2.2
  have hlf := (lfr_cut (b := b) (s := sg + wdT (cut b cnt) i 0) hc).1
  have hk9 := kd_lt (inft (cut b cnt) i)
  have ht9 := tl_lt (inft (cut b cnt) i)
  have hf9 := fl_lt (inft (cut b cnt) i)
  have hr9 := (hLk.at h1i h2i).1
  have hrl : nrT (cut b cnt) i ≤ 2 + ic (inft (cut b cnt) i) := refs_len _ _
  have hil := ic_lt (inft (cut b cnt) i)
  have hti := (hT.2 i h1i h2i)
  have hld := (hFB.1 (nw i)).2.2.1
  have hfr := (hFB.1 (fi (nw i))).2.2.2.2.2
  refine g_lv (lv' := [(0, .ref me), (1, .int (nI i)), (2, .int (nI w))]) [0, 1, 2] rfl ?_
  refine g_aload_n (pc' := 1) hE 0 rfl rfl dX8_type_0 rfl ?_
  refine g_get (pc' := 4) hE gcX8 0 rfl 2 (by decide) rfl kX8_31 dX8_type_1 rfl ?_
  refine g_iload_n (pc' := 5) hE 1 rfl rfl dX8_type_4 rfl ?_
  refine g_callV (pc' := 8) (As := [.int (nI i)]) (rest := []) hE (qX7_has l D T h0 a1 a2 a3 x0 N sg af inf wf i hN2 (by omega)) mX7_has kX8_97 iX7_has sX7_has (by decide) rfl (by decide) 1 rfl rfl [1, 2, 3, 4] rfl (by decide) rfl (Nat.le_of_ble_eq_true rfl) dX8_type_5 rfl (gBackR [1, 2, 3, 4] rfl ?_)
  rintro _ rfl
  refine g_st (st' := [.int (bI (hasB i N))]) rfl ?_
  refine g_ifB_ne (pc' := 11) (tgt := 19) hE dX8_type_8 rfl rfl (fun hc8 => ?_) (fun hc8 => ?_)
  rotate_left
  · exact absurd hc8 (by rw [show hasB i N = true from decide_eq_true ⟨by omega, by omega⟩]; decide)
  refine g_iload_n (pc' := 20) hE 2 rfl rfl dX8_type_19 rfl ?_
  have hs20_68 : (w = 0) → G l E D 3 0 0 [(me, .inr (7, [.ref op, .ref rf, .ref h0, .ref n0, .ref l0, .ref f0, .ref z0, .ref tp])), (h0, .inr (6, [.ref a1, .ref a2, .ref a3, .ref x0, .int (nI N), .int (nI sg)])), (a1, .inl (T 0, 201, .inl (fun z9 => nI (af z9)))), (a2, .inl (T 1, 201, .inr (.inl (fun z9 => lN (inf z9))))), (a3, .inl (T 0, 201, .inl (fun z9 => nI (wf z9)))), (x0, .inr (4, [.int (nI 8192), .ref x1, .int (nI cnt)])), (x1, .inl (T 1, ((8192 + 7) / 8), .inr (.inl (pack b)))), (n0, .inr (2, [.ref s0, .ref s1, .ref s2, .ref s3, .ref s4, .int (nI ns), .int (nI nc), .int (nI fb)])), (s0, .inl (T 0, 201, .inl (fun z9 => nI (sl z9)))), (s1, .inl (T 0, 800, .inl (fun z9 => nI (te z9)))), (s2, .inl (T 0, 801, .inl (fun z9 => nI (pl z9)))), (s3, .inl (T 0, 801, .inl (fun z9 => nI (le z9)))), (s4, .inl (T 0, 801, .inl (fun z9 => nI (fb0 z9)))), (l0, .inr (1, [.ref k0, .ref k1, .ref k2, .ref k3, .ref k4, .ref k5, .ref k6])), (k0, .inl (T 0, 202, .inl (fun z9 => nI (st z9)))), (k1, .inl (T 0, 1000, .inl (fun z9 => nI (to z9)))), (k2, .inl (T 0, 202, .inl (fun z9 => nI (bs z9)))), (k3, .inl (T 0, 1000, .inl (fun z9 => nI (bk z9)))), (k4, .inl (T 0, 201, .inl (fun z9 => nI (qu z9)))), (k5, .inl (T 2, 201, .inl (fun z9 => nI (on z9)))), (k6, .inl (T 2, 201, .inl (fun z9 => nI (ba z9)))), (f0, .inr (0, [.ref y0, .ref y1, .ref y2, .ref y3, .ref y4, .ref y5, .ref y6, .int (nI cn), .int (nI lb)])), (y0, .inl (T 0, 201, .inl (fun z9 => nI (nw z9)))), (y1, .inl (T 0, 201, .inl (fun z9 => nI (wa z9)))), (y2, .inl (T 0, 201, .inl (fun z9 => nI (fi z9)))), (y3, .inl (T 0, 201, .inl (fun z9 => oI (sb z9)))), (y4, .inl (T 0, 201, .inl (fun z9 => nI (pa z9)))), (y5, .inl (T 0, 201, .inl (fun z9 => nI (bi z9)))), (y6, .inl (T 0, 201, .inl (fun z9 => nI (fr z9))))] [(0, .ref me), (1, .int (nI i)), (2, .int (nI w))] 68 [] := by
    intro hsw20
    refine g_aload_n (pc' := 69) hE 0 rfl rfl dX8_type_68 rfl ?_
    refine g_get (pc' := 72) hE gcX8 0 rfl 2 (by decide) rfl kX8_31 dX8_type_69 rfl ?_
    refine g_iload_n (pc' := 73) hE 1 rfl rfl dX8_type_72 rfl ?_
    refine g_callV (pc' := 76) (As := [.int (nI i)]) (rest := []) hE (qX7_kind l D T h0 a1 a2 a3 x0 N sg af inf wf i hN2 hT.1 (by omega)) mX7_kind kX8_104 iX7_kind sX7_kind (by decide) rfl (by decide) 1 rfl rfl [1, 2, 3, 4] rfl (by decide) rfl (Nat.le_of_ble_eq_true rfl) dX8_type_73 rfl (gBackR [1, 2, 3, 4] rfl ?_)
    rintro _ rfl
    refine g_st (st' := [.int (nI (hv N i (kd (inf i))))]) rfl ?_
    refine g_eqi (show _ = nI (kd (inft (cut b cnt) i)) from by rw [hv_in _ h1i h2i, hti.2.1]) ?_
    refine g_i2l (pc' := 77) hE (lN (kd (inft (cut b cnt) i))) (nI_l (by omega)) dX8_type_76 rfl ?_
    exact hE.lret (⟨rfl, by unfold tyA; repeat (first | rfl | rw [if_pos (by omega)] | rw [if_neg (by omega)])⟩) (Nat.zero_le _) (Nat.zero_le _) dX8_type_77
  have hs20_78 : (w = 1) → G l E D 3 0 0 [(me, .inr (7, [.ref op, .ref rf, .ref h0, .ref n0, .ref l0, .ref f0, .ref z0, .ref tp])), (h0, .inr (6, [.ref a1, .ref a2, .ref a3, .ref x0, .int (nI N), .int (nI sg)])), (a1, .inl (T 0, 201, .inl (fun z9 => nI (af z9)))), (a2, .inl (T 1, 201, .inr (.inl (fun z9 => lN (inf z9))))), (a3, .inl (T 0, 201, .inl (fun z9 => nI (wf z9)))), (x0, .inr (4, [.int (nI 8192), .ref x1, .int (nI cnt)])), (x1, .inl (T 1, ((8192 + 7) / 8), .inr (.inl (pack b)))), (n0, .inr (2, [.ref s0, .ref s1, .ref s2, .ref s3, .ref s4, .int (nI ns), .int (nI nc), .int (nI fb)])), (s0, .inl (T 0, 201, .inl (fun z9 => nI (sl z9)))), (s1, .inl (T 0, 800, .inl (fun z9 => nI (te z9)))), (s2, .inl (T 0, 801, .inl (fun z9 => nI (pl z9)))), (s3, .inl (T 0, 801, .inl (fun z9 => nI (le z9)))), (s4, .inl (T 0, 801, .inl (fun z9 => nI (fb0 z9)))), (l0, .inr (1, [.ref k0, .ref k1, .ref k2, .ref k3, .ref k4, .ref k5, .ref k6])), (k0, .inl (T 0, 202, .inl (fun z9 => nI (st z9)))), (k1, .inl (T 0, 1000, .inl (fun z9 => nI (to z9)))), (k2, .inl (T 0, 202, .inl (fun z9 => nI (bs z9)))), (k3, .inl (T 0, 1000, .inl (fun z9 => nI (bk z9)))), (k4, .inl (T 0, 201, .inl (fun z9 => nI (qu z9)))), (k5, .inl (T 2, 201, .inl (fun z9 => nI (on z9)))), (k6, .inl (T 2, 201, .inl (fun z9 => nI (ba z9)))), (f0, .inr (0, [.ref y0, .ref y1, .ref y2, .ref y3, .ref y4, .ref y5, .ref y6, .int (nI cn), .int (nI lb)])), (y0, .inl (T 0, 201, .inl (fun z9 => nI (nw z9)))), (y1, .inl (T 0, 201, .inl (fun z9 => nI (wa z9)))), (y2, .inl (T 0, 201, .inl (fun z9 => nI (fi z9)))), (y3, .inl (T 0, 201, .inl (fun z9 => oI (sb z9)))), (y4, .inl (T 0, 201, .inl (fun z9 => nI (pa z9)))), (y5, .inl (T 0, 201, .inl (fun z9 => nI (bi z9)))), (y6, .inl (T 0, 201, .inl (fun z9 => nI (fr z9))))] [(0, .ref me), (1, .int (nI i)), (2, .int (nI w))] 78 [] := by
    intro hsw20
    refine g_aload_n (pc' := 79) hE 0 rfl rfl dX8_type_78 rfl ?_
    refine g_get (pc' := 82) hE gcX8 0 rfl 2 (by decide) rfl kX8_31 dX8_type_79 rfl ?_
    refine g_iload_n (pc' := 83) hE 1 rfl rfl dX8_type_82 rfl ?_
    refine g_callV (pc' := 86) (As := [.int (nI i)]) (rest := []) hE (qX7_tally l D T h0 a1 a2 a3 x0 N sg af inf wf i hN2 hT.1 (by omega)) mX7_tally kX8_108 iX7_tally sX7_tally (by decide) rfl (by decide) 1 rfl rfl [1, 2, 3, 4] rfl (by decide) rfl (Nat.le_of_ble_eq_true rfl) dX8_type_83 rfl (gBackR [1, 2, 3, 4] rfl ?_)
    rintro _ rfl
    refine g_st (st' := [.int (nI (hv N i (tl (inf i))))]) rfl ?_
    refine g_eqi (show _ = nI (tl (inft (cut b cnt) i)) from by rw [hv_in _ h1i h2i, hti.2.1]) ?_
    refine g_i2l (pc' := 87) hE (lN (tl (inft (cut b cnt) i))) (nI_l (by omega)) dX8_type_86 rfl ?_
    exact hE.lret (⟨rfl, by unfold tyA; repeat (first | rfl | rw [if_pos (by omega)] | rw [if_neg (by omega)])⟩) (Nat.zero_le _) (Nat.zero_le _) dX8_type_87
  have hs20_88 : (w = 2) → G l E D 3 0 0 [(me, .inr (7, [.ref op, .ref rf, .ref h0, .ref n0, .ref l0, .ref f0, .ref z0, .ref tp])), (h0, .inr (6, [.ref a1, .ref a2, .ref a3, .ref x0, .int (nI N), .int (nI sg)])), (a1, .inl (T 0, 201, .inl (fun z9 => nI (af z9)))), (a2, .inl (T 1, 201, .inr (.inl (fun z9 => lN (inf z9))))), (a3, .inl (T 0, 201, .inl (fun z9 => nI (wf z9)))), (x0, .inr (4, [.int (nI 8192), .ref x1, .int (nI cnt)])), (x1, .inl (T 1, ((8192 + 7) / 8), .inr (.inl (pack b)))), (n0, .inr (2, [.ref s0, .ref s1, .ref s2, .ref s3, .ref s4, .int (nI ns), .int (nI nc), .int (nI fb)])), (s0, .inl (T 0, 201, .inl (fun z9 => nI (sl z9)))), (s1, .inl (T 0, 800, .inl (fun z9 => nI (te z9)))), (s2, .inl (T 0, 801, .inl (fun z9 => nI (pl z9)))), (s3, .inl (T 0, 801, .inl (fun z9 => nI (le z9)))), (s4, .inl (T 0, 801, .inl (fun z9 => nI (fb0 z9)))), (l0, .inr (1, [.ref k0, .ref k1, .ref k2, .ref k3, .ref k4, .ref k5, .ref k6])), (k0, .inl (T 0, 202, .inl (fun z9 => nI (st z9)))), (k1, .inl (T 0, 1000, .inl (fun z9 => nI (to z9)))), (k2, .inl (T 0, 202, .inl (fun z9 => nI (bs z9)))), (k3, .inl (T 0, 1000, .inl (fun z9 => nI (bk z9)))), (k4, .inl (T 0, 201, .inl (fun z9 => nI (qu z9)))), (k5, .inl (T 2, 201, .inl (fun z9 => nI (on z9)))), (k6, .inl (T 2, 201, .inl (fun z9 => nI (ba z9)))), (f0, .inr (0, [.ref y0, .ref y1, .ref y2, .ref y3, .ref y4, .ref y5, .ref y6, .int (nI cn), .int (nI lb)])), (y0, .inl (T 0, 201, .inl (fun z9 => nI (nw z9)))), (y1, .inl (T 0, 201, .inl (fun z9 => nI (wa z9)))), (y2, .inl (T 0, 201, .inl (fun z9 => nI (fi z9)))), (y3, .inl (T 0, 201, .inl (fun z9 => oI (sb z9)))), (y4, .inl (T 0, 201, .inl (fun z9 => nI (pa z9)))), (y5, .inl (T 0, 201, .inl (fun z9 => nI (bi z9)))), (y6, .inl (T 0, 201, .inl (fun z9 => nI (fr z9))))] [(0, .ref me), (1, .int (nI i)), (2, .int (nI w))] 88 [] := by
    intro hsw20
    refine g_aload_n (pc' := 89) hE 0 rfl rfl dX8_type_88 rfl ?_
    refine g_get (pc' := 92) hE gcX8 0 rfl 2 (by decide) rfl kX8_31 dX8_type_89 rfl ?_
    refine g_iload_n (pc' := 93) hE 1 rfl rfl dX8_type_92 rfl ?_
    refine g_callV (pc' := 96) (As := [.int (nI i)]) (rest := []) hE (qX7_flag l D T h0 a1 a2 a3 x0 N sg af inf wf i hN2 hT.1 (by omega)) mX7_flag kX8_111 iX7_flag sX7_flag (by decide) rfl (by decide) 1 rfl rfl [1, 2, 3, 4] rfl (by decide) rfl (Nat.le_of_ble_eq_true rfl) dX8_type_93 rfl (gBackR [1, 2, 3, 4] rfl ?_)
    rintro _ rfl
    refine g_st (st' := [.int (nI (hv N i (fl (inf i))))]) rfl ?_
    refine g_eqi (show _ = nI (fl (inft (cut b cnt) i)) from by rw [hv_in _ h1i h2i, hti.2.1]) ?_
    refine g_i2l (pc' := 97) hE (lN (fl (inft (cut b cnt) i))) (nI_l (by omega)) dX8_type_96 rfl ?_
    exact hE.lret (⟨rfl, by unfold tyA; repeat (first | rfl | rw [if_pos (by omega)] | rw [if_neg (by omega)])⟩) (Nat.zero_le _) (Nat.zero_le _) dX8_type_97
  have hs20_98 : (w = 3) → G l E D 3 0 0 [(me, .inr (7, [.ref op, .ref rf, .ref h0, .ref n0, .ref l0, .ref f0, .ref z0, .ref tp])), (h0, .inr (6, [.ref a1, .ref a2, .ref a3, .ref x0, .int (nI N), .int (nI sg)])), (a1, .inl (T 0, 201, .inl (fun z9 => nI (af z9)))), (a2, .inl (T 1, 201, .inr (.inl (fun z9 => lN (inf z9))))), (a3, .inl (T 0, 201, .inl (fun z9 => nI (wf z9)))), (x0, .inr (4, [.int (nI 8192), .ref x1, .int (nI cnt)])), (x1, .inl (T 1, ((8192 + 7) / 8), .inr (.inl (pack b)))), (n0, .inr (2, [.ref s0, .ref s1, .ref s2, .ref s3, .ref s4, .int (nI ns), .int (nI nc), .int (nI fb)])), (s0, .inl (T 0, 201, .inl (fun z9 => nI (sl z9)))), (s1, .inl (T 0, 800, .inl (fun z9 => nI (te z9)))), (s2, .inl (T 0, 801, .inl (fun z9 => nI (pl z9)))), (s3, .inl (T 0, 801, .inl (fun z9 => nI (le z9)))), (s4, .inl (T 0, 801, .inl (fun z9 => nI (fb0 z9)))), (l0, .inr (1, [.ref k0, .ref k1, .ref k2, .ref k3, .ref k4, .ref k5, .ref k6])), (k0, .inl (T 0, 202, .inl (fun z9 => nI (st z9)))), (k1, .inl (T 0, 1000, .inl (fun z9 => nI (to z9)))), (k2, .inl (T 0, 202, .inl (fun z9 => nI (bs z9)))), (k3, .inl (T 0, 1000, .inl (fun z9 => nI (bk z9)))), (k4, .inl (T 0, 201, .inl (fun z9 => nI (qu z9)))), (k5, .inl (T 2, 201, .inl (fun z9 => nI (on z9)))), (k6, .inl (T 2, 201, .inl (fun z9 => nI (ba z9)))), (f0, .inr (0, [.ref y0, .ref y1, .ref y2, .ref y3, .ref y4, .ref y5, .ref y6, .int (nI cn), .int (nI lb)])), (y0, .inl (T 0, 201, .inl (fun z9 => nI (nw z9)))), (y1, .inl (T 0, 201, .inl (fun z9 => nI (wa z9)))), (y2, .inl (T 0, 201, .inl (fun z9 => nI (fi z9)))), (y3, .inl (T 0, 201, .inl (fun z9 => oI (sb z9)))), (y4, .inl (T 0, 201, .inl (fun z9 => nI (pa z9)))), (y5, .inl (T 0, 201, .inl (fun z9 => nI (bi z9)))), (y6, .inl (T 0, 201, .inl (fun z9 => nI (fr z9))))] [(0, .ref me), (1, .int (nI i)), (2, .int (nI w))] 98 [] := by
    intro hsw20
    refine g_aload_n (pc' := 99) hE 0 rfl rfl dX8_type_98 rfl ?_
    refine g_get (pc' := 102) hE gcX8 0 rfl 2 (by decide) rfl kX8_31 dX8_type_99 rfl ?_
    refine g_iload_n (pc' := 103) hE 1 rfl rfl dX8_type_102 rfl ?_
    refine g_iconst (pc' := 104) hE (nI 2) (by decide) dX8_type_103 rfl ?_
    refine g_callV (pc' := 107) (As := [.int (nI i), .int (nI 2)]) (rest := []) hE (qX7_word l D T h0 a1 a2 a3 x0 N sg af inf wf x1 cnt b i 2 hN2 hT.1 (by omega) (by decide) hc hb) mX7_word kX8_114 iX7_word sX7_word (by decide) rfl (by decide) 1 rfl rfl [1, 2, 3, 4, 5, 6] rfl (by decide) rfl (Nat.le_of_ble_eq_true rfl) dX8_type_104 rfl (gBackR [1, 2, 3, 4, 5, 6] rfl ?_)
    rintro _ rfl
    refine g_st (st' := [.long (lN (hv N i (num (cut b cnt) (af i + 4 * 2) 4)))]) rfl ?_
    refine g_eql (show _ = lN (wdT (cut b cnt) i 2) from by rw [hT.word, hv_in _ h1i h2i]) ?_
    exact hE.lret (⟨rfl, by unfold tyA; repeat (first | rfl | rw [if_pos (by omega)] | rw [if_neg (by omega)])⟩) (Nat.zero_le _) (Nat.zero_le _) dX8_type_107
  have hs20_108 : (w = 4) → G l E D 3 0 0 [(me, .inr (7, [.ref op, .ref rf, .ref h0, .ref n0, .ref l0, .ref f0, .ref z0, .ref tp])), (h0, .inr (6, [.ref a1, .ref a2, .ref a3, .ref x0, .int (nI N), .int (nI sg)])), (a1, .inl (T 0, 201, .inl (fun z9 => nI (af z9)))), (a2, .inl (T 1, 201, .inr (.inl (fun z9 => lN (inf z9))))), (a3, .inl (T 0, 201, .inl (fun z9 => nI (wf z9)))), (x0, .inr (4, [.int (nI 8192), .ref x1, .int (nI cnt)])), (x1, .inl (T 1, ((8192 + 7) / 8), .inr (.inl (pack b)))), (n0, .inr (2, [.ref s0, .ref s1, .ref s2, .ref s3, .ref s4, .int (nI ns), .int (nI nc), .int (nI fb)])), (s0, .inl (T 0, 201, .inl (fun z9 => nI (sl z9)))), (s1, .inl (T 0, 800, .inl (fun z9 => nI (te z9)))), (s2, .inl (T 0, 801, .inl (fun z9 => nI (pl z9)))), (s3, .inl (T 0, 801, .inl (fun z9 => nI (le z9)))), (s4, .inl (T 0, 801, .inl (fun z9 => nI (fb0 z9)))), (l0, .inr (1, [.ref k0, .ref k1, .ref k2, .ref k3, .ref k4, .ref k5, .ref k6])), (k0, .inl (T 0, 202, .inl (fun z9 => nI (st z9)))), (k1, .inl (T 0, 1000, .inl (fun z9 => nI (to z9)))), (k2, .inl (T 0, 202, .inl (fun z9 => nI (bs z9)))), (k3, .inl (T 0, 1000, .inl (fun z9 => nI (bk z9)))), (k4, .inl (T 0, 201, .inl (fun z9 => nI (qu z9)))), (k5, .inl (T 2, 201, .inl (fun z9 => nI (on z9)))), (k6, .inl (T 2, 201, .inl (fun z9 => nI (ba z9)))), (f0, .inr (0, [.ref y0, .ref y1, .ref y2, .ref y3, .ref y4, .ref y5, .ref y6, .int (nI cn), .int (nI lb)])), (y0, .inl (T 0, 201, .inl (fun z9 => nI (nw z9)))), (y1, .inl (T 0, 201, .inl (fun z9 => nI (wa z9)))), (y2, .inl (T 0, 201, .inl (fun z9 => nI (fi z9)))), (y3, .inl (T 0, 201, .inl (fun z9 => oI (sb z9)))), (y4, .inl (T 0, 201, .inl (fun z9 => nI (pa z9)))), (y5, .inl (T 0, 201, .inl (fun z9 => nI (bi z9)))), (y6, .inl (T 0, 201, .inl (fun z9 => nI (fr z9))))] [(0, .ref me), (1, .int (nI i)), (2, .int (nI w))] 108 [] := by
    intro hsw20
    refine g_aload_n (pc' := 109) hE 0 rfl rfl dX8_type_108 rfl ?_
    refine g_get (pc' := 112) hE gcX8 0 rfl 4 (by decide) rfl kX8_45 dX8_type_109 rfl ?_
    refine g_iload_n (pc' := 113) hE 1 rfl rfl dX8_type_112 rfl ?_
    refine g_callV (pc' := 116) (As := [.int (nI i)]) (rest := []) hE (qX2_tally l D T l0 k0 k1 k2 k3 k4 k5 k6 st to bs bk qu on ba i (by omega) ((hLk.at h1i h2i).2.1)) mX2_tally kX8_118 iX2_tally sX2_tally (by decide) rfl (by decide) 13 rfl rfl [13, 14, 15, 16, 17, 18, 19, 20] rfl (by decide) rfl (Nat.le_of_ble_eq_true rfl) dX8_type_113 rfl (gBackR [13, 14, 15, 16, 17, 18, 19, 20] rfl ?_)
    rintro _ rfl
    refine g_st (st' := [.int (nI (st (i + 1) - st i))]) rfl ?_
    refine g_eqi (show _ = nI (nrT (cut b cnt) i) from by rw [hr9]) ?_
    refine g_i2l (pc' := 117) hE (lN (nrT (cut b cnt) i)) (nI_l (by omega)) dX8_type_116 rfl ?_
    exact hE.lret (⟨rfl, by unfold tyA; repeat (first | rfl | rw [if_pos (by omega)] | rw [if_neg (by omega)])⟩) (Nat.zero_le _) (Nat.zero_le _) dX8_type_117
  have hs20_118 : (w = 5) → G l E D 3 0 0 [(me, .inr (7, [.ref op, .ref rf, .ref h0, .ref n0, .ref l0, .ref f0, .ref z0, .ref tp])), (h0, .inr (6, [.ref a1, .ref a2, .ref a3, .ref x0, .int (nI N), .int (nI sg)])), (a1, .inl (T 0, 201, .inl (fun z9 => nI (af z9)))), (a2, .inl (T 1, 201, .inr (.inl (fun z9 => lN (inf z9))))), (a3, .inl (T 0, 201, .inl (fun z9 => nI (wf z9)))), (x0, .inr (4, [.int (nI 8192), .ref x1, .int (nI cnt)])), (x1, .inl (T 1, ((8192 + 7) / 8), .inr (.inl (pack b)))), (n0, .inr (2, [.ref s0, .ref s1, .ref s2, .ref s3, .ref s4, .int (nI ns), .int (nI nc), .int (nI fb)])), (s0, .inl (T 0, 201, .inl (fun z9 => nI (sl z9)))), (s1, .inl (T 0, 800, .inl (fun z9 => nI (te z9)))), (s2, .inl (T 0, 801, .inl (fun z9 => nI (pl z9)))), (s3, .inl (T 0, 801, .inl (fun z9 => nI (le z9)))), (s4, .inl (T 0, 801, .inl (fun z9 => nI (fb0 z9)))), (l0, .inr (1, [.ref k0, .ref k1, .ref k2, .ref k3, .ref k4, .ref k5, .ref k6])), (k0, .inl (T 0, 202, .inl (fun z9 => nI (st z9)))), (k1, .inl (T 0, 1000, .inl (fun z9 => nI (to z9)))), (k2, .inl (T 0, 202, .inl (fun z9 => nI (bs z9)))), (k3, .inl (T 0, 1000, .inl (fun z9 => nI (bk z9)))), (k4, .inl (T 0, 201, .inl (fun z9 => nI (qu z9)))), (k5, .inl (T 2, 201, .inl (fun z9 => nI (on z9)))), (k6, .inl (T 2, 201, .inl (fun z9 => nI (ba z9)))), (f0, .inr (0, [.ref y0, .ref y1, .ref y2, .ref y3, .ref y4, .ref y5, .ref y6, .int (nI cn), .int (nI lb)])), (y0, .inl (T 0, 201, .inl (fun z9 => nI (nw z9)))), (y1, .inl (T 0, 201, .inl (fun z9 => nI (wa z9)))), (y2, .inl (T 0, 201, .inl (fun z9 => nI (fi z9)))), (y3, .inl (T 0, 201, .inl (fun z9 => oI (sb z9)))), (y4, .inl (T 0, 201, .inl (fun z9 => nI (pa z9)))), (y5, .inl (T 0, 201, .inl (fun z9 => nI (bi z9)))), (y6, .inl (T 0, 201, .inl (fun z9 => nI (fr z9))))] [(0, .ref me), (1, .int (nI i)), (2, .int (nI w))] 118 [] := by
    intro hsw20
    refine g_aload_n (pc' := 119) hE 0 rfl rfl dX8_type_118 rfl ?_
    refine g_get (pc' := 122) hE gcX8 0 rfl 3 (by decide) rfl kX8_38 dX8_type_119 rfl ?_
    refine g_aload_n (pc' := 123) hE 0 rfl rfl dX8_type_122 rfl ?_
    refine g_get (pc' := 126) hE gcX8 0 rfl 3 (by decide) rfl kX8_38 dX8_type_123 rfl ?_
    refine g_iload_n (pc' := 127) hE 1 rfl rfl dX8_type_126 rfl ?_
    refine g_callV (pc' := 130) (As := [.int (nI i)]) (rest := [.ref n0]) hE (qX3_own l D T n0 s0 s1 s2 s3 s4 sl te pl le fb0 ns nc fb i hns8 hsl8 (by omega)) mX3_own kX8_119 iX3_own sX3_own (by decide) rfl (by decide) 7 rfl rfl [7, 8, 9, 10, 11, 12] rfl (by decide) rfl (Nat.le_of_ble_eq_true rfl) dX8_type_127 rfl (gBackR [7, 8, 9, 10, 11, 12] rfl ?_)
    rintro _ rfl
    refine g_st (st' := [.int (nI (if hv 200 i (sl i) < ns then te (hv 200 i (sl i)) else 0)), .ref n0]) rfl ?_
    refine g_eqi (show _ = nI (te (sl i)) from by rw [hv_in _ (by omega) (by omega), if_pos o1]) ?_
    refine g_callV (pc' := 133) (As := [.int (nI (te (sl i)))]) (rest := []) hE (qX3_letters l D T n0 s0 s1 s2 s3 s4 sl te pl le fb0 ns nc fb (te (sl i)) hnc8 (by omega)) mX3_letters kX8_122 iX3_letters sX3_letters (by decide) rfl (by decide) 7 rfl rfl [7, 8, 9, 10, 11, 12] rfl (by decide) rfl (Nat.le_of_ble_eq_true rfl) dX8_type_130 rfl (gBackR [7, 8, 9, 10, 11, 12] rfl ?_)
    rintro _ rfl
    refine g_st (st' := [.int (nI (hv nc (te (sl i)) (le (te (sl i)))))]) rfl ?_
    refine g_eqi (show _ = nI (lfr (cut b cnt) (sg + wdT (cut b cnt) i 0)) from by rw [o3]) ?_
    refine g_i2l (pc' := 134) hE (lN (lfr (cut b cnt) (sg + wdT (cut b cnt) i 0))) (nI_l (by omega)) dX8_type_133 rfl ?_
    exact hE.lret (⟨rfl, by unfold tyA; repeat (first | rfl | rw [if_pos (by omega)] | rw [if_neg (by omega)])⟩) (Nat.zero_le _) (Nat.zero_le _) dX8_type_134
  have hs20_135 : (w = 6) → G l E D 3 0 0 [(me, .inr (7, [.ref op, .ref rf, .ref h0, .ref n0, .ref l0, .ref f0, .ref z0, .ref tp])), (h0, .inr (6, [.ref a1, .ref a2, .ref a3, .ref x0, .int (nI N), .int (nI sg)])), (a1, .inl (T 0, 201, .inl (fun z9 => nI (af z9)))), (a2, .inl (T 1, 201, .inr (.inl (fun z9 => lN (inf z9))))), (a3, .inl (T 0, 201, .inl (fun z9 => nI (wf z9)))), (x0, .inr (4, [.int (nI 8192), .ref x1, .int (nI cnt)])), (x1, .inl (T 1, ((8192 + 7) / 8), .inr (.inl (pack b)))), (n0, .inr (2, [.ref s0, .ref s1, .ref s2, .ref s3, .ref s4, .int (nI ns), .int (nI nc), .int (nI fb)])), (s0, .inl (T 0, 201, .inl (fun z9 => nI (sl z9)))), (s1, .inl (T 0, 800, .inl (fun z9 => nI (te z9)))), (s2, .inl (T 0, 801, .inl (fun z9 => nI (pl z9)))), (s3, .inl (T 0, 801, .inl (fun z9 => nI (le z9)))), (s4, .inl (T 0, 801, .inl (fun z9 => nI (fb0 z9)))), (l0, .inr (1, [.ref k0, .ref k1, .ref k2, .ref k3, .ref k4, .ref k5, .ref k6])), (k0, .inl (T 0, 202, .inl (fun z9 => nI (st z9)))), (k1, .inl (T 0, 1000, .inl (fun z9 => nI (to z9)))), (k2, .inl (T 0, 202, .inl (fun z9 => nI (bs z9)))), (k3, .inl (T 0, 1000, .inl (fun z9 => nI (bk z9)))), (k4, .inl (T 0, 201, .inl (fun z9 => nI (qu z9)))), (k5, .inl (T 2, 201, .inl (fun z9 => nI (on z9)))), (k6, .inl (T 2, 201, .inl (fun z9 => nI (ba z9)))), (f0, .inr (0, [.ref y0, .ref y1, .ref y2, .ref y3, .ref y4, .ref y5, .ref y6, .int (nI cn), .int (nI lb)])), (y0, .inl (T 0, 201, .inl (fun z9 => nI (nw z9)))), (y1, .inl (T 0, 201, .inl (fun z9 => nI (wa z9)))), (y2, .inl (T 0, 201, .inl (fun z9 => nI (fi z9)))), (y3, .inl (T 0, 201, .inl (fun z9 => oI (sb z9)))), (y4, .inl (T 0, 201, .inl (fun z9 => nI (pa z9)))), (y5, .inl (T 0, 201, .inl (fun z9 => nI (bi z9)))), (y6, .inl (T 0, 201, .inl (fun z9 => nI (fr z9))))] [(0, .ref me), (1, .int (nI i)), (2, .int (nI w))] 135 [] := by
    intro hsw20
    refine g_aload_n (pc' := 136) hE 0 rfl rfl dX8_type_135 rfl ?_
    refine g_get (pc' := 139) hE gcX8 0 rfl 5 (by decide) rfl kX8_52 dX8_type_136 rfl ?_
    refine g_iload_n (pc' := 140) hE 1 rfl rfl dX8_type_139 rfl ?_
    refine g_callV (pc' := 143) (As := [.int (nI i)]) (rest := []) hE (qX0_leader l D T f0 y0 y1 y2 y3 y4 y5 y6 nw wa fi sb pa bi fr cn lb i (by omega) ((hFB.1 _).1) ((hFB.1 _).2.2.1)) mX0_leader kX8_125 iX0_leader sX0_leader (by decide) rfl (by decide) 21 rfl rfl [21, 22, 23, 24, 25, 26, 27, 28] rfl (by decide) rfl (Nat.le_of_ble_eq_true rfl) dX8_type_140 rfl (gBackR [21, 22, 23, 24, 25, 26, 27, 28] rfl ?_)
    rintro _ rfl
    refine g_st (st' := [.int (nI (fi (nw i)))]) rfl ?_
    refine g_i2l (pc' := 144) hE (lN (fi (nw i))) (nI_l (by omega)) dX8_type_143 rfl ?_
    exact hE.lret (⟨rfl, by unfold tyA; repeat (first | rfl | rw [if_pos (by omega)] | rw [if_neg (by omega)])⟩) (Nat.zero_le _) (Nat.zero_le _) dX8_type_144
  have hs20_145 : (w = 7) → G l E D 3 0 0 [(me, .inr (7, [.ref op, .ref rf, .ref h0, .ref n0, .ref l0, .ref f0, .ref z0, .ref tp])), (h0, .inr (6, [.ref a1, .ref a2, .ref a3, .ref x0, .int (nI N), .int (nI sg)])), (a1, .inl (T 0, 201, .inl (fun z9 => nI (af z9)))), (a2, .inl (T 1, 201, .inr (.inl (fun z9 => lN (inf z9))))), (a3, .inl (T 0, 201, .inl (fun z9 => nI (wf z9)))), (x0, .inr (4, [.int (nI 8192), .ref x1, .int (nI cnt)])), (x1, .inl (T 1, ((8192 + 7) / 8), .inr (.inl (pack b)))), (n0, .inr (2, [.ref s0, .ref s1, .ref s2, .ref s3, .ref s4, .int (nI ns), .int (nI nc), .int (nI fb)])), (s0, .inl (T 0, 201, .inl (fun z9 => nI (sl z9)))), (s1, .inl (T 0, 800, .inl (fun z9 => nI (te z9)))), (s2, .inl (T 0, 801, .inl (fun z9 => nI (pl z9)))), (s3, .inl (T 0, 801, .inl (fun z9 => nI (le z9)))), (s4, .inl (T 0, 801, .inl (fun z9 => nI (fb0 z9)))), (l0, .inr (1, [.ref k0, .ref k1, .ref k2, .ref k3, .ref k4, .ref k5, .ref k6])), (k0, .inl (T 0, 202, .inl (fun z9 => nI (st z9)))), (k1, .inl (T 0, 1000, .inl (fun z9 => nI (to z9)))), (k2, .inl (T 0, 202, .inl (fun z9 => nI (bs z9)))), (k3, .inl (T 0, 1000, .inl (fun z9 => nI (bk z9)))), (k4, .inl (T 0, 201, .inl (fun z9 => nI (qu z9)))), (k5, .inl (T 2, 201, .inl (fun z9 => nI (on z9)))), (k6, .inl (T 2, 201, .inl (fun z9 => nI (ba z9)))), (f0, .inr (0, [.ref y0, .ref y1, .ref y2, .ref y3, .ref y4, .ref y5, .ref y6, .int (nI cn), .int (nI lb)])), (y0, .inl (T 0, 201, .inl (fun z9 => nI (nw z9)))), (y1, .inl (T 0, 201, .inl (fun z9 => nI (wa z9)))), (y2, .inl (T 0, 201, .inl (fun z9 => nI (fi z9)))), (y3, .inl (T 0, 201, .inl (fun z9 => oI (sb z9)))), (y4, .inl (T 0, 201, .inl (fun z9 => nI (pa z9)))), (y5, .inl (T 0, 201, .inl (fun z9 => nI (bi z9)))), (y6, .inl (T 0, 201, .inl (fun z9 => nI (fr z9))))] [(0, .ref me), (1, .int (nI i)), (2, .int (nI w))] 145 [] := by
    intro hsw20
    refine g_aload_n (pc' := 146) hE 0 rfl rfl dX8_type_145 rfl ?_
    refine g_get (pc' := 149) hE gcX8 0 rfl 5 (by decide) rfl kX8_52 dX8_type_146 rfl ?_
    refine g_iload_n (pc' := 150) hE 1 rfl rfl dX8_type_149 rfl ?_
    refine g_callV (pc' := 153) (As := [.int (nI i)]) (rest := []) hE (qX0_freshNumber l D T f0 y0 y1 y2 y3 y4 y5 y6 nw wa fi sb pa bi fr cn lb i (by omega) ((hFB.1 _).1) ((hFB.1 _).2.2.1)) mX0_freshNumber kX8_128 iX0_freshNumber sX0_freshNumber (by decide) rfl (by decide) 21 rfl rfl [21, 22, 23, 24, 25, 26, 27, 28] rfl (by decide) rfl (Nat.le_of_ble_eq_true rfl) dX8_type_150 rfl (gBackR [21, 22, 23, 24, 25, 26, 27, 28] rfl ?_)
    rintro _ rfl
    refine g_st (st' := [.int (nI (fr (fi (nw i))))]) rfl ?_
    refine g_i2l (pc' := 154) hE (lN (fr (fi (nw i)))) (nI_l (by omega)) dX8_type_153 rfl ?_
    exact hE.lret (⟨rfl, by unfold tyA; repeat (first | rfl | rw [if_pos (by omega)] | rw [if_neg (by omega)])⟩) (Nat.zero_le _) (Nat.zero_le _) dX8_type_154
  have hs20_155 : (w ≠ 0 ∧ w ≠ 1 ∧ w ≠ 2 ∧ w ≠ 3 ∧ w ≠ 4 ∧ w ≠ 5 ∧ w ≠ 6 ∧ w ≠ 7) → G l E D 3 0 0 [(me, .inr (7, [.ref op, .ref rf, .ref h0, .ref n0, .ref l0, .ref f0, .ref z0, .ref tp])), (h0, .inr (6, [.ref a1, .ref a2, .ref a3, .ref x0, .int (nI N), .int (nI sg)])), (a1, .inl (T 0, 201, .inl (fun z9 => nI (af z9)))), (a2, .inl (T 1, 201, .inr (.inl (fun z9 => lN (inf z9))))), (a3, .inl (T 0, 201, .inl (fun z9 => nI (wf z9)))), (x0, .inr (4, [.int (nI 8192), .ref x1, .int (nI cnt)])), (x1, .inl (T 1, ((8192 + 7) / 8), .inr (.inl (pack b)))), (n0, .inr (2, [.ref s0, .ref s1, .ref s2, .ref s3, .ref s4, .int (nI ns), .int (nI nc), .int (nI fb)])), (s0, .inl (T 0, 201, .inl (fun z9 => nI (sl z9)))), (s1, .inl (T 0, 800, .inl (fun z9 => nI (te z9)))), (s2, .inl (T 0, 801, .inl (fun z9 => nI (pl z9)))), (s3, .inl (T 0, 801, .inl (fun z9 => nI (le z9)))), (s4, .inl (T 0, 801, .inl (fun z9 => nI (fb0 z9)))), (l0, .inr (1, [.ref k0, .ref k1, .ref k2, .ref k3, .ref k4, .ref k5, .ref k6])), (k0, .inl (T 0, 202, .inl (fun z9 => nI (st z9)))), (k1, .inl (T 0, 1000, .inl (fun z9 => nI (to z9)))), (k2, .inl (T 0, 202, .inl (fun z9 => nI (bs z9)))), (k3, .inl (T 0, 1000, .inl (fun z9 => nI (bk z9)))), (k4, .inl (T 0, 201, .inl (fun z9 => nI (qu z9)))), (k5, .inl (T 2, 201, .inl (fun z9 => nI (on z9)))), (k6, .inl (T 2, 201, .inl (fun z9 => nI (ba z9)))), (f0, .inr (0, [.ref y0, .ref y1, .ref y2, .ref y3, .ref y4, .ref y5, .ref y6, .int (nI cn), .int (nI lb)])), (y0, .inl (T 0, 201, .inl (fun z9 => nI (nw z9)))), (y1, .inl (T 0, 201, .inl (fun z9 => nI (wa z9)))), (y2, .inl (T 0, 201, .inl (fun z9 => nI (fi z9)))), (y3, .inl (T 0, 201, .inl (fun z9 => oI (sb z9)))), (y4, .inl (T 0, 201, .inl (fun z9 => nI (pa z9)))), (y5, .inl (T 0, 201, .inl (fun z9 => nI (bi z9)))), (y6, .inl (T 0, 201, .inl (fun z9 => nI (fr z9))))] [(0, .ref me), (1, .int (nI i)), (2, .int (nI w))] 155 [] := by
    intro hsw20
    omega
  rcases (show w = 0 ∨ w = 1 ∨ w = 2 ∨ w = 3 ∨ w = 4 ∨ w = 5 ∨ w = 6 ∨ w = 7 ∨ ((w : Nat) < 0 ∨ 7 < w) by omega) with hz | hz | hz | hz | hz | hz | hz | hz | hz
  · exact g_tabIn (tgt := 68) hE 0 hz (by decide) (by decide) (by decide) dX8_type_20 rfl rfl (hs20_68 (by omega))
  · exact g_tabIn (tgt := 78) hE 1 hz (by decide) (by decide) (by decide) dX8_type_20 rfl rfl (hs20_78 (by omega))
  · exact g_tabIn (tgt := 88) hE 2 hz (by decide) (by decide) (by decide) dX8_type_20 rfl rfl (hs20_88 (by omega))
  · exact g_tabIn (tgt := 98) hE 3 hz (by decide) (by decide) (by decide) dX8_type_20 rfl rfl (hs20_98 (by omega))
  · exact g_tabIn (tgt := 108) hE 4 hz (by decide) (by decide) (by decide) dX8_type_20 rfl rfl (hs20_108 (by omega))
  · exact g_tabIn (tgt := 118) hE 5 hz (by decide) (by decide) (by decide) dX8_type_20 rfl rfl (hs20_118 (by omega))
  · exact g_tabIn (tgt := 135) hE 6 hz (by decide) (by decide) (by decide) dX8_type_20 rfl rfl (hs20_135 (by omega))
  · exact g_tabIn (tgt := 145) hE 7 hz (by decide) (by decide) (by decide) dX8_type_20 rfl rfl (hs20_145 (by omega))
  · exact g_tabOut (tgt := 155) hE (by omega) (by omega) dX8_type_20 rfl (hs20_155 (by omega))

set_option maxHeartbeats 4000000 in
set_option maxRecDepth 100000 in
theorem qX8_typeX (l : Launch) (D : va_G) (T : Nat → ClassId) (hlt : l.stackTraces = false) (me op oa oc : Nat) (ob : Nat → Nat) (rf er sd it tp ta tc : Nat) (tb : Nat → Nat) (h0 a1 a2 a3 x0 x1 N sg : Nat) (af inf wf : Nat → Nat) (cnt : Nat) (b : Nat → Nat) (n0 s0 s1 s2 s3 s4 : Nat) (sl te pl le fb0 : Nat → Nat) (ns nc fb : Nat) (l0 k0 k1 k2 k3 k4 k5 k6 : Nat) (st to bs bk qu on ba : Nat → Nat) (f0 y0 y1 y2 y3 y4 y5 y6 : Nat) (nw wa fi : Nat → Nat) (sb : Nat → Option Nat) (pa bi fr : Nat → Nat) (cn lb : Nat) (z0 p0 : Nat) (pz : Nat → Nat) (x z : Int32) (hN2 : N ≤ 200) (hv : ¬ hasR x N = true) : ConT l D T yX8_type cX8_type 3 (some .long) 8 1 6 [.ref me, .int x, .int z] [(me, .inr (7, [.ref op, .ref rf, .ref h0, .ref n0, .ref l0, .ref f0, .ref z0, .ref tp])), (h0, .inr (6, [.ref a1, .ref a2, .ref a3, .ref x0, .int (nI N), .int (nI sg)])), (a1, .inl (T 0, 201, .inl (fun z9 => nI (af z9)))), (a2, .inl (T 1, 201, .inr (.inl (fun z9 => lN (inf z9))))), (a3, .inl (T 0, 201, .inl (fun z9 => nI (wf z9))))] xNS := by
  refine ConT.of (by decide) (Nat.le_of_ble_eq_true rfl) ?_
  intro E hE hZ htab hQ
  refine g_lv (lv' := [(0, .ref me), (1, .int x), (2, .int z)]) [0, 1, 2] rfl ?_
  refine g_aload_n (pc' := 1) hE 0 rfl rfl dX8_type_0 rfl ?_
  refine g_get (pc' := 4) hE gcX8 0 rfl 2 (by decide) rfl kX8_31 dX8_type_1 rfl ?_
  refine g_iload_n (pc' := 5) hE 1 rfl rfl dX8_type_4 rfl ?_
  refine g_callV (pc' := 8) (As := [.int x]) (rest := []) hE (qX7_hasR l D T h0 a1 a2 a3 x0 N sg af inf wf x hN2) mX7_has kX8_97 iX7_has sX7_has (by decide) rfl (by decide) 1 rfl rfl [1, 2, 3, 4] rfl (by decide) rfl (Nat.le_of_ble_eq_true rfl) dX8_type_5 rfl (gBackR [1, 2, 3, 4] rfl ?_)
  rintro _ rfl
  refine g_st (st' := [.int (bI (hasR x N))]) rfl ?_
  refine g_ifB_ne (pc' := 11) (tgt := 19) hE dX8_type_8 rfl rfl (fun hc8 => ?_) (fun hc8 => ?_)
  · exact absurd hc8 hv
  exact g_throw hE hlt hZ htab hQ (by decide) kX8_101 ti_NS ta_NS tb_NS tc_NS hZ.1.2.2.2.1 dX8_type_11 dX8_type_14 dX8_type_15 dX8_type_18 (by decide) (by decide) (by decide) (by decide)

set_option maxHeartbeats 4000000 in
set_option maxRecDepth 100000 in
theorem qX8_typeY (l : Launch) (D : va_G) (T : Nat → ClassId) (hlt : l.stackTraces = false) (me op oa oc : Nat) (ob : Nat → Nat) (rf er sd it tp ta tc : Nat) (tb : Nat → Nat) (h0 a1 a2 a3 x0 x1 N sg : Nat) (af inf wf : Nat → Nat) (cnt : Nat) (b : Nat → Nat) (n0 s0 s1 s2 s3 s4 : Nat) (sl te pl le fb0 : Nat → Nat) (ns nc fb : Nat) (l0 k0 k1 k2 k3 k4 k5 k6 : Nat) (st to bs bk qu on ba : Nat → Nat) (f0 y0 y1 y2 y3 y4 y5 y6 : Nat) (nw wa fi : Nat → Nat) (sb : Nat → Option Nat) (pa bi fr : Nat → Nat) (cn lb : Nat) (z0 p0 : Nat) (pz : Nat → Nat) (i : Nat) (z : Int32) (hN2 : N ≤ 200) (h1i : 1 ≤ i) (h2i : i ≤ N) (hv : z.toInt < 0 ∨ 7 < z.toInt) : ConT l D T yX8_type cX8_type 3 (some .long) 8 1 6 [.ref me, .int (nI i), .int z] [(me, .inr (7, [.ref op, .ref rf, .ref h0, .ref n0, .ref l0, .ref f0, .ref z0, .ref tp])), (h0, .inr (6, [.ref a1, .ref a2, .ref a3, .ref x0, .int (nI N), .int (nI sg)])), (a1, .inl (T 0, 201, .inl (fun z9 => nI (af z9)))), (a2, .inl (T 1, 201, .inr (.inl (fun z9 => lN (inf z9))))), (a3, .inl (T 0, 201, .inl (fun z9 => nI (wf z9))))] xNS := by
  refine ConT.of (by decide) (Nat.le_of_ble_eq_true rfl) ?_
  intro E hE hZ htab hQ
  refine g_lv (lv' := [(0, .ref me), (1, .int (nI i)), (2, .int z)]) [0, 1, 2] rfl ?_
  refine g_aload_n (pc' := 1) hE 0 rfl rfl dX8_type_0 rfl ?_
  refine g_get (pc' := 4) hE gcX8 0 rfl 2 (by decide) rfl kX8_31 dX8_type_1 rfl ?_
  refine g_iload_n (pc' := 5) hE 1 rfl rfl dX8_type_4 rfl ?_
  refine g_callV (pc' := 8) (As := [.int (nI i)]) (rest := []) hE (qX7_has l D T h0 a1 a2 a3 x0 N sg af inf wf i hN2 (by omega)) mX7_has kX8_97 iX7_has sX7_has (by decide) rfl (by decide) 1 rfl rfl [1, 2, 3, 4] rfl (by decide) rfl (Nat.le_of_ble_eq_true rfl) dX8_type_5 rfl (gBackR [1, 2, 3, 4] rfl ?_)
  rintro _ rfl
  refine g_st (st' := [.int (bI (hasB i N))]) rfl ?_
  refine g_ifB_ne (pc' := 11) (tgt := 19) hE dX8_type_8 rfl rfl (fun hc8 => ?_) (fun hc8 => ?_)
  rotate_left
  · exact absurd hc8 (by rw [show hasB i N = true from decide_eq_true ⟨by omega, by omega⟩]; decide)
  refine g_iload_n (pc' := 20) hE 2 rfl rfl dX8_type_19 rfl ?_
  refine g_tabOutR (tgt := 155) hE (hv) dX8_type_20 rfl ?_
  exact g_throw hE hlt hZ htab hQ (by decide) kX8_101 ti_NS ta_NS tb_NS tc_NS hZ.1.2.2.2.1 dX8_type_155 dX8_type_158 dX8_type_159 dX8_type_162 (by decide) (by decide) (by decide) (by decide)

set_option maxHeartbeats 4000000 in
set_option maxRecDepth 100000 in
theorem qX8_reference (l : Launch) (D : va_G) (T : Nat → ClassId) (me op oa oc : Nat) (ob : Nat → Nat) (rf er sd it tp ta tc : Nat) (tb : Nat → Nat) (h0 a1 a2 a3 x0 x1 N sg : Nat) (af inf wf : Nat → Nat) (cnt : Nat) (b : Nat → Nat) (n0 s0 s1 s2 s3 s4 : Nat) (sl te pl le fb0 : Nat → Nat) (ns nc fb : Nat) (l0 k0 k1 k2 k3 k4 k5 k6 : Nat) (st to bs bk qu on ba : Nat → Nat) (f0 y0 y1 y2 y3 y4 y5 y6 : Nat) (nw wa fi : Nat → Nat) (sb : Nat → Option Nat) (pa bi fr : Nat → Nat) (cn lb : Nat) (z0 p0 : Nat) (pz : Nat → Nat) (i k : Nat) (hc : cnt ≤ 8192) (hb : ∀ i, b i < 256) (hT : TyArr (cut b cnt) N af inf wf) (hN2 : N ≤ 200) (hLk : LinksOK (cut b cnt) N st to bs bk) (h1i : 1 ≤ i) (h2i : i ≤ N) (hk : k < nrT (cut b cnt) i) : Con l D T yX8_reference cX8_reference 3 (some .int) 8 0 0 [.ref me, .int (nI i), .int (nI k)] [(me, .inr (7, [.ref op, .ref rf, .ref h0, .ref n0, .ref l0, .ref f0, .ref z0, .ref tp])), (h0, .inr (6, [.ref a1, .ref a2, .ref a3, .ref x0, .int (nI N), .int (nI sg)])), (a1, .inl (T 0, 201, .inl (fun z9 => nI (af z9)))), (a2, .inl (T 1, 201, .inr (.inl (fun z9 => lN (inf z9))))), (a3, .inl (T 0, 201, .inl (fun z9 => nI (wf z9)))), (l0, .inr (1, [.ref k0, .ref k1, .ref k2, .ref k3, .ref k4, .ref k5, .ref k6])), (k0, .inl (T 0, 202, .inl (fun z9 => nI (st z9)))), (k1, .inl (T 0, 1000, .inl (fun z9 => nI (to z9)))), (k2, .inl (T 0, 202, .inl (fun z9 => nI (bs z9)))), (k3, .inl (T 0, 1000, .inl (fun z9 => nI (bk z9)))), (k4, .inl (T 0, 201, .inl (fun z9 => nI (qu z9)))), (k5, .inl (T 2, 201, .inl (fun z9 => nI (on z9)))), (k6, .inl (T 2, 201, .inl (fun z9 => nI (ba z9))))] (fun v w1 => w1 = [(me, .inr (7, [.ref op, .ref rf, .ref h0, .ref n0, .ref l0, .ref f0, .ref z0, .ref tp])), (h0, .inr (6, [.ref a1, .ref a2, .ref a3, .ref x0, .int (nI N), .int (nI sg)])), (a1, .inl (T 0, 201, .inl (fun z9 => nI (af z9)))), (a2, .inl (T 1, 201, .inr (.inl (fun z9 => lN (inf z9))))), (a3, .inl (T 0, 201, .inl (fun z9 => nI (wf z9)))), (l0, .inr (1, [.ref k0, .ref k1, .ref k2, .ref k3, .ref k4, .ref k5, .ref k6])), (k0, .inl (T 0, 202, .inl (fun z9 => nI (st z9)))), (k1, .inl (T 0, 1000, .inl (fun z9 => nI (to z9)))), (k2, .inl (T 0, 202, .inl (fun z9 => nI (bs z9)))), (k3, .inl (T 0, 1000, .inl (fun z9 => nI (bk z9)))), (k4, .inl (T 0, 201, .inl (fun z9 => nI (qu z9)))), (k5, .inl (T 2, 201, .inl (fun z9 => nI (on z9)))), (k6, .inl (T 2, 201, .inl (fun z9 => nI (ba z9))))] ∧ v = some (.int (nI (rfT (cut b cnt) i k)))) := by
  refine Con.of (by decide) (Nat.le_of_ble_eq_true rfl) ?_
  intro E hE
  obtain ⟨q1, q2, q3⟩ := hLk.at h1i h2i
  have hs1 := hLk.1.2.2 (i + 1)
  refine g_lv (lv' := [(0, .ref me), (1, .int (nI i)), (2, .int (nI k))]) [0, 1, 2] rfl ?_
  refine g_aload_n (pc' := 1) hE 0 rfl rfl dX8_reference_0 rfl ?_
  refine g_get (pc' := 4) hE gcX8 0 rfl 2 (by decide) rfl kX8_31 dX8_reference_1 rfl ?_
  refine g_iload_n (pc' := 5) hE 1 rfl rfl dX8_reference_4 rfl ?_
  refine g_callV (pc' := 8) (As := [.int (nI i)]) (rest := []) hE (qX7_has l D T h0 a1 a2 a3 x0 N sg af inf wf i hN2 (by omega)) mX7_has kX8_97 iX7_has sX7_has (by decide) rfl (by decide) 1 rfl rfl [1, 2, 3, 4] rfl (by decide) rfl (Nat.le_of_ble_eq_true rfl) dX8_reference_5 rfl (gBackR [1, 2, 3, 4] rfl ?_)
  rintro _ rfl
  refine g_st (st' := [.int (bI (hasB i N))]) rfl ?_
  refine g_ifB_eq (pc' := 11) (tgt := 27) hE dX8_reference_8 rfl rfl (fun hc8 => ?_) (fun hc8 => ?_)
  · exact absurd hc8 (by rw [show hasB i N = true from decide_eq_true ⟨by omega, by omega⟩]; decide)
  refine g_iload_n (pc' := 12) hE 2 rfl rfl dX8_reference_11 rfl ?_
  refine g_ifN_lt (pc' := 15) (tgt := 27) hE (by omega) dX8_reference_12 rfl rfl (fun hc12 => ?_) (fun hc12 => ?_)
  · exact hc12.elim
  refine g_iload_n (pc' := 16) hE 2 rfl rfl dX8_reference_15 rfl ?_
  refine g_aload_n (pc' := 17) hE 0 rfl rfl dX8_reference_16 rfl ?_
  refine g_get (pc' := 20) hE gcX8 0 rfl 4 (by decide) rfl kX8_45 dX8_reference_17 rfl ?_
  refine g_iload_n (pc' := 21) hE 1 rfl rfl dX8_reference_20 rfl ?_
  refine g_callV (pc' := 24) (As := [.int (nI i)]) (rest := [.int (nI k)]) hE (qX2_tally l D T l0 k0 k1 k2 k3 k4 k5 k6 st to bs bk qu on ba i (by omega) ((hLk.at h1i h2i).2.1)) mX2_tally kX8_118 iX2_tally sX2_tally (by decide) rfl (by decide) 5 rfl rfl [5, 6, 7, 8, 9, 10, 11, 12] rfl (by decide) rfl (Nat.le_of_ble_eq_true rfl) dX8_reference_21 rfl (gBackR [5, 6, 7, 8, 9, 10, 11, 12] rfl ?_)
  rintro _ rfl
  refine g_st (st' := [.int (nI (st (i + 1) - st i)), .int (nI k)]) rfl ?_
  refine g_icmpN_lt (pc' := 27) (tgt := 35) hE (by omega) (by omega) dX8_reference_24 rfl rfl (fun hc24 => ?_) (fun hc24 => ?_)
  rotate_left
  · omega
  refine g_aload_n (pc' := 36) hE 0 rfl rfl dX8_reference_35 rfl ?_
  refine g_get (pc' := 39) hE gcX8 0 rfl 4 (by decide) rfl kX8_45 dX8_reference_36 rfl ?_
  refine g_iload_n (pc' := 40) hE 1 rfl rfl dX8_reference_39 rfl ?_
  refine g_iload_n (pc' := 41) hE 2 rfl rfl dX8_reference_40 rfl ?_
  refine g_callV (pc' := 44) (As := [.int (nI i), .int (nI k)]) (rest := []) hE (qX2_target l D T l0 k0 k1 k2 k3 k4 k5 k6 st to bs bk qu on ba i k (by omega) q2 hs1 (by omega)) mX2_target kX8_131 iX2_target sX2_target (by decide) rfl (by decide) 5 rfl rfl [5, 6, 7, 8, 9, 10, 11, 12] rfl (by decide) rfl (Nat.le_of_ble_eq_true rfl) dX8_reference_41 rfl (gBackR [5, 6, 7, 8, 9, 10, 11, 12] rfl ?_)
  rintro _ rfl
  refine g_st (st' := [.int (nI (to (st i + k)))]) rfl ?_
  refine g_eqi (show _ = nI (rfT (cut b cnt) i k) from by rw [q3 k hk]) ?_
  exact hE.iret (⟨rfl, rfl⟩) (Nat.zero_le _) (Nat.zero_le _) dX8_reference_44

set_option maxHeartbeats 4000000 in
set_option maxRecDepth 100000 in
theorem qX8_referenceX (l : Launch) (D : va_G) (T : Nat → ClassId) (hlt : l.stackTraces = false) (me op oa oc : Nat) (ob : Nat → Nat) (rf er sd it tp ta tc : Nat) (tb : Nat → Nat) (h0 a1 a2 a3 x0 x1 N sg : Nat) (af inf wf : Nat → Nat) (cnt : Nat) (b : Nat → Nat) (n0 s0 s1 s2 s3 s4 : Nat) (sl te pl le fb0 : Nat → Nat) (ns nc fb : Nat) (l0 k0 k1 k2 k3 k4 k5 k6 : Nat) (st to bs bk qu on ba : Nat → Nat) (f0 y0 y1 y2 y3 y4 y5 y6 : Nat) (nw wa fi : Nat → Nat) (sb : Nat → Option Nat) (pa bi fr : Nat → Nat) (cn lb : Nat) (z0 p0 : Nat) (pz : Nat → Nat) (x z : Int32) (hN2 : N ≤ 200) (hv : ¬ hasR x N = true) : ConT l D T yX8_reference cX8_reference 3 (some .int) 8 1 6 [.ref me, .int x, .int z] [(me, .inr (7, [.ref op, .ref rf, .ref h0, .ref n0, .ref l0, .ref f0, .ref z0, .ref tp])), (h0, .inr (6, [.ref a1, .ref a2, .ref a3, .ref x0, .int (nI N), .int (nI sg)])), (a1, .inl (T 0, 201, .inl (fun z9 => nI (af z9)))), (a2, .inl (T 1, 201, .inr (.inl (fun z9 => lN (inf z9))))), (a3, .inl (T 0, 201, .inl (fun z9 => nI (wf z9))))] xNS := by
  refine ConT.of (by decide) (Nat.le_of_ble_eq_true rfl) ?_
  intro E hE hZ htab hQ
  refine g_lv (lv' := [(0, .ref me), (1, .int x), (2, .int z)]) [0, 1, 2] rfl ?_
  refine g_aload_n (pc' := 1) hE 0 rfl rfl dX8_reference_0 rfl ?_
  refine g_get (pc' := 4) hE gcX8 0 rfl 2 (by decide) rfl kX8_31 dX8_reference_1 rfl ?_
  refine g_iload_n (pc' := 5) hE 1 rfl rfl dX8_reference_4 rfl ?_
  refine g_callV (pc' := 8) (As := [.int x]) (rest := []) hE (qX7_hasR l D T h0 a1 a2 a3 x0 N sg af inf wf x hN2) mX7_has kX8_97 iX7_has sX7_has (by decide) rfl (by decide) 1 rfl rfl [1, 2, 3, 4] rfl (by decide) rfl (Nat.le_of_ble_eq_true rfl) dX8_reference_5 rfl (gBackR [1, 2, 3, 4] rfl ?_)
  rintro _ rfl
  refine g_st (st' := [.int (bI (hasR x N))]) rfl ?_
  refine g_ifB_eq (pc' := 11) (tgt := 27) hE dX8_reference_8 rfl rfl (fun hc8 => ?_) (fun hc8 => ?_)
  rotate_left
  · exact absurd hc8 hv
  exact g_throw hE hlt hZ htab hQ (by decide) kX8_101 ti_NS ta_NS tb_NS tc_NS hZ.1.2.2.2.1 dX8_reference_27 dX8_reference_30 dX8_reference_31 dX8_reference_34 (by decide) (by decide) (by decide) (by decide)

set_option maxHeartbeats 4000000 in
set_option maxRecDepth 100000 in
theorem qX8_referenceY (l : Launch) (D : va_G) (T : Nat → ClassId) (hlt : l.stackTraces = false) (me op oa oc : Nat) (ob : Nat → Nat) (rf er sd it tp ta tc : Nat) (tb : Nat → Nat) (h0 a1 a2 a3 x0 x1 N sg : Nat) (af inf wf : Nat → Nat) (cnt : Nat) (b : Nat → Nat) (n0 s0 s1 s2 s3 s4 : Nat) (sl te pl le fb0 : Nat → Nat) (ns nc fb : Nat) (l0 k0 k1 k2 k3 k4 k5 k6 : Nat) (st to bs bk qu on ba : Nat → Nat) (f0 y0 y1 y2 y3 y4 y5 y6 : Nat) (nw wa fi : Nat → Nat) (sb : Nat → Option Nat) (pa bi fr : Nat → Nat) (cn lb : Nat) (z0 p0 : Nat) (pz : Nat → Nat) (i : Nat) (z : Int32) (hc : cnt ≤ 8192) (hb : ∀ i, b i < 256) (hT : TyArr (cut b cnt) N af inf wf) (hN2 : N ≤ 200) (hLk : LinksOK (cut b cnt) N st to bs bk) (h1i : 1 ≤ i) (h2i : i ≤ N) (hv : ¬ (0 ≤ z ∧ z < nI (nrT (cut b cnt) i))) : ConT l D T yX8_reference cX8_reference 3 (some .int) 8 1 6 [.ref me, .int (nI i), .int z] [(me, .inr (7, [.ref op, .ref rf, .ref h0, .ref n0, .ref l0, .ref f0, .ref z0, .ref tp])), (h0, .inr (6, [.ref a1, .ref a2, .ref a3, .ref x0, .int (nI N), .int (nI sg)])), (a1, .inl (T 0, 201, .inl (fun z9 => nI (af z9)))), (a2, .inl (T 1, 201, .inr (.inl (fun z9 => lN (inf z9))))), (a3, .inl (T 0, 201, .inl (fun z9 => nI (wf z9)))), (l0, .inr (1, [.ref k0, .ref k1, .ref k2, .ref k3, .ref k4, .ref k5, .ref k6])), (k0, .inl (T 0, 202, .inl (fun z9 => nI (st z9)))), (k1, .inl (T 0, 1000, .inl (fun z9 => nI (to z9)))), (k2, .inl (T 0, 202, .inl (fun z9 => nI (bs z9)))), (k3, .inl (T 0, 1000, .inl (fun z9 => nI (bk z9)))), (k4, .inl (T 0, 201, .inl (fun z9 => nI (qu z9)))), (k5, .inl (T 2, 201, .inl (fun z9 => nI (on z9)))), (k6, .inl (T 2, 201, .inl (fun z9 => nI (ba z9))))] xNS := by
  refine ConT.of (by decide) (Nat.le_of_ble_eq_true rfl) ?_
  intro E hE hZ htab hQ
  obtain ⟨q1, q2, q3⟩ := hLk.at h1i h2i
  refine g_lv (lv' := [(0, .ref me), (1, .int (nI i)), (2, .int z)]) [0, 1, 2] rfl ?_
  refine g_aload_n (pc' := 1) hE 0 rfl rfl dX8_reference_0 rfl ?_
  refine g_get (pc' := 4) hE gcX8 0 rfl 2 (by decide) rfl kX8_31 dX8_reference_1 rfl ?_
  refine g_iload_n (pc' := 5) hE 1 rfl rfl dX8_reference_4 rfl ?_
  refine g_callV (pc' := 8) (As := [.int (nI i)]) (rest := []) hE (qX7_has l D T h0 a1 a2 a3 x0 N sg af inf wf i hN2 (by omega)) mX7_has kX8_97 iX7_has sX7_has (by decide) rfl (by decide) 1 rfl rfl [1, 2, 3, 4] rfl (by decide) rfl (Nat.le_of_ble_eq_true rfl) dX8_reference_5 rfl (gBackR [1, 2, 3, 4] rfl ?_)
  rintro _ rfl
  refine g_st (st' := [.int (bI (hasB i N))]) rfl ?_
  refine g_ifB_eq (pc' := 11) (tgt := 27) hE dX8_reference_8 rfl rfl (fun hc8 => ?_) (fun hc8 => ?_)
  · exact absurd hc8 (by rw [show hasB i N = true from decide_eq_true ⟨by omega, by omega⟩]; decide)
  refine g_iload_n (pc' := 12) hE 2 rfl rfl dX8_reference_11 rfl ?_
  refine g_if_lt (pc' := 15) (tgt := 27) hE dX8_reference_12 rfl rfl (fun hc12 => ?_) (fun hc12 => ?_)
  · exact g_throw hE hlt hZ htab hQ (by decide) kX8_101 ti_NS ta_NS tb_NS tc_NS hZ.1.2.2.2.1 dX8_reference_27 dX8_reference_30 dX8_reference_31 dX8_reference_34 (by decide) (by decide) (by decide) (by decide)
  · refine g_iload_n (pc' := 16) hE 2 rfl rfl dX8_reference_15 rfl ?_
    refine g_aload_n (pc' := 17) hE 0 rfl rfl dX8_reference_16 rfl ?_
    refine g_get (pc' := 20) hE gcX8 0 rfl 4 (by decide) rfl kX8_45 dX8_reference_17 rfl ?_
    refine g_iload_n (pc' := 21) hE 1 rfl rfl dX8_reference_20 rfl ?_
    refine g_callV (pc' := 24) (As := [.int (nI i)]) (rest := [.int z]) hE (qX2_tally l D T l0 k0 k1 k2 k3 k4 k5 k6 st to bs bk qu on ba i (by omega) ((hLk.at h1i h2i).2.1)) mX2_tally kX8_118 iX2_tally sX2_tally (by decide) rfl (by decide) 5 rfl rfl [5, 6, 7, 8, 9, 10, 11, 12] rfl (by decide) rfl (Nat.le_of_ble_eq_true rfl) dX8_reference_21 rfl (gBackR [5, 6, 7, 8, 9, 10, 11, 12] rfl ?_)
    rintro _ rfl
    refine g_st (st' := [.int (nI (st (i + 1) - st i)), .int z]) rfl ?_
    refine g_eqi (show _ = nI (nrT (cut b cnt) i) from by rw [q1]) ?_
    refine g_icmp_lt (pc' := 27) (tgt := 35) hE dX8_reference_24 rfl rfl (fun hc24 => ?_) (fun hc24 => ?_)
    · exact absurd ⟨Int32.not_lt.mp hc12, hc24⟩ hv
    exact g_throw hE hlt hZ htab hQ (by decide) kX8_101 ti_NS ta_NS tb_NS tc_NS hZ.1.2.2.2.1 dX8_reference_27 dX8_reference_30 dX8_reference_31 dX8_reference_34 (by decide) (by decide) (by decide) (by decide)

set_option maxHeartbeats 4000000 in
set_option maxRecDepth 100000 in
theorem qX8_apart (l : Launch) (D : va_G) (T : Nat → ClassId) (me op oa oc : Nat) (ob : Nat → Nat) (rf er sd it tp ta tc : Nat) (tb : Nat → Nat) (h0 a1 a2 a3 x0 x1 N sg : Nat) (af inf wf : Nat → Nat) (cnt : Nat) (b : Nat → Nat) (n0 s0 s1 s2 s3 s4 : Nat) (sl te pl le fb0 : Nat → Nat) (ns nc fb : Nat) (l0 k0 k1 k2 k3 k4 k5 k6 : Nat) (st to bs bk qu on ba : Nat → Nat) (f0 y0 y1 y2 y3 y4 y5 y6 : Nat) (nw wa fi : Nat → Nat) (sb : Nat → Option Nat) (pa bi fr : Nat → Nat) (cn lb : Nat) (z0 p0 : Nat) (pz : Nat → Nat) (i j : Nat) (hN2 : N ≤ 200) (hFo : FoldOK (cut b cnt) sg N nw fi pa bi fr cn lb) (hFB : FB nw wa fi sb pa bi fr) (hi : i ≤ N) (hj : j ≤ N) : Con l D T yX8_apart cX8_apart 3 (some .int) 8 0 0 [.ref me, .int (nI i), .int (nI j)] [(me, .inr (7, [.ref op, .ref rf, .ref h0, .ref n0, .ref l0, .ref f0, .ref z0, .ref tp])), (h0, .inr (6, [.ref a1, .ref a2, .ref a3, .ref x0, .int (nI N), .int (nI sg)])), (a1, .inl (T 0, 201, .inl (fun z9 => nI (af z9)))), (a2, .inl (T 1, 201, .inr (.inl (fun z9 => lN (inf z9))))), (a3, .inl (T 0, 201, .inl (fun z9 => nI (wf z9)))), (f0, .inr (0, [.ref y0, .ref y1, .ref y2, .ref y3, .ref y4, .ref y5, .ref y6, .int (nI cn), .int (nI lb)])), (y0, .inl (T 0, 201, .inl (fun z9 => nI (nw z9)))), (y1, .inl (T 0, 201, .inl (fun z9 => nI (wa z9)))), (y2, .inl (T 0, 201, .inl (fun z9 => nI (fi z9)))), (y3, .inl (T 0, 201, .inl (fun z9 => oI (sb z9)))), (y4, .inl (T 0, 201, .inl (fun z9 => nI (pa z9)))), (y5, .inl (T 0, 201, .inl (fun z9 => nI (bi z9)))), (y6, .inl (T 0, 201, .inl (fun z9 => nI (fr z9))))] (fun v w1 => w1 = [(me, .inr (7, [.ref op, .ref rf, .ref h0, .ref n0, .ref l0, .ref f0, .ref z0, .ref tp])), (h0, .inr (6, [.ref a1, .ref a2, .ref a3, .ref x0, .int (nI N), .int (nI sg)])), (a1, .inl (T 0, 201, .inl (fun z9 => nI (af z9)))), (a2, .inl (T 1, 201, .inr (.inl (fun z9 => lN (inf z9))))), (a3, .inl (T 0, 201, .inl (fun z9 => nI (wf z9)))), (f0, .inr (0, [.ref y0, .ref y1, .ref y2, .ref y3, .ref y4, .ref y5, .ref y6, .int (nI cn), .int (nI lb)])), (y0, .inl (T 0, 201, .inl (fun z9 => nI (nw z9)))), (y1, .inl (T 0, 201, .inl (fun z9 => nI (wa z9)))), (y2, .inl (T 0, 201, .inl (fun z9 => nI (fi z9)))), (y3, .inl (T 0, 201, .inl (fun z9 => oI (sb z9)))), (y4, .inl (T 0, 201, .inl (fun z9 => nI (pa z9)))), (y5, .inl (T 0, 201, .inl (fun z9 => nI (bi z9)))), (y6, .inl (T 0, 201, .inl (fun z9 => nI (fr z9))))] ∧ ∃ r : Nat, v = some (.int (nI r)) ∧ Apart (cut b cnt) sg r i j) := by
  refine Con.of (by decide) (Nat.le_of_ble_eq_true rfl) ?_
  intro E hE
  refine g_lv (lv' := [(0, .ref me), (1, .int (nI i)), (2, .int (nI j))]) [0, 1, 2] rfl ?_
  refine g_aload_n (pc' := 1) hE 0 rfl rfl dX8_apart_0 rfl ?_
  refine g_get (pc' := 4) hE gcX8 0 rfl 2 (by decide) rfl kX8_31 dX8_apart_1 rfl ?_
  refine g_iload_n (pc' := 5) hE 1 rfl rfl dX8_apart_4 rfl ?_
  refine g_callV (pc' := 8) (As := [.int (nI i)]) (rest := []) hE (qX7_hasV l D T h0 a1 a2 a3 x0 N sg af inf wf (nI i) hN2) mX7_hasOrVoid kX8_135 iX7_hasOrVoid sX7_hasOrVoid (by decide) rfl (by decide) 1 rfl rfl [1, 2, 3, 4] rfl (by decide) rfl (Nat.le_of_ble_eq_true rfl) dX8_apart_5 rfl (gBackR [1, 2, 3, 4] rfl ?_)
  rintro _ rfl
  refine g_st (st' := [.int (bI (hasV (nI i) N))]) rfl ?_
  refine g_ifB_eq (pc' := 11) (tgt := 22) hE dX8_apart_8 rfl rfl (fun hc8 => ?_) (fun hc8 => ?_)
  · exact absurd hc8 (by rw [hasV_N hi hN2]; decide)
  refine g_aload_n (pc' := 12) hE 0 rfl rfl dX8_apart_11 rfl ?_
  refine g_get (pc' := 15) hE gcX8 0 rfl 2 (by decide) rfl kX8_31 dX8_apart_12 rfl ?_
  refine g_iload_n (pc' := 16) hE 2 rfl rfl dX8_apart_15 rfl ?_
  refine g_callV (pc' := 19) (As := [.int (nI j)]) (rest := []) hE (qX7_hasV l D T h0 a1 a2 a3 x0 N sg af inf wf (nI j) hN2) mX7_hasOrVoid kX8_135 iX7_hasOrVoid sX7_hasOrVoid (by decide) rfl (by decide) 1 rfl rfl [1, 2, 3, 4] rfl (by decide) rfl (Nat.le_of_ble_eq_true rfl) dX8_apart_16 rfl (gBackR [1, 2, 3, 4] rfl ?_)
  rintro _ rfl
  refine g_st (st' := [.int (bI (hasV (nI j) N))]) rfl ?_
  refine g_ifB_ne (pc' := 22) (tgt := 30) hE dX8_apart_19 rfl rfl (fun hc19 => ?_) (fun hc19 => ?_)
  rotate_left
  · exact absurd hc19 (by rw [hasV_N hj hN2]; decide)
  refine g_aload_n (pc' := 31) hE 0 rfl rfl dX8_apart_30 rfl ?_
  refine g_get (pc' := 34) hE gcX8 0 rfl 5 (by decide) rfl kX8_52 dX8_apart_31 rfl ?_
  refine g_iload_n (pc' := 35) hE 1 rfl rfl dX8_apart_34 rfl ?_
  refine g_iload_n (pc' := 36) hE 2 rfl rfl dX8_apart_35 rfl ?_
  refine g_callV (pc' := 39) (As := [.int (nI i), .int (nI j)]) (rest := []) hE (qX0_depthApart l D T f0 y0 y1 y2 y3 y4 y5 y6 nw wa fi sb pa bi fr cn lb (cut b cnt) sg N i j hN2 hFo hi hj (fun c => (hFB.1 c).2.2.2.2.1)) mX0_depthApart kX8_138 iX0_depthApart sX0_depthApart (by decide) rfl (by decide) 5 rfl rfl [5, 6, 7, 8, 9, 10, 11, 12] rfl (by decide) rfl (Nat.le_of_ble_eq_true rfl) dX8_apart_36 rfl (gBackR [5, 6, 7, 8, 9, 10, 11, 12] rfl ?_)
  rintro _ ⟨r, rfl, hr⟩
  refine g_st (st' := [.int (nI r)]) rfl ?_
  exact hE.iret (⟨rfl, r, rfl, hr⟩) (Nat.zero_le _) (Nat.zero_le _) dX8_apart_39

set_option maxHeartbeats 4000000 in
set_option maxRecDepth 100000 in
theorem qX8_apartX (l : Launch) (D : va_G) (T : Nat → ClassId) (hlt : l.stackTraces = false) (me op oa oc : Nat) (ob : Nat → Nat) (rf er sd it tp ta tc : Nat) (tb : Nat → Nat) (h0 a1 a2 a3 x0 x1 N sg : Nat) (af inf wf : Nat → Nat) (cnt : Nat) (b : Nat → Nat) (n0 s0 s1 s2 s3 s4 : Nat) (sl te pl le fb0 : Nat → Nat) (ns nc fb : Nat) (l0 k0 k1 k2 k3 k4 k5 k6 : Nat) (st to bs bk qu on ba : Nat → Nat) (f0 y0 y1 y2 y3 y4 y5 y6 : Nat) (nw wa fi : Nat → Nat) (sb : Nat → Option Nat) (pa bi fr : Nat → Nat) (cn lb : Nat) (z0 p0 : Nat) (pz : Nat → Nat) (x z : Int32) (hN2 : N ≤ 200) (hv : ¬ (hasV x N = true ∧ hasV z N = true)) : ConT l D T yX8_apart cX8_apart 3 (some .int) 8 1 6 [.ref me, .int x, .int z] [(me, .inr (7, [.ref op, .ref rf, .ref h0, .ref n0, .ref l0, .ref f0, .ref z0, .ref tp])), (h0, .inr (6, [.ref a1, .ref a2, .ref a3, .ref x0, .int (nI N), .int (nI sg)])), (a1, .inl (T 0, 201, .inl (fun z9 => nI (af z9)))), (a2, .inl (T 1, 201, .inr (.inl (fun z9 => lN (inf z9))))), (a3, .inl (T 0, 201, .inl (fun z9 => nI (wf z9))))] xNS := by
  refine ConT.of (by decide) (Nat.le_of_ble_eq_true rfl) ?_
  intro E hE hZ htab hQ
  refine g_lv (lv' := [(0, .ref me), (1, .int x), (2, .int z)]) [0, 1, 2] rfl ?_
  refine g_aload_n (pc' := 1) hE 0 rfl rfl dX8_apart_0 rfl ?_
  refine g_get (pc' := 4) hE gcX8 0 rfl 2 (by decide) rfl kX8_31 dX8_apart_1 rfl ?_
  refine g_iload_n (pc' := 5) hE 1 rfl rfl dX8_apart_4 rfl ?_
  refine g_callV (pc' := 8) (As := [.int x]) (rest := []) hE (qX7_hasV l D T h0 a1 a2 a3 x0 N sg af inf wf x hN2) mX7_hasOrVoid kX8_135 iX7_hasOrVoid sX7_hasOrVoid (by decide) rfl (by decide) 1 rfl rfl [1, 2, 3, 4] rfl (by decide) rfl (Nat.le_of_ble_eq_true rfl) dX8_apart_5 rfl (gBackR [1, 2, 3, 4] rfl ?_)
  rintro _ rfl
  refine g_st (st' := [.int (bI (hasV x N))]) rfl ?_
  refine g_ifB_eq (pc' := 11) (tgt := 22) hE dX8_apart_8 rfl rfl (fun hc8 => ?_) (fun hc8 => ?_)
  · exact g_throw hE hlt hZ htab hQ (by decide) kX8_101 ti_NS ta_NS tb_NS tc_NS hZ.1.2.2.2.1 dX8_apart_22 dX8_apart_25 dX8_apart_26 dX8_apart_29 (by decide) (by decide) (by decide) (by decide)
  · refine g_aload_n (pc' := 12) hE 0 rfl rfl dX8_apart_11 rfl ?_
    refine g_get (pc' := 15) hE gcX8 0 rfl 2 (by decide) rfl kX8_31 dX8_apart_12 rfl ?_
    refine g_iload_n (pc' := 16) hE 2 rfl rfl dX8_apart_15 rfl ?_
    refine g_callV (pc' := 19) (As := [.int z]) (rest := []) hE (qX7_hasV l D T h0 a1 a2 a3 x0 N sg af inf wf z hN2) mX7_hasOrVoid kX8_135 iX7_hasOrVoid sX7_hasOrVoid (by decide) rfl (by decide) 1 rfl rfl [1, 2, 3, 4] rfl (by decide) rfl (Nat.le_of_ble_eq_true rfl) dX8_apart_16 rfl (gBackR [1, 2, 3, 4] rfl ?_)
    rintro _ rfl
    refine g_st (st' := [.int (bI (hasV z N))]) rfl ?_
    refine g_ifB_ne (pc' := 22) (tgt := 30) hE dX8_apart_19 rfl rfl (fun hc19 => ?_) (fun hc19 => ?_)
    · exact absurd ⟨hc8, hc19⟩ hv
    exact g_throw hE hlt hZ htab hQ (by decide) kX8_101 ti_NS ta_NS tb_NS tc_NS hZ.1.2.2.2.1 dX8_apart_22 dX8_apart_25 dX8_apart_26 dX8_apart_29 (by decide) (by decide) (by decide) (by decide)
