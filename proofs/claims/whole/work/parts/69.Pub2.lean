set_option maxHeartbeats 4000000 in
set_option maxRecDepth 100000 in
theorem qX6_ownBytes0 (l : Launch) (D : va_G) (T : Nat → ClassId) (me op oa oc : Nat) (ob : Nat → Nat) (rf er sd it tp ta tc : Nat) (tb : Nat → Nat) (h0 a1 a2 a3 x0 x1 N sg : Nat) (af inf wf : Nat → Nat) (cnt : Nat) (b : Nat → Nat) (n0 s0 s1 s2 s3 s4 : Nat) (sl te pl le fb0 : Nat → Nat) (ns nc fb : Nat) (l0 k0 k1 k2 k3 k4 k5 k6 : Nat) (st to bs bk qu on ba : Nat → Nat) (f0 y0 y1 y2 y3 y4 y5 y6 : Nat) (nw wa fi : Nat → Nat) (sb : Nat → Option Nat) (pa bi fr : Nat → Nat) (cn lb : Nat) (z0 p0 : Nat) (pz : Nat → Nat) (hB : TyB af inf wf) : Con l D T yX6_ownBytes cX6_ownBytes 2 (some .long) 2 0 0 [.ref h0, .int (nI 0)] [(h0, .inr (6, [.ref a1, .ref a2, .ref a3, .ref x0, .int (nI 0), .int (nI sg)])), (a1, .inl (T 0, 201, .inl (fun z9 => nI (af z9)))), (a2, .inl (T 1, 201, .inr (.inl (fun z9 => lN (inf z9))))), (a3, .inl (T 0, 201, .inl (fun z9 => nI (wf z9))))] (fun v w1 => w1 = [(h0, .inr (6, [.ref a1, .ref a2, .ref a3, .ref x0, .int (nI 0), .int (nI sg)])), (a1, .inl (T 0, 201, .inl (fun z9 => nI (af z9)))), (a2, .inl (T 1, 201, .inr (.inl (fun z9 => lN (inf z9))))), (a3, .inl (T 0, 201, .inl (fun z9 => nI (wf z9))))] ∧ v = some (.long (oL none))) := by
  refine Con.of (by decide) (Nat.le_of_ble_eq_true rfl) ?_
  intro E hE
  refine g_lv (lv' := [(0, .ref h0), (1, .int (nI 0))]) [0, 1] rfl ?_
  refine g_aload_n (pc' := 1) hE 0 rfl rfl dX6_ownBytes_0 rfl ?_
  refine g_iload_n (pc' := 2) hE 1 rfl rfl dX6_ownBytes_1 rfl ?_
  refine g_callV (pc' := 5) (As := [.int (nI 0)]) (rest := []) hE (qX7_kind l D T h0 a1 a2 a3 x0 0 sg af inf wf 0 (by decide) hB (by decide)) mX7_kind kX6_21 iX7_kind sX7_kind (by decide) rfl (by decide) 0 rfl rfl [0, 1, 2, 3] rfl (by decide) rfl (Nat.le_of_ble_eq_true rfl) dX6_ownBytes_2 rfl (gBackR [0, 1, 2, 3] rfl ?_)
  rintro _ rfl
  refine g_st (st' := [.int (nI (hv 0 0 (kd (inf 0))))]) rfl ?_
  refine g_eqi (show _ = nI 0 from rfl) ?_
  have hs5_44 : (0 = 1 ∨ 0 = 4 ∨ 0 = 5 ∨ 0 = 6) → G l E D 2 0 0 [(h0, .inr (6, [.ref a1, .ref a2, .ref a3, .ref x0, .int (nI 0), .int (nI sg)])), (a1, .inl (T 0, 201, .inl (fun z9 => nI (af z9)))), (a2, .inl (T 1, 201, .inr (.inl (fun z9 => lN (inf z9))))), (a3, .inl (T 0, 201, .inl (fun z9 => nI (wf z9))))] [(0, .ref h0), (1, .int (nI 0))] 44 [] := by
    intro hsw5
    omega
  have hs5_51 : (0 = 2) → G l E D 2 0 0 [(h0, .inr (6, [.ref a1, .ref a2, .ref a3, .ref x0, .int (nI 0), .int (nI sg)])), (a1, .inl (T 0, 201, .inl (fun z9 => nI (af z9)))), (a2, .inl (T 1, 201, .inr (.inl (fun z9 => lN (inf z9))))), (a3, .inl (T 0, 201, .inl (fun z9 => nI (wf z9))))] [(0, .ref h0), (1, .int (nI 0))] 51 [] := by
    intro hsw5
    omega
  have hs5_55 : (0 ≠ 1 ∧ 0 ≠ 2 ∧ 0 ≠ 4 ∧ 0 ≠ 5 ∧ 0 ≠ 6) → G l E D 2 0 0 [(h0, .inr (6, [.ref a1, .ref a2, .ref a3, .ref x0, .int (nI 0), .int (nI sg)])), (a1, .inl (T 0, 201, .inl (fun z9 => nI (af z9)))), (a2, .inl (T 1, 201, .inr (.inl (fun z9 => lN (inf z9))))), (a3, .inl (T 0, 201, .inl (fun z9 => nI (wf z9))))] [(0, .ref h0), (1, .int (nI 0))] 55 [] := by
    intro hsw5
    refine g_ldc2 (pc' := 58) hE (v := (-1)) kX6_43 dX6_ownBytes_55 rfl ?_
    exact hE.lret (⟨rfl, rfl⟩) (Nat.zero_le _) (Nat.zero_le _) dX6_ownBytes_58
  rcases (show 0 = 1 ∨ 0 = 2 ∨ 0 = 3 ∨ 0 = 4 ∨ 0 = 5 ∨ 0 = 6 ∨ ((0 : Nat) < 1 ∨ 6 < 0) by omega) with hz | hz | hz | hz | hz | hz | hz
  · exact g_tabIn (tgt := 44) hE 1 hz (by decide) (by decide) (by decide) dX6_ownBytes_5 rfl rfl (hs5_44 (by omega))
  · exact g_tabIn (tgt := 51) hE 2 hz (by decide) (by decide) (by decide) dX6_ownBytes_5 rfl rfl (hs5_51 (by omega))
  · exact g_tabIn (tgt := 55) hE 3 hz (by decide) (by decide) (by decide) dX6_ownBytes_5 rfl rfl (hs5_55 (by omega))
  · exact g_tabIn (tgt := 44) hE 4 hz (by decide) (by decide) (by decide) dX6_ownBytes_5 rfl rfl (hs5_44 (by omega))
  · exact g_tabIn (tgt := 44) hE 5 hz (by decide) (by decide) (by decide) dX6_ownBytes_5 rfl rfl (hs5_44 (by omega))
  · exact g_tabIn (tgt := 44) hE 6 hz (by decide) (by decide) (by decide) dX6_ownBytes_5 rfl rfl (hs5_44 (by omega))
  · exact g_tabOut (tgt := 55) hE (by decide) (by omega) dX6_ownBytes_5 rfl (hs5_55 (by omega))

set_option maxHeartbeats 4000000 in
set_option maxRecDepth 100000 in
theorem qX6_measure0 (l : Launch) (D : va_G) (T : Nat → ClassId) (me op oa oc : Nat) (ob : Nat → Nat) (rf er sd it tp ta tc : Nat) (tb : Nat → Nat) (h0 a1 a2 a3 x0 x1 N sg : Nat) (af inf wf : Nat → Nat) (cnt : Nat) (b : Nat → Nat) (n0 s0 s1 s2 s3 s4 : Nat) (sl te pl le fb0 : Nat → Nat) (ns nc fb : Nat) (l0 k0 k1 k2 k3 k4 k5 k6 : Nat) (st to bs bk qu on ba : Nat → Nat) (f0 y0 y1 y2 y3 y4 y5 y6 : Nat) (nw wa fi : Nat → Nat) (sb : Nat → Option Nat) (pa bi fr : Nat → Nat) (cn lb : Nat) (z0 p0 : Nat) (pz : Nat → Nat) (hB : TyB af inf wf) : Con l D T yX6_measure cX6_measure 8 (some .long) 3 0 0 [.ref z0, .ref h0, .int (nI 0)] [(z0, .inr (5, [.ref p0])), (p0, .inl (T 0, 201, .inl (fun z9 => nI (pz z9)))), (h0, .inr (6, [.ref a1, .ref a2, .ref a3, .ref x0, .int (nI 0), .int (nI sg)])), (a1, .inl (T 0, 201, .inl (fun z9 => nI (af z9)))), (a2, .inl (T 1, 201, .inr (.inl (fun z9 => lN (inf z9))))), (a3, .inl (T 0, 201, .inl (fun z9 => nI (wf z9))))] (fun v w1 => w1 = [(z0, .inr (5, [.ref p0])), (p0, .inl (T 0, 201, .inl (fun z9 => nI (pz z9)))), (h0, .inr (6, [.ref a1, .ref a2, .ref a3, .ref x0, .int (nI 0), .int (nI sg)])), (a1, .inl (T 0, 201, .inl (fun z9 => nI (af z9)))), (a2, .inl (T 1, 201, .inr (.inl (fun z9 => lN (inf z9))))), (a3, .inl (T 0, 201, .inl (fun z9 => nI (wf z9))))] ∧ v = some (.long (oL none))) := by
  refine Con.of (by decide) (Nat.le_of_ble_eq_true rfl) ?_
  intro E hE
  refine g_lv (lv' := [(0, .ref z0), (1, .ref h0), (2, .int (nI 0))]) [0, 1, 2] rfl ?_
  refine g_iconst (pc' := 1) hE (nI 0) (by decide) dX6_measure_0 rfl ?_
  refine g_istore_n (pc' := 2) hE [(3, .int (nI 0)), (0, .ref z0), (1, .ref h0), (2, .int (nI 0))] dX6_measure_1 rfl rfl (by decide) rfl ?_
  refine g_iload_n (pc' := 3) hE 3 rfl rfl dX6_measure_2 rfl ?_
  refine g_istore (pc' := 5) hE [(4, .int (nI 0)), (3, .int (nI 0)), (0, .ref z0), (1, .ref h0), (2, .int (nI 0))] dX6_measure_3 rfl (by decide) rfl ?_
  refine g_iload_n (pc' := 6) hE 1 rfl rfl dX6_measure_5 rfl ?_
  refine g_aload_n (pc' := 7) hE 3 rfl rfl dX6_measure_6 rfl ?_
  refine g_callV (pc' := 10) (As := []) (rest := [.int (nI 0)]) hE (qX7_count l D T h0 a1 a2 a3 x0 0 sg af inf wf ) mX7_count kX6_15 iX7_count sX7_count (by decide) rfl (by decide) 2 rfl rfl [2, 3, 4, 5] rfl (by decide) rfl (Nat.le_of_ble_eq_true rfl) dX6_measure_7 rfl (gBackR [2, 3, 4, 5] rfl ?_)
  rintro _ rfl
  refine g_st (st' := [.int (nI 0), .int (nI 0)]) rfl ?_
  refine g_icmpN_ge (pc' := 13) (tgt := 63) hE (by omega) (by omega) dX6_measure_10 rfl rfl (fun hc10 => ?_) (fun hc10 => ?_)
  rotate_left
  · omega
  refine g_aload_n (pc' := 64) hE 3 rfl rfl dX6_measure_63 rfl ?_
  refine g_iload (pc' := 66) hE 0 rfl dX6_measure_64 rfl ?_
  refine g_callS (pc' := 69) (As := [.ref h0, .int (nI 0)]) (rest := []) hE (qX6_ownBytes0 l D T me op oa oc ob rf er sd it tp ta tc tb h0 a1 a2 a3 x0 x1 N sg af inf wf cnt b n0 s0 s1 s2 s3 s4 sl te pl le fb0 ns nc fb l0 k0 k1 k2 k3 k4 k5 k6 st to bs bk qu on ba f0 y0 y1 y2 y3 y4 y5 y6 nw wa fi sb pa bi fr cn lb z0 p0 pz hB) mX6_ownBytes kX6_33 iX6_ownBytes (by decide) rfl (by decide) [2, 3, 4, 5] rfl (by decide) rfl (Nat.le_of_ble_eq_true rfl) dX6_measure_66 rfl (gBackR [2, 3, 4, 5] rfl ?_)
  rintro _ rfl
  refine g_st (st' := [.long (oL none)]) rfl ?_
  refine g_lstore (pc' := 71) hE [(5, .long (oL none)), (4, .int (nI 0)), (3, .int (nI 0)), (0, .ref z0), (1, .ref h0), (2, .int (nI 0))] dX6_measure_69 rfl (by decide) rfl ?_
  refine g_iload_n (pc' := 72) hE 2 rfl rfl dX6_measure_71 rfl ?_
  refine g_iconst (pc' := 73) hE (nI 1) (by decide) dX6_measure_72 rfl ?_
  refine g_isub (pc' := 74) hE dX6_measure_73 rfl ?_
  refine g_istore (pc' := 76) hE [(7, .int ((nI 0) - (nI 1))), (5, .long (oL none)), (4, .int (nI 0)), (3, .int (nI 0)), (0, .ref z0), (1, .ref h0), (2, .int (nI 0))] dX6_measure_74 rfl (by decide) rfl ?_
  refine g_iload (pc' := 78) hE 0 rfl dX6_measure_76 rfl ?_
  refine g_if_lt (pc' := 81) (tgt := 128) hE dX6_measure_78 rfl rfl (fun hc78 => ?_) (fun hc78 => ?_)
  rotate_left
  · exact absurd (show nI 0 - nI 1 < 0 by decide) hc78
  refine g_lload (pc' := 130) hE 1 rfl dX6_measure_128 rfl ?_
  exact hE.lret (⟨rfl, rfl⟩) (Nat.zero_le _) (Nat.zero_le _) dX6_measure_130

set_option maxHeartbeats 4000000 in
set_option maxRecDepth 100000 in
theorem qX8_bytes (l : Launch) (D : va_G) (T : Nat → ClassId) (me op oa oc : Nat) (ob : Nat → Nat) (rf er sd it tp ta tc : Nat) (tb : Nat → Nat) (h0 a1 a2 a3 x0 x1 N sg : Nat) (af inf wf : Nat → Nat) (cnt : Nat) (b : Nat → Nat) (n0 s0 s1 s2 s3 s4 : Nat) (sl te pl le fb0 : Nat → Nat) (ns nc fb : Nat) (l0 k0 k1 k2 k3 k4 k5 k6 : Nat) (st to bs bk qu on ba : Nat → Nat) (f0 y0 y1 y2 y3 y4 y5 y6 : Nat) (nw wa fi : Nat → Nat) (sb : Nat → Option Nat) (pa bi fr : Nat → Nat) (cn lb : Nat) (z0 p0 : Nat) (pz : Nat → Nat) (i : Nat) (hc : cnt ≤ 8192) (hb : ∀ i, b i < 256) (hT : TyArr (cut b cnt) N af inf wf) (hN2 : N ≤ 200) (hok : okUpTo (cut b cnt) sg cnt N) (hsg : sg ≤ cnt) (hhi : hiAll (cut b cnt) N ≤ N) (hi : i ≤ N) : Con l D T yX8_bytes cX8_bytes 2 (some .long) 8 0 0 [.ref me, .int (nI i)] [(me, .inr (7, [.ref op, .ref rf, .ref h0, .ref n0, .ref l0, .ref f0, .ref z0, .ref tp])), (z0, .inr (5, [.ref p0])), (p0, .inl (T 0, 201, .inl (fun z9 => nI (pz z9)))), (h0, .inr (6, [.ref a1, .ref a2, .ref a3, .ref x0, .int (nI N), .int (nI sg)])), (a1, .inl (T 0, 201, .inl (fun z9 => nI (af z9)))), (a2, .inl (T 1, 201, .inr (.inl (fun z9 => lN (inf z9))))), (a3, .inl (T 0, 201, .inl (fun z9 => nI (wf z9)))), (x0, .inr (4, [.int (nI 8192), .ref x1, .int (nI cnt)])), (x1, .inl (T 1, ((8192 + 7) / 8), .inr (.inl (pack b))))] (fun v w1 => ∃ (pz' : Nat → Nat) (r : Option Nat), v = some (.long (oL r)) ∧ w1 = [(me, .inr (7, [.ref op, .ref rf, .ref h0, .ref n0, .ref l0, .ref f0, .ref z0, .ref tp])), (z0, .inr (5, [.ref p0])), (p0, .inl (T 0, 201, .inl (fun z9 => nI (pz' z9)))), (h0, .inr (6, [.ref a1, .ref a2, .ref a3, .ref x0, .int (nI N), .int (nI sg)])), (a1, .inl (T 0, 201, .inl (fun z9 => nI (af z9)))), (a2, .inl (T 1, 201, .inr (.inl (fun z9 => lN (inf z9))))), (a3, .inl (T 0, 201, .inl (fun z9 => nI (wf z9)))), (x0, .inr (4, [.int (nI 8192), .ref x1, .int (nI cnt)])), (x1, .inl (T 1, ((8192 + 7) / 8), .inr (.inl (pack b))))] ∧ SzR (cut b cnt) N i r) := by
  refine Con.of (by decide) (Nat.le_of_ble_eq_true rfl) ?_
  intro E hE
  refine g_lv (lv' := [(0, .ref me), (1, .int (nI i))]) [0, 1] rfl ?_
  refine g_aload_n (pc' := 1) hE 0 rfl rfl dX8_bytes_0 rfl ?_
  refine g_get (pc' := 4) hE gcX8 0 rfl 2 (by decide) rfl kX8_31 dX8_bytes_1 rfl ?_
  refine g_iload_n (pc' := 5) hE 1 rfl rfl dX8_bytes_4 rfl ?_
  refine g_callV (pc' := 8) (As := [.int (nI i)]) (rest := []) hE (qX7_hasV l D T h0 a1 a2 a3 x0 N sg af inf wf (nI i) hN2) mX7_hasOrVoid kX8_135 iX7_hasOrVoid sX7_hasOrVoid (by decide) rfl (by decide) 3 rfl rfl [3, 4, 5, 6] rfl (by decide) rfl (Nat.le_of_ble_eq_true rfl) dX8_bytes_5 rfl (gBackR [3, 4, 5, 6] rfl ?_)
  rintro _ rfl
  refine g_st (st' := [.int (bI (hasV (nI i) N))]) rfl ?_
  refine g_ifB_ne (pc' := 11) (tgt := 19) hE dX8_bytes_8 rfl rfl (fun hc8 => ?_) (fun hc8 => ?_)
  rotate_left
  · exact absurd hc8 (by rw [hasV_N hi hN2]; decide)
  refine g_aload_n (pc' := 20) hE 0 rfl rfl dX8_bytes_19 rfl ?_
  refine g_get (pc' := 23) hE gcX8 0 rfl 6 (by decide) rfl kX8_59 dX8_bytes_20 rfl ?_
  refine g_aload_n (pc' := 24) hE 0 rfl rfl dX8_bytes_23 rfl ?_
  refine g_get (pc' := 27) hE gcX8 0 rfl 2 (by decide) rfl kX8_31 dX8_bytes_24 rfl ?_
  refine g_iload_n (pc' := 28) hE 1 rfl rfl dX8_bytes_27 rfl ?_
  refine g_callV (pc' := 31) (As := [.ref h0, .int (nI i)]) (rest := []) hE (qX6_measure l D T z0 p0 pz h0 a1 a2 a3 x0 N sg af inf wf x1 cnt b i hc hb hT hok hsg hhi hi) mX6_measure kX8_141 iX6_measure sX6_measure (by decide) rfl (by decide) 1 rfl rfl [1, 2, 3, 4, 5, 6, 7, 8] rfl (by decide) rfl (Nat.le_of_ble_eq_true rfl) dX8_bytes_28 rfl (gBackU [1, 2, 3, 4, 5, 6, 7, 8] rfl (fun v w1 y => by obtain ⟨_, _, rfl, _⟩ := y; rfl) ?_)
  rintro _ _ ⟨pz', s, rfl, hs1, hs2, hs3, rfl⟩
  refine g_w (ws' := [(me, .inr (7, [.ref op, .ref rf, .ref h0, .ref n0, .ref l0, .ref f0, .ref z0, .ref tp])), (z0, .inr (5, [.ref p0])), (p0, .inl (T 0, 201, .inl (fun z9 => nI (pz' z9)))), (h0, .inr (6, [.ref a1, .ref a2, .ref a3, .ref x0, .int (nI N), .int (nI sg)])), (a1, .inl (T 0, 201, .inl (fun z9 => nI (af z9)))), (a2, .inl (T 1, 201, .inr (.inl (fun z9 => lN (inf z9))))), (a3, .inl (T 0, 201, .inl (fun z9 => nI (wf z9)))), (x0, .inr (4, [.int (nI 8192), .ref x1, .int (nI cnt)])), (x1, .inl (T 1, ((8192 + 7) / 8), .inr (.inl (pack b))))]) (rfl) ?_
  refine g_st (st' := [.long (oL (fdZ (cut b cnt) N i s (ownZ (cut b cnt) N (pth (cut b cnt) N i s))))]) rfl ?_
  exact hE.lret (⟨pz', _, rfl, rfl, s, hs1, hs2, hs3, rfl⟩) (Nat.zero_le _) (Nat.zero_le _) dX8_bytes_31

set_option maxHeartbeats 4000000 in
set_option maxRecDepth 100000 in
theorem qX8_bytes0 (l : Launch) (D : va_G) (T : Nat → ClassId) (me op oa oc : Nat) (ob : Nat → Nat) (rf er sd it tp ta tc : Nat) (tb : Nat → Nat) (h0 a1 a2 a3 x0 x1 N sg : Nat) (af inf wf : Nat → Nat) (cnt : Nat) (b : Nat → Nat) (n0 s0 s1 s2 s3 s4 : Nat) (sl te pl le fb0 : Nat → Nat) (ns nc fb : Nat) (l0 k0 k1 k2 k3 k4 k5 k6 : Nat) (st to bs bk qu on ba : Nat → Nat) (f0 y0 y1 y2 y3 y4 y5 y6 : Nat) (nw wa fi : Nat → Nat) (sb : Nat → Option Nat) (pa bi fr : Nat → Nat) (cn lb : Nat) (z0 p0 : Nat) (pz : Nat → Nat) (hB : TyB af inf wf) : Con l D T yX8_bytes cX8_bytes 2 (some .long) 8 0 0 [.ref me, .int (nI 0)] [(me, .inr (7, [.ref op, .ref rf, .ref h0, .ref n0, .ref l0, .ref f0, .ref z0, .ref tp])), (z0, .inr (5, [.ref p0])), (p0, .inl (T 0, 201, .inl (fun z9 => nI (pz z9)))), (h0, .inr (6, [.ref a1, .ref a2, .ref a3, .ref x0, .int (nI 0), .int (nI sg)])), (a1, .inl (T 0, 201, .inl (fun z9 => nI (af z9)))), (a2, .inl (T 1, 201, .inr (.inl (fun z9 => lN (inf z9))))), (a3, .inl (T 0, 201, .inl (fun z9 => nI (wf z9))))] (fun v w1 => w1 = [(me, .inr (7, [.ref op, .ref rf, .ref h0, .ref n0, .ref l0, .ref f0, .ref z0, .ref tp])), (z0, .inr (5, [.ref p0])), (p0, .inl (T 0, 201, .inl (fun z9 => nI (pz z9)))), (h0, .inr (6, [.ref a1, .ref a2, .ref a3, .ref x0, .int (nI 0), .int (nI sg)])), (a1, .inl (T 0, 201, .inl (fun z9 => nI (af z9)))), (a2, .inl (T 1, 201, .inr (.inl (fun z9 => lN (inf z9))))), (a3, .inl (T 0, 201, .inl (fun z9 => nI (wf z9))))] ∧ v = some (.long (oL none))) := by
  refine Con.of (by decide) (Nat.le_of_ble_eq_true rfl) ?_
  intro E hE
  refine g_lv (lv' := [(0, .ref me), (1, .int (nI 0))]) [0, 1] rfl ?_
  refine g_aload_n (pc' := 1) hE 0 rfl rfl dX8_bytes_0 rfl ?_
  refine g_get (pc' := 4) hE gcX8 0 rfl 2 (by decide) rfl kX8_31 dX8_bytes_1 rfl ?_
  refine g_iload_n (pc' := 5) hE 1 rfl rfl dX8_bytes_4 rfl ?_
  refine g_callV (pc' := 8) (As := [.int (nI 0)]) (rest := []) hE (qX7_hasV l D T h0 a1 a2 a3 x0 0 sg af inf wf (nI 0) (by decide)) mX7_hasOrVoid kX8_135 iX7_hasOrVoid sX7_hasOrVoid (by decide) rfl (by decide) 3 rfl rfl [3, 4, 5, 6] rfl (by decide) rfl (Nat.le_of_ble_eq_true rfl) dX8_bytes_5 rfl (gBackR [3, 4, 5, 6] rfl ?_)
  rintro _ rfl
  refine g_st (st' := [.int (bI (hasV (nI 0) 0))]) rfl ?_
  refine g_ifB_ne (pc' := 11) (tgt := 19) hE dX8_bytes_8 rfl rfl (fun hc8 => ?_) (fun hc8 => ?_)
  rotate_left
  · exact absurd hc8 (by decide)
  refine g_aload_n (pc' := 20) hE 0 rfl rfl dX8_bytes_19 rfl ?_
  refine g_get (pc' := 23) hE gcX8 0 rfl 6 (by decide) rfl kX8_59 dX8_bytes_20 rfl ?_
  refine g_aload_n (pc' := 24) hE 0 rfl rfl dX8_bytes_23 rfl ?_
  refine g_get (pc' := 27) hE gcX8 0 rfl 2 (by decide) rfl kX8_31 dX8_bytes_24 rfl ?_
  refine g_iload_n (pc' := 28) hE 1 rfl rfl dX8_bytes_27 rfl ?_
  refine g_callV (pc' := 31) (As := [.ref h0, .int (nI 0)]) (rest := []) hE (qX6_measure0 l D T me op oa oc ob rf er sd it tp ta tc tb h0 a1 a2 a3 x0 x1 N sg af inf wf cnt b n0 s0 s1 s2 s3 s4 sl te pl le fb0 ns nc fb l0 k0 k1 k2 k3 k4 k5 k6 st to bs bk qu on ba f0 y0 y1 y2 y3 y4 y5 y6 nw wa fi sb pa bi fr cn lb z0 p0 pz hB) mX6_measure kX8_141 iX6_measure sX6_measure (by decide) rfl (by decide) 1 rfl rfl [1, 2, 3, 4, 5, 6] rfl (by decide) rfl (Nat.le_of_ble_eq_true rfl) dX8_bytes_28 rfl (gBackR [1, 2, 3, 4, 5, 6] rfl ?_)
  rintro _ rfl
  refine g_st (st' := [.long (oL none)]) rfl ?_
  exact hE.lret (⟨rfl, rfl⟩) (Nat.zero_le _) (Nat.zero_le _) dX8_bytes_31

set_option maxHeartbeats 4000000 in
set_option maxRecDepth 100000 in
theorem qX8_bytesX (l : Launch) (D : va_G) (T : Nat → ClassId) (hlt : l.stackTraces = false) (me op oa oc : Nat) (ob : Nat → Nat) (rf er sd it tp ta tc : Nat) (tb : Nat → Nat) (h0 a1 a2 a3 x0 x1 N sg : Nat) (af inf wf : Nat → Nat) (cnt : Nat) (b : Nat → Nat) (n0 s0 s1 s2 s3 s4 : Nat) (sl te pl le fb0 : Nat → Nat) (ns nc fb : Nat) (l0 k0 k1 k2 k3 k4 k5 k6 : Nat) (st to bs bk qu on ba : Nat → Nat) (f0 y0 y1 y2 y3 y4 y5 y6 : Nat) (nw wa fi : Nat → Nat) (sb : Nat → Option Nat) (pa bi fr : Nat → Nat) (cn lb : Nat) (z0 p0 : Nat) (pz : Nat → Nat) (x : Int32) (hN2 : N ≤ 200) (hv : ¬ hasV x N = true) : ConT l D T yX8_bytes cX8_bytes 2 (some .long) 8 1 6 [.ref me, .int x] [(me, .inr (7, [.ref op, .ref rf, .ref h0, .ref n0, .ref l0, .ref f0, .ref z0, .ref tp])), (h0, .inr (6, [.ref a1, .ref a2, .ref a3, .ref x0, .int (nI N), .int (nI sg)])), (a1, .inl (T 0, 201, .inl (fun z9 => nI (af z9)))), (a2, .inl (T 1, 201, .inr (.inl (fun z9 => lN (inf z9))))), (a3, .inl (T 0, 201, .inl (fun z9 => nI (wf z9))))] xNS := by
  refine ConT.of (by decide) (Nat.le_of_ble_eq_true rfl) ?_
  intro E hE hZ htab hQ
  refine g_lv (lv' := [(0, .ref me), (1, .int x)]) [0, 1] rfl ?_
  refine g_aload_n (pc' := 1) hE 0 rfl rfl dX8_bytes_0 rfl ?_
  refine g_get (pc' := 4) hE gcX8 0 rfl 2 (by decide) rfl kX8_31 dX8_bytes_1 rfl ?_
  refine g_iload_n (pc' := 5) hE 1 rfl rfl dX8_bytes_4 rfl ?_
  refine g_callV (pc' := 8) (As := [.int x]) (rest := []) hE (qX7_hasV l D T h0 a1 a2 a3 x0 N sg af inf wf x hN2) mX7_hasOrVoid kX8_135 iX7_hasOrVoid sX7_hasOrVoid (by decide) rfl (by decide) 1 rfl rfl [1, 2, 3, 4] rfl (by decide) rfl (Nat.le_of_ble_eq_true rfl) dX8_bytes_5 rfl (gBackR [1, 2, 3, 4] rfl ?_)
  rintro _ rfl
  refine g_st (st' := [.int (bI (hasV x N))]) rfl ?_
  refine g_ifB_ne (pc' := 11) (tgt := 19) hE dX8_bytes_8 rfl rfl (fun hc8 => ?_) (fun hc8 => ?_)
  · exact absurd hc8 hv
  exact g_throw hE hlt hZ htab hQ (by decide) kX8_101 ti_NS ta_NS tb_NS tc_NS hZ.1.2.2.2.1 dX8_bytes_11 dX8_bytes_14 dX8_bytes_15 dX8_bytes_18 (by decide) (by decide) (by decide) (by decide)

set_option maxHeartbeats 4000000 in
set_option maxRecDepth 100000 in
theorem qX8_find (l : Launch) (D : va_G) (T : Nat → ClassId) (me op oa oc : Nat) (ob : Nat → Nat) (rf er sd it tp ta tc : Nat) (tb : Nat → Nat) (h0 a1 a2 a3 x0 x1 N sg : Nat) (af inf wf : Nat → Nat) (cnt : Nat) (b : Nat → Nat) (n0 s0 s1 s2 s3 s4 : Nat) (sl te pl le fb0 : Nat → Nat) (ns nc fb : Nat) (l0 k0 k1 k2 k3 k4 k5 k6 : Nat) (st to bs bk qu on ba : Nat → Nat) (f0 y0 y1 y2 y3 y4 y5 y6 : Nat) (nw wa fi : Nat → Nat) (sb : Nat → Option Nat) (pa bi fr : Nat → Nat) (cn lb : Nat) (z0 p0 : Nat) (pz : Nat → Nat) (k f : Nat) (hc : cnt ≤ 8192) (hb : ∀ i, b i < 256) (hT : TyArr (cut b cnt) N af inf wf) (hN2 : N ≤ 200) (htc : tc ≤ 8192) (htb : ∀ i, tb i < 256) (hNm : NamesOK (cut b cnt) N sg sl te pl le fb0 ns nc fb) (hk : k ≤ 13) (hf : 1 ≤ f ∧ f < 2 ^ 31) : Con l D T yX8_find cX8_find 4 (some .int) 8 0 0 [.ref me, .int (nI k), .int (nI f)] [(me, .inr (7, [.ref op, .ref rf, .ref h0, .ref n0, .ref l0, .ref f0, .ref z0, .ref tp])), (tp, .inr (4, [.int (nI 8192), .ref ta, .int (nI tc)])), (ta, .inl (T 1, ((8192 + 7) / 8), .inr (.inl (pack tb)))), (h0, .inr (6, [.ref a1, .ref a2, .ref a3, .ref x0, .int (nI N), .int (nI sg)])), (a1, .inl (T 0, 201, .inl (fun z9 => nI (af z9)))), (a2, .inl (T 1, 201, .inr (.inl (fun z9 => lN (inf z9))))), (a3, .inl (T 0, 201, .inl (fun z9 => nI (wf z9)))), (x0, .inr (4, [.int (nI 8192), .ref x1, .int (nI cnt)])), (x1, .inl (T 1, ((8192 + 7) / 8), .inr (.inl (pack b)))), (n0, .inr (2, [.ref s0, .ref s1, .ref s2, .ref s3, .ref s4, .int (nI ns), .int (nI nc), .int (nI fb)])), (s0, .inl (T 0, 201, .inl (fun z9 => nI (sl z9)))), (s1, .inl (T 0, 800, .inl (fun z9 => nI (te z9)))), (s2, .inl (T 0, 801, .inl (fun z9 => nI (pl z9)))), (s3, .inl (T 0, 801, .inl (fun z9 => nI (le z9)))), (s4, .inl (T 0, 801, .inl (fun z9 => nI (fb0 z9))))] (fun v w1 => ∃ r : Nat, v = some (.int (nI r)) ∧ w1 = [(me, .inr (7, [.ref op, .ref rf, .ref h0, .ref n0, .ref l0, .ref f0, .ref z0, .ref tp])), (tp, .inr (4, [.int (nI 8192), .ref ta, .int (nI 0)])), (ta, .inl (T 1, ((8192 + 7) / 8), .inr (.inl (pack tb)))), (h0, .inr (6, [.ref a1, .ref a2, .ref a3, .ref x0, .int (nI N), .int (nI sg)])), (a1, .inl (T 0, 201, .inl (fun z9 => nI (af z9)))), (a2, .inl (T 1, 201, .inr (.inl (fun z9 => lN (inf z9))))), (a3, .inl (T 0, 201, .inl (fun z9 => nI (wf z9)))), (x0, .inr (4, [.int (nI 8192), .ref x1, .int (nI cnt)])), (x1, .inl (T 1, ((8192 + 7) / 8), .inr (.inl (pack b)))), (n0, .inr (2, [.ref s0, .ref s1, .ref s2, .ref s3, .ref s4, .int (nI ns), .int (nI nc), .int (nI fb)])), (s0, .inl (T 0, 201, .inl (fun z9 => nI (sl z9)))), (s1, .inl (T 0, 800, .inl (fun z9 => nI (te z9)))), (s2, .inl (T 0, 801, .inl (fun z9 => nI (pl z9)))), (s3, .inl (T 0, 801, .inl (fun z9 => nI (le z9)))), (s4, .inl (T 0, 801, .inl (fun z9 => nI (fb0 z9))))] ∧ Least (cut b cnt) sg N (cut tb tc) tc k f r) := by
  refine Con.of (by decide) (Nat.le_of_ble_eq_true rfl) ?_
  intro E hE
  refine g_lv (lv' := [(0, .ref me), (1, .int (nI k)), (2, .int (nI f))]) [0, 1, 2] rfl ?_
  refine g_iload_n (pc' := 1) hE 1 rfl rfl dX8_find_0 rfl ?_
  refine g_ifN_lt (pc' := 4) (tgt := 15) hE (by omega) dX8_find_1 rfl rfl (fun hc1 => ?_) (fun hc1 => ?_)
  · exact hc1.elim
  refine g_iload_n (pc' := 5) hE 1 rfl rfl dX8_find_4 rfl ?_
  refine g_bipush (pc' := 7) hE (nI 13) (by decide) dX8_find_5 rfl ?_
  refine g_icmpN_gt (pc' := 10) (tgt := 15) hE (by omega) (by omega) dX8_find_7 rfl rfl (fun hc7 => ?_) (fun hc7 => ?_)
  · omega
  refine g_iload_n (pc' := 11) hE 2 rfl rfl dX8_find_10 rfl ?_
  refine g_iconst (pc' := 12) hE (nI 1) (by decide) dX8_find_11 rfl ?_
  refine g_icmpN_ge (pc' := 15) (tgt := 23) hE (by omega) (by omega) dX8_find_12 rfl rfl (fun hc12 => ?_) (fun hc12 => ?_)
  rotate_left
  · omega
  refine g_aload_n (pc' := 24) hE 0 rfl rfl dX8_find_23 rfl ?_
  refine g_iload_n (pc' := 25) hE 1 rfl rfl dX8_find_24 rfl ?_
  refine g_iload_n (pc' := 26) hE 2 rfl rfl dX8_find_25 rfl ?_
  refine g_callV (pc' := 29) (As := [.int (nI k), .int (nI f)]) (rest := []) hE (qX8_leastNamedAsTape l D T me op rf z0 tp ta h0 a1 a2 a3 x0 x1 N sg af inf wf cnt b l0 f0 tc tb n0 s0 s1 s2 s3 s4 sl te pl le fb0 ns nc fb k f hc hb hT hN2 htc htb hNm hk hf) mX8_leastNamedAsTape kX8_145 iX8_leastNamedAsTape sX8_leastNamedAsTape (by decide) rfl (by decide) 0 rfl rfl [0, 1, 2, 3, 4, 5, 6, 7, 8, 9, 10, 11, 12, 13, 14] rfl (by decide) rfl (Nat.le_of_ble_eq_true rfl) dX8_find_26 rfl (gBackR [0, 1, 2, 3, 4, 5, 6, 7, 8, 9, 10, 11, 12, 13, 14] rfl ?_)
  rintro _ ⟨r, rfl, hr⟩
  refine g_st (st' := [.int (nI r)]) rfl ?_
  refine g_istore_n (pc' := 30) hE [(3, .int (nI r)), (0, .ref me), (1, .int (nI k)), (2, .int (nI f))] dX8_find_29 rfl rfl (by decide) rfl ?_
  refine g_aload_n (pc' := 31) hE 1 rfl rfl dX8_find_30 rfl ?_
  refine g_get (pc' := 34) hE gcX8 0 rfl 7 (by decide) rfl kX8_14 dX8_find_31 rfl ?_
  refine g_callV (pc' := 37) (As := []) (rest := []) hE (qX5_clear l D T tp ta 8192 tc tb) mX5_clear kX8_94 iX5_clear sX5_clear (by decide) rfl (by decide) 1 rfl rfl [1, 2] rfl (by decide) rfl (Nat.le_of_ble_eq_true rfl) dX8_find_34 rfl (gBackU [1, 2] rfl (fun v w1 h => by obtain ⟨_, rfl⟩ := h; simp only [List.map_cons, List.map_nil]) ?_)
  rintro _ _ ⟨rfl, rfl⟩
  refine g_w (ws' := [(me, .inr (7, [.ref op, .ref rf, .ref h0, .ref n0, .ref l0, .ref f0, .ref z0, .ref tp])), (tp, .inr (4, [.int (nI 8192), .ref ta, .int (nI 0)])), (ta, .inl (T 1, ((8192 + 7) / 8), .inr (.inl (pack tb)))), (h0, .inr (6, [.ref a1, .ref a2, .ref a3, .ref x0, .int (nI N), .int (nI sg)])), (a1, .inl (T 0, 201, .inl (fun z9 => nI (af z9)))), (a2, .inl (T 1, 201, .inr (.inl (fun z9 => lN (inf z9))))), (a3, .inl (T 0, 201, .inl (fun z9 => nI (wf z9)))), (x0, .inr (4, [.int (nI 8192), .ref x1, .int (nI cnt)])), (x1, .inl (T 1, ((8192 + 7) / 8), .inr (.inl (pack b)))), (n0, .inr (2, [.ref s0, .ref s1, .ref s2, .ref s3, .ref s4, .int (nI ns), .int (nI nc), .int (nI fb)])), (s0, .inl (T 0, 201, .inl (fun z9 => nI (sl z9)))), (s1, .inl (T 0, 800, .inl (fun z9 => nI (te z9)))), (s2, .inl (T 0, 801, .inl (fun z9 => nI (pl z9)))), (s3, .inl (T 0, 801, .inl (fun z9 => nI (le z9)))), (s4, .inl (T 0, 801, .inl (fun z9 => nI (fb0 z9))))]) (rfl) ?_
  refine g_iload_n (pc' := 38) hE 0 rfl rfl dX8_find_37 rfl ?_
  exact hE.iret (⟨r, rfl, rfl, hr⟩) (Nat.zero_le _) (Nat.zero_le _) dX8_find_38

set_option maxHeartbeats 4000000 in
set_option maxRecDepth 100000 in
theorem qX8_findX (l : Launch) (D : va_G) (T : Nat → ClassId) (hlt : l.stackTraces = false) (me op oa oc : Nat) (ob : Nat → Nat) (rf er sd it tp ta tc : Nat) (tb : Nat → Nat) (h0 a1 a2 a3 x0 x1 N sg : Nat) (af inf wf : Nat → Nat) (cnt : Nat) (b : Nat → Nat) (n0 s0 s1 s2 s3 s4 : Nat) (sl te pl le fb0 : Nat → Nat) (ns nc fb : Nat) (l0 k0 k1 k2 k3 k4 k5 k6 : Nat) (st to bs bk qu on ba : Nat → Nat) (f0 y0 y1 y2 y3 y4 y5 y6 : Nat) (nw wa fi : Nat → Nat) (sb : Nat → Option Nat) (pa bi fr : Nat → Nat) (cn lb : Nat) (z0 p0 : Nat) (pz : Nat → Nat) (x z : Int32) (hv : ¬ (0 ≤ x ∧ x ≤ nI 13 ∧ nI 1 ≤ z)) : ConT l D T yX8_find cX8_find 4 (some .int) 8 1 6 [.ref me, .int x, .int z] [(me, .inr (7, [.ref op, .ref rf, .ref h0, .ref n0, .ref l0, .ref f0, .ref z0, .ref tp]))] xIA := by
  refine ConT.of (by decide) (Nat.le_of_ble_eq_true rfl) ?_
  intro E hE hZ htab hQ
  refine g_lv (lv' := [(0, .ref me), (1, .int x), (2, .int z)]) [0, 1, 2] rfl ?_
  refine g_iload_n (pc' := 1) hE 1 rfl rfl dX8_find_0 rfl ?_
  refine g_if_lt (pc' := 4) (tgt := 15) hE dX8_find_1 rfl rfl (fun hc1 => ?_) (fun hc1 => ?_)
  · exact g_throw hE hlt hZ htab hQ (by decide) kX8_63 ti_IA ta_IA tb_IA tc_IA hZ.1.2.1 dX8_find_15 dX8_find_18 dX8_find_19 dX8_find_22 (by decide) (by decide) (by decide) (by decide)
  · refine g_iload_n (pc' := 5) hE 1 rfl rfl dX8_find_4 rfl ?_
    refine g_bipush (pc' := 7) hE (nI 13) (by decide) dX8_find_5 rfl ?_
    refine g_icmp_gt (pc' := 10) (tgt := 15) hE dX8_find_7 rfl rfl (fun hc7 => ?_) (fun hc7 => ?_)
    · exact g_throw hE hlt hZ htab hQ (by decide) kX8_63 ti_IA ta_IA tb_IA tc_IA hZ.1.2.1 dX8_find_15 dX8_find_18 dX8_find_19 dX8_find_22 (by decide) (by decide) (by decide) (by decide)
    · refine g_iload_n (pc' := 11) hE 2 rfl rfl dX8_find_10 rfl ?_
      refine g_iconst (pc' := 12) hE (nI 1) (by decide) dX8_find_11 rfl ?_
      refine g_icmp_ge (pc' := 15) (tgt := 23) hE dX8_find_12 rfl rfl (fun hc12 => ?_) (fun hc12 => ?_)
      · exact absurd ⟨Int32.not_lt.mp hc1, Int32.not_lt.mp hc7, hc12⟩ hv
      exact g_throw hE hlt hZ htab hQ (by decide) kX8_63 ti_IA ta_IA tb_IA tc_IA hZ.1.2.1 dX8_find_15 dX8_find_18 dX8_find_19 dX8_find_22 (by decide) (by decide) (by decide) (by decide)

set_option maxHeartbeats 4000000 in
set_option maxRecDepth 100000 in
theorem qX8_ring (l : Launch) (D : va_G) (T : Nat → ClassId) (me op oa oc : Nat) (ob : Nat → Nat) (rf er sd it tp ta tc : Nat) (tb : Nat → Nat) (h0 a1 a2 a3 x0 x1 N sg : Nat) (af inf wf : Nat → Nat) (cnt : Nat) (b : Nat → Nat) (n0 s0 s1 s2 s3 s4 : Nat) (sl te pl le fb0 : Nat → Nat) (ns nc fb : Nat) (l0 k0 k1 k2 k3 k4 k5 k6 : Nat) (st to bs bk qu on ba : Nat → Nat) (f0 y0 y1 y2 y3 y4 y5 y6 : Nat) (nw wa fi : Nat → Nat) (sb : Nat → Option Nat) (pa bi fr : Nat → Nat) (cn lb : Nat) (z0 p0 : Nat) (pz : Nat → Nat) (i : Nat) (hN2 : N ≤ 200) (hLk : LinksOK (cut b cnt) N st to bs bk) (hhi : hiAll (cut b cnt) N ≤ N) (h1i : 1 ≤ i) (h2i : i ≤ N) (hon : ∀ j, on j ≤ 1) (hba : ∀ j, ba j ≤ 1) : Con l D T yX8_ring cX8_ring 2 (some .int) 8 0 0 [.ref me, .int (nI i)] [(me, .inr (7, [.ref op, .ref rf, .ref h0, .ref n0, .ref l0, .ref f0, .ref z0, .ref tp])), (h0, .inr (6, [.ref a1, .ref a2, .ref a3, .ref x0, .int (nI N), .int (nI sg)])), (a1, .inl (T 0, 201, .inl (fun z9 => nI (af z9)))), (a2, .inl (T 1, 201, .inr (.inl (fun z9 => lN (inf z9))))), (a3, .inl (T 0, 201, .inl (fun z9 => nI (wf z9)))), (l0, .inr (1, [.ref k0, .ref k1, .ref k2, .ref k3, .ref k4, .ref k5, .ref k6])), (k0, .inl (T 0, 202, .inl (fun z9 => nI (st z9)))), (k1, .inl (T 0, 1000, .inl (fun z9 => nI (to z9)))), (k2, .inl (T 0, 202, .inl (fun z9 => nI (bs z9)))), (k3, .inl (T 0, 1000, .inl (fun z9 => nI (bk z9)))), (k4, .inl (T 0, 201, .inl (fun z9 => nI (qu z9)))), (k5, .inl (T 2, 201, .inl (fun z9 => nI (on z9)))), (k6, .inl (T 2, 201, .inl (fun z9 => nI (ba z9))))] (fun v w1 => ∃ (qu' on' ba' : Nat → Nat) (c : Nat), v = some (.int (nI c)) ∧ w1 = [(me, .inr (7, [.ref op, .ref rf, .ref h0, .ref n0, .ref l0, .ref f0, .ref z0, .ref tp])), (h0, .inr (6, [.ref a1, .ref a2, .ref a3, .ref x0, .int (nI N), .int (nI sg)])), (a1, .inl (T 0, 201, .inl (fun z9 => nI (af z9)))), (a2, .inl (T 1, 201, .inr (.inl (fun z9 => lN (inf z9))))), (a3, .inl (T 0, 201, .inl (fun z9 => nI (wf z9)))), (l0, .inr (1, [.ref k0, .ref k1, .ref k2, .ref k3, .ref k4, .ref k5, .ref k6])), (k0, .inl (T 0, 202, .inl (fun z9 => nI (st z9)))), (k1, .inl (T 0, 1000, .inl (fun z9 => nI (to z9)))), (k2, .inl (T 0, 202, .inl (fun z9 => nI (bs z9)))), (k3, .inl (T 0, 1000, .inl (fun z9 => nI (bk z9)))), (k4, .inl (T 0, 201, .inl (fun z9 => nI (qu' z9)))), (k5, .inl (T 2, 201, .inl (fun z9 => nI (on' z9)))), (k6, .inl (T 2, 201, .inl (fun z9 => nI (ba' z9))))] ∧ (∀ j, on' j ≤ 1) ∧ (∀ j, ba' j ≤ 1) ∧ RingC (cut b cnt) i N c) := by
  refine Con.of (by decide) (Nat.le_of_ble_eq_true rfl) ?_
  intro E hE
  refine g_lv (lv' := [(0, .ref me), (1, .int (nI i))]) [0, 1] rfl ?_
  refine g_aload_n (pc' := 1) hE 0 rfl rfl dX8_ring_0 rfl ?_
  refine g_get (pc' := 4) hE gcX8 0 rfl 2 (by decide) rfl kX8_31 dX8_ring_1 rfl ?_
  refine g_iload_n (pc' := 5) hE 1 rfl rfl dX8_ring_4 rfl ?_
  refine g_callV (pc' := 8) (As := [.int (nI i)]) (rest := []) hE (qX7_has l D T h0 a1 a2 a3 x0 N sg af inf wf i hN2 (by omega)) mX7_has kX8_97 iX7_has sX7_has (by decide) rfl (by decide) 1 rfl rfl [1, 2, 3, 4] rfl (by decide) rfl (Nat.le_of_ble_eq_true rfl) dX8_ring_5 rfl (gBackR [1, 2, 3, 4] rfl ?_)
  rintro _ rfl
  refine g_st (st' := [.int (bI (hasB i N))]) rfl ?_
  refine g_ifB_ne (pc' := 11) (tgt := 19) hE dX8_ring_8 rfl rfl (fun hc8 => ?_) (fun hc8 => ?_)
  rotate_left
  · exact absurd hc8 (by rw [show hasB i N = true from decide_eq_true ⟨by omega, by omega⟩]; decide)
  refine g_aload_n (pc' := 20) hE 0 rfl rfl dX8_ring_19 rfl ?_
  refine g_get (pc' := 23) hE gcX8 0 rfl 4 (by decide) rfl kX8_45 dX8_ring_20 rfl ?_
  refine g_iload_n (pc' := 24) hE 1 rfl rfl dX8_ring_23 rfl ?_
  refine g_aload_n (pc' := 25) hE 0 rfl rfl dX8_ring_24 rfl ?_
  refine g_get (pc' := 28) hE gcX8 0 rfl 2 (by decide) rfl kX8_31 dX8_ring_25 rfl ?_
  refine g_callV (pc' := 31) (As := []) (rest := [.int (nI i), .ref l0]) hE (qX7_count l D T h0 a1 a2 a3 x0 N sg af inf wf ) mX7_count kX8_148 iX7_count sX7_count (by decide) rfl (by decide) 1 rfl rfl [1, 2, 3, 4] rfl (by decide) rfl (Nat.le_of_ble_eq_true rfl) dX8_ring_28 rfl (gBackR [1, 2, 3, 4] rfl ?_)
  rintro _ rfl
  refine g_st (st' := [.int (nI N), .int (nI i), .ref l0]) rfl ?_
  refine g_callV (pc' := 34) (As := [.int (nI i), .int (nI N)]) (rest := []) hE (qX2_ringSize l D T l0 k0 k1 k2 k3 k4 k5 k6 st to bs bk qu on ba i N hN2 h2i hLk.1.hfr (fun u hu v he => edT_le hhi hu ((hLk.ed hu).mp he)) hLk.2.2.1 (fun u hu v he => (hLk.bk1 hu he).1) hon hba) mX2_ringSize kX8_149 iX2_ringSize sX2_ringSize (by decide) rfl (by decide) 5 rfl rfl [5, 6, 7, 8, 9, 10, 11, 12] rfl (by decide) rfl (Nat.le_of_ble_eq_true rfl) dX8_ring_31 rfl (gBackU [5, 6, 7, 8, 9, 10, 11, 12] rfl (fun v w1 y => by obtain ⟨_, _, _, _, rfl, _⟩ := y; rfl) ?_)
  rintro _ _ ⟨qu', on', ba', rfl, rfl, hon', hba', hrr⟩
  refine g_w (ws' := [(me, .inr (7, [.ref op, .ref rf, .ref h0, .ref n0, .ref l0, .ref f0, .ref z0, .ref tp])), (h0, .inr (6, [.ref a1, .ref a2, .ref a3, .ref x0, .int (nI N), .int (nI sg)])), (a1, .inl (T 0, 201, .inl (fun z9 => nI (af z9)))), (a2, .inl (T 1, 201, .inr (.inl (fun z9 => lN (inf z9))))), (a3, .inl (T 0, 201, .inl (fun z9 => nI (wf z9)))), (l0, .inr (1, [.ref k0, .ref k1, .ref k2, .ref k3, .ref k4, .ref k5, .ref k6])), (k0, .inl (T 0, 202, .inl (fun z9 => nI (st z9)))), (k1, .inl (T 0, 1000, .inl (fun z9 => nI (to z9)))), (k2, .inl (T 0, 202, .inl (fun z9 => nI (bs z9)))), (k3, .inl (T 0, 1000, .inl (fun z9 => nI (bk z9)))), (k4, .inl (T 0, 201, .inl (fun z9 => nI (qu' z9)))), (k5, .inl (T 2, 201, .inl (fun z9 => nI (on' z9)))), (k6, .inl (T 2, 201, .inl (fun z9 => nI (ba' z9))))]) (rfl) ?_
  refine g_st (st' := [.int (nI (cntP (fun j => decide (on' j = 1 ∧ ba' j = 1)) N))]) rfl ?_
  exact hE.iret (⟨qu', on', ba', _, rfl, rfl, hon', hba', hLk.ring hhi h2i hrr⟩) (Nat.zero_le _) (Nat.zero_le _) dX8_ring_34

set_option maxHeartbeats 4000000 in
set_option maxRecDepth 100000 in
theorem qX8_ringX (l : Launch) (D : va_G) (T : Nat → ClassId) (hlt : l.stackTraces = false) (me op oa oc : Nat) (ob : Nat → Nat) (rf er sd it tp ta tc : Nat) (tb : Nat → Nat) (h0 a1 a2 a3 x0 x1 N sg : Nat) (af inf wf : Nat → Nat) (cnt : Nat) (b : Nat → Nat) (n0 s0 s1 s2 s3 s4 : Nat) (sl te pl le fb0 : Nat → Nat) (ns nc fb : Nat) (l0 k0 k1 k2 k3 k4 k5 k6 : Nat) (st to bs bk qu on ba : Nat → Nat) (f0 y0 y1 y2 y3 y4 y5 y6 : Nat) (nw wa fi : Nat → Nat) (sb : Nat → Option Nat) (pa bi fr : Nat → Nat) (cn lb : Nat) (z0 p0 : Nat) (pz : Nat → Nat) (x : Int32) (hN2 : N ≤ 200) (hv : ¬ hasR x N = true) : ConT l D T yX8_ring cX8_ring 2 (some .int) 8 1 6 [.ref me, .int x] [(me, .inr (7, [.ref op, .ref rf, .ref h0, .ref n0, .ref l0, .ref f0, .ref z0, .ref tp])), (h0, .inr (6, [.ref a1, .ref a2, .ref a3, .ref x0, .int (nI N), .int (nI sg)])), (a1, .inl (T 0, 201, .inl (fun z9 => nI (af z9)))), (a2, .inl (T 1, 201, .inr (.inl (fun z9 => lN (inf z9))))), (a3, .inl (T 0, 201, .inl (fun z9 => nI (wf z9))))] xNS := by
  refine ConT.of (by decide) (Nat.le_of_ble_eq_true rfl) ?_
  intro E hE hZ htab hQ
  refine g_lv (lv' := [(0, .ref me), (1, .int x)]) [0, 1] rfl ?_
  refine g_aload_n (pc' := 1) hE 0 rfl rfl dX8_ring_0 rfl ?_
  refine g_get (pc' := 4) hE gcX8 0 rfl 2 (by decide) rfl kX8_31 dX8_ring_1 rfl ?_
  refine g_iload_n (pc' := 5) hE 1 rfl rfl dX8_ring_4 rfl ?_
  refine g_callV (pc' := 8) (As := [.int x]) (rest := []) hE (qX7_hasR l D T h0 a1 a2 a3 x0 N sg af inf wf x hN2) mX7_has kX8_97 iX7_has sX7_has (by decide) rfl (by decide) 1 rfl rfl [1, 2, 3, 4] rfl (by decide) rfl (Nat.le_of_ble_eq_true rfl) dX8_ring_5 rfl (gBackR [1, 2, 3, 4] rfl ?_)
  rintro _ rfl
  refine g_st (st' := [.int (bI (hasR x N))]) rfl ?_
  refine g_ifB_ne (pc' := 11) (tgt := 19) hE dX8_ring_8 rfl rfl (fun hc8 => ?_) (fun hc8 => ?_)
  · exact absurd hc8 hv
  exact g_throw hE hlt hZ htab hQ (by decide) kX8_101 ti_NS ta_NS tb_NS tc_NS hZ.1.2.2.2.1 dX8_ring_11 dX8_ring_14 dX8_ring_15 dX8_ring_18 (by decide) (by decide) (by decide) (by decide)

set_option maxHeartbeats 4000000 in
set_option maxRecDepth 100000 in
theorem qX8_name (l : Launch) (D : va_G) (T : Nat → ClassId) (me op oa oc : Nat) (ob : Nat → Nat) (rf er sd it tp ta tc : Nat) (tb : Nat → Nat) (h0 a1 a2 a3 x0 x1 N sg : Nat) (af inf wf : Nat → Nat) (cnt : Nat) (b : Nat → Nat) (n0 s0 s1 s2 s3 s4 : Nat) (sl te pl le fb0 : Nat → Nat) (ns nc fb : Nat) (l0 k0 k1 k2 k3 k4 k5 k6 : Nat) (st to bs bk qu on ba : Nat → Nat) (f0 y0 y1 y2 y3 y4 y5 y6 : Nat) (nw wa fi : Nat → Nat) (sb : Nat → Option Nat) (pa bi fr : Nat → Nat) (cn lb : Nat) (z0 p0 : Nat) (pz : Nat → Nat) (i : Nat) (hc : cnt ≤ 8192) (hb : ∀ i, b i < 256) (hT : TyArr (cut b cnt) N af inf wf) (hN2 : N ≤ 200) (hNm : NamesOK (cut b cnt) N sg sl te pl le fb0 ns nc fb) (h1i : 1 ≤ i) (h2i : i ≤ N) (hob : ∀ i, ob i < 256) : Con l D T yX8_name cX8_name 3 (some .int) 8 0 0 [.ref me, .int (nI i)] [(me, .inr (7, [.ref op, .ref rf, .ref h0, .ref n0, .ref l0, .ref f0, .ref z0, .ref tp])), (op, .inr (4, [.int (nI 16384), .ref oa, .int (nI oc)])), (oa, .inl (T 1, ((16384 + 7) / 8), .inr (.inl (pack ob)))), (h0, .inr (6, [.ref a1, .ref a2, .ref a3, .ref x0, .int (nI N), .int (nI sg)])), (a1, .inl (T 0, 201, .inl (fun z9 => nI (af z9)))), (a2, .inl (T 1, 201, .inr (.inl (fun z9 => lN (inf z9))))), (a3, .inl (T 0, 201, .inl (fun z9 => nI (wf z9)))), (x0, .inr (4, [.int (nI 8192), .ref x1, .int (nI cnt)])), (x1, .inl (T 1, ((8192 + 7) / 8), .inr (.inl (pack b)))), (n0, .inr (2, [.ref s0, .ref s1, .ref s2, .ref s3, .ref s4, .int (nI ns), .int (nI nc), .int (nI fb)])), (s0, .inl (T 0, 201, .inl (fun z9 => nI (sl z9)))), (s1, .inl (T 0, 800, .inl (fun z9 => nI (te z9)))), (s2, .inl (T 0, 801, .inl (fun z9 => nI (pl z9)))), (s3, .inl (T 0, 801, .inl (fun z9 => nI (le z9)))), (s4, .inl (T 0, 801, .inl (fun z9 => nI (fb0 z9))))] (fun v w1 => ∃ ob' : Nat → Nat, v = some (.int (nI (lfr (cut b cnt) (sg + wdT (cut b cnt) i 0)))) ∧ w1 = [(me, .inr (7, [.ref op, .ref rf, .ref h0, .ref n0, .ref l0, .ref f0, .ref z0, .ref tp])), (op, .inr (4, [.int (nI 16384), .ref oa, .int (nI (lfr (cut b cnt) (sg + wdT (cut b cnt) i 0)))])), (oa, .inl (T 1, ((16384 + 7) / 8), .inr (.inl (pack ob')))), (h0, .inr (6, [.ref a1, .ref a2, .ref a3, .ref x0, .int (nI N), .int (nI sg)])), (a1, .inl (T 0, 201, .inl (fun z9 => nI (af z9)))), (a2, .inl (T 1, 201, .inr (.inl (fun z9 => lN (inf z9))))), (a3, .inl (T 0, 201, .inl (fun z9 => nI (wf z9)))), (x0, .inr (4, [.int (nI 8192), .ref x1, .int (nI cnt)])), (x1, .inl (T 1, ((8192 + 7) / 8), .inr (.inl (pack b)))), (n0, .inr (2, [.ref s0, .ref s1, .ref s2, .ref s3, .ref s4, .int (nI ns), .int (nI nc), .int (nI fb)])), (s0, .inl (T 0, 201, .inl (fun z9 => nI (sl z9)))), (s1, .inl (T 0, 800, .inl (fun z9 => nI (te z9)))), (s2, .inl (T 0, 801, .inl (fun z9 => nI (pl z9)))), (s3, .inl (T 0, 801, .inl (fun z9 => nI (le z9)))), (s4, .inl (T 0, 801, .inl (fun z9 => nI (fb0 z9))))] ∧ (∀ k, k < lfr (cut b cnt) (sg + wdT (cut b cnt) i 0) → ob' k = cut b cnt (sg + wdT (cut b cnt) i 0 + k)) ∧ ∀ k, ob' k < 256) := by
  refine Con.of (by decide) (Nat.le_of_ble_eq_true rfl) ?_
  intro E hE
  obtain ⟨m, hm⟩ : ∃ m, i = m + 1 := ⟨i - 1, by omega⟩
  obtain ⟨o1, o2, o3, o4, o5⟩ := hNm.own (show m < N by omega)
  rw [← hm] at o1 o2 o3 o4 o5
  have hns8 := hNm.2.2.2.2
  have hsl8 := hNm.2.2.2.1
  have hnc8 := hNm.2.1.1.1.2.2
  have hlf := (lfr_cut (b := b) (s := sg + wdT (cut b cnt) i 0) hc).1
  refine g_lv (lv' := [(0, .ref me), (1, .int (nI i))]) [0, 1] rfl ?_
  refine g_aload_n (pc' := 1) hE 0 rfl rfl dX8_name_0 rfl ?_
  refine g_get (pc' := 4) hE gcX8 0 rfl 2 (by decide) rfl kX8_31 dX8_name_1 rfl ?_
  refine g_iload_n (pc' := 5) hE 1 rfl rfl dX8_name_4 rfl ?_
  refine g_callV (pc' := 8) (As := [.int (nI i)]) (rest := []) hE (qX7_has l D T h0 a1 a2 a3 x0 N sg af inf wf i hN2 (by omega)) mX7_has kX8_97 iX7_has sX7_has (by decide) rfl (by decide) 3 rfl rfl [3, 4, 5, 6] rfl (by decide) rfl (Nat.le_of_ble_eq_true rfl) dX8_name_5 rfl (gBackR [3, 4, 5, 6] rfl ?_)
  rintro _ rfl
  refine g_st (st' := [.int (bI (hasB i N))]) rfl ?_
  refine g_ifB_ne (pc' := 11) (tgt := 19) hE dX8_name_8 rfl rfl (fun hc8 => ?_) (fun hc8 => ?_)
  rotate_left
  · exact absurd hc8 (by rw [show hasB i N = true from decide_eq_true ⟨by omega, by omega⟩]; decide)
  refine g_aload_n (pc' := 20) hE 0 rfl rfl dX8_name_19 rfl ?_
  refine g_get (pc' := 23) hE gcX8 0 rfl 3 (by decide) rfl kX8_38 dX8_name_20 rfl ?_
  refine g_iload_n (pc' := 24) hE 1 rfl rfl dX8_name_23 rfl ?_
  refine g_callV (pc' := 27) (As := [.int (nI i)]) (rest := []) hE (qX3_own l D T n0 s0 s1 s2 s3 s4 sl te pl le fb0 ns nc fb i hns8 hsl8 (by omega)) mX3_own kX8_119 iX3_own sX3_own (by decide) rfl (by decide) 9 rfl rfl [9, 10, 11, 12, 13, 14] rfl (by decide) rfl (Nat.le_of_ble_eq_true rfl) dX8_name_24 rfl (gBackR [9, 10, 11, 12, 13, 14] rfl ?_)
  rintro _ rfl
  refine g_st (st' := [.int (nI (if hv 200 i (sl i) < ns then te (hv 200 i (sl i)) else 0))]) rfl ?_
  refine g_eqi (show _ = nI (te (sl i)) from by rw [hv_in _ (by omega) (by omega), if_pos o1]) ?_
  refine g_istore_n (pc' := 28) hE [(2, .int (nI (te (sl i)))), (0, .ref me), (1, .int (nI i))] dX8_name_27 rfl rfl (by decide) rfl ?_
  refine g_aload_n (pc' := 29) hE 1 rfl rfl dX8_name_28 rfl ?_
  refine g_get (pc' := 32) hE gcX8 0 rfl 0 (by decide) rfl kX8_18 dX8_name_29 rfl ?_
  refine g_callV (pc' := 35) (As := []) (rest := []) hE (qX5_clear l D T op oa 16384 oc ob) mX5_clear kX8_94 iX5_clear sX5_clear (by decide) rfl (by decide) 1 rfl rfl [1, 2] rfl (by decide) rfl (Nat.le_of_ble_eq_true rfl) dX8_name_32 rfl (gBackU [1, 2] rfl (fun v w1 h => by obtain ⟨_, rfl⟩ := h; simp only [List.map_cons, List.map_nil]) ?_)
  rintro _ _ ⟨rfl, rfl⟩
  refine g_w (ws' := [(me, .inr (7, [.ref op, .ref rf, .ref h0, .ref n0, .ref l0, .ref f0, .ref z0, .ref tp])), (op, .inr (4, [.int (nI 16384), .ref oa, .int (nI 0)])), (oa, .inl (T 1, ((16384 + 7) / 8), .inr (.inl (pack ob)))), (h0, .inr (6, [.ref a1, .ref a2, .ref a3, .ref x0, .int (nI N), .int (nI sg)])), (a1, .inl (T 0, 201, .inl (fun z9 => nI (af z9)))), (a2, .inl (T 1, 201, .inr (.inl (fun z9 => lN (inf z9))))), (a3, .inl (T 0, 201, .inl (fun z9 => nI (wf z9)))), (x0, .inr (4, [.int (nI 8192), .ref x1, .int (nI cnt)])), (x1, .inl (T 1, ((8192 + 7) / 8), .inr (.inl (pack b)))), (n0, .inr (2, [.ref s0, .ref s1, .ref s2, .ref s3, .ref s4, .int (nI ns), .int (nI nc), .int (nI fb)])), (s0, .inl (T 0, 201, .inl (fun z9 => nI (sl z9)))), (s1, .inl (T 0, 800, .inl (fun z9 => nI (te z9)))), (s2, .inl (T 0, 801, .inl (fun z9 => nI (pl z9)))), (s3, .inl (T 0, 801, .inl (fun z9 => nI (le z9)))), (s4, .inl (T 0, 801, .inl (fun z9 => nI (fb0 z9))))]) (rfl) ?_
  refine g_aload_n (pc' := 36) hE 1 rfl rfl dX8_name_35 rfl ?_
  refine g_get (pc' := 39) hE gcX8 0 rfl 0 (by decide) rfl kX8_18 dX8_name_36 rfl ?_
  refine g_aload_n (pc' := 40) hE 1 rfl rfl dX8_name_39 rfl ?_
  refine g_get (pc' := 43) hE gcX8 0 rfl 2 (by decide) rfl kX8_31 dX8_name_40 rfl ?_
  refine g_callV (pc' := 46) (As := []) (rest := [.ref op]) hE (qX7_text l D T h0 a1 a2 a3 x0 N sg af inf wf ) mX7_text kX8_167 iX7_text sX7_text (by decide) rfl (by decide) 3 rfl rfl [3, 4, 5, 6] rfl (by decide) rfl (Nat.le_of_ble_eq_true rfl) dX8_name_43 rfl (gBackR [3, 4, 5, 6] rfl ?_)
  rintro _ rfl
  refine g_st (st' := [.ref x0, .ref op]) rfl ?_
  refine g_aload_n (pc' := 47) hE 1 rfl rfl dX8_name_46 rfl ?_
  refine g_get (pc' := 50) hE gcX8 0 rfl 3 (by decide) rfl kX8_38 dX8_name_47 rfl ?_
  refine g_iload_n (pc' := 51) hE 0 rfl rfl dX8_name_50 rfl ?_
  refine g_callV (pc' := 54) (As := [.int (nI (te (sl i)))]) (rest := [.ref x0, .ref op]) hE (qX3_place l D T n0 s0 s1 s2 s3 s4 sl te pl le fb0 ns nc fb (te (sl i)) hnc8 (by omega)) mX3_place kX8_171 iX3_place sX3_place (by decide) rfl (by decide) 9 rfl rfl [9, 10, 11, 12, 13, 14] rfl (by decide) rfl (Nat.le_of_ble_eq_true rfl) dX8_name_51 rfl (gBackR [9, 10, 11, 12, 13, 14] rfl ?_)
  rintro _ rfl
  refine g_st (st' := [.int (nI (hv nc (te (sl i)) (pl (te (sl i))))), .ref x0, .ref op]) rfl ?_
  refine g_aload_n (pc' := 55) hE 1 rfl rfl dX8_name_54 rfl ?_
  refine g_get (pc' := 58) hE gcX8 0 rfl 3 (by decide) rfl kX8_38 dX8_name_55 rfl ?_
  refine g_iload_n (pc' := 59) hE 0 rfl rfl dX8_name_58 rfl ?_
  refine g_callV (pc' := 62) (As := [.int (nI (te (sl i)))]) (rest := [.int (nI (hv nc (te (sl i)) (pl (te (sl i))))), .ref x0, .ref op]) hE (qX3_letters l D T n0 s0 s1 s2 s3 s4 sl te pl le fb0 ns nc fb (te (sl i)) hnc8 (by omega)) mX3_letters kX8_122 iX3_letters sX3_letters (by decide) rfl (by decide) 9 rfl rfl [9, 10, 11, 12, 13, 14] rfl (by decide) rfl (Nat.le_of_ble_eq_true rfl) dX8_name_59 rfl (gBackR [9, 10, 11, 12, 13, 14] rfl ?_)
  rintro _ rfl
  refine g_st (st' := [.int (nI (hv nc (te (sl i)) (le (te (sl i))))), .int (nI (hv nc (te (sl i)) (pl (te (sl i))))), .ref x0, .ref op]) rfl ?_
  refine g_eqi (show _ = nI (lfr (cut b cnt) (sg + wdT (cut b cnt) i 0)) from by rw [o3]) ?_
  refine g_callV (pc' := 65) (As := [.ref x0, .int (nI (hv nc (te (sl i)) (pl (te (sl i))))), .int (nI (lfr (cut b cnt) (sg + wdT (cut b cnt) i 0)))]) (rest := []) hE (qX5_addFrom l D T op oa 16384 0 ob x0 x1 8192 cnt b (hv nc (te (sl i)) (pl (te (sl i)))) (lfr (cut b cnt) (sg + wdT (cut b cnt) i 0)) (by decide) hob (by decide) hc hb (by omega) (by omega) (by omega)) mX5_addFrom kX8_174 iX5_addFrom sX5_addFrom (by decide) rfl (by decide) 1 rfl rfl [1, 2, 7, 8] rfl (by decide) rfl (Nat.le_of_ble_eq_true rfl) dX8_name_62 rfl (gBackU [1, 2, 7, 8] rfl (fun v w1 h => by obtain ⟨_, rfl⟩ := h; simp only [List.map_cons, List.map_nil]) ?_)
  rintro _ _ ⟨rfl, rfl⟩
  refine g_w (ws' := [(me, .inr (7, [.ref op, .ref rf, .ref h0, .ref n0, .ref l0, .ref f0, .ref z0, .ref tp])), (op, .inr (4, [.int (nI 16384), .ref oa, .int (nI (0 + (lfr (cut b cnt) (sg + wdT (cut b cnt) i 0))))])), (oa, .inl (T 1, ((16384 + 7) / 8), .inr (.inl (pack (app ob 0 (fun z7 => cut b cnt (hv nc (te (sl i)) (pl (te (sl i))) + z7)) (lfr (cut b cnt) (sg + wdT (cut b cnt) i 0))))))), (h0, .inr (6, [.ref a1, .ref a2, .ref a3, .ref x0, .int (nI N), .int (nI sg)])), (a1, .inl (T 0, 201, .inl (fun z9 => nI (af z9)))), (a2, .inl (T 1, 201, .inr (.inl (fun z9 => lN (inf z9))))), (a3, .inl (T 0, 201, .inl (fun z9 => nI (wf z9)))), (x0, .inr (4, [.int (nI 8192), .ref x1, .int (nI cnt)])), (x1, .inl (T 1, ((8192 + 7) / 8), .inr (.inl (pack b)))), (n0, .inr (2, [.ref s0, .ref s1, .ref s2, .ref s3, .ref s4, .int (nI ns), .int (nI nc), .int (nI fb)])), (s0, .inl (T 0, 201, .inl (fun z9 => nI (sl z9)))), (s1, .inl (T 0, 800, .inl (fun z9 => nI (te z9)))), (s2, .inl (T 0, 801, .inl (fun z9 => nI (pl z9)))), (s3, .inl (T 0, 801, .inl (fun z9 => nI (le z9)))), (s4, .inl (T 0, 801, .inl (fun z9 => nI (fb0 z9))))]) (rfl) ?_
  refine g_aload_n (pc' := 66) hE 1 rfl rfl dX8_name_65 rfl ?_
  refine g_get (pc' := 69) hE gcX8 0 rfl 0 (by decide) rfl kX8_18 dX8_name_66 rfl ?_
  refine g_callV (pc' := 72) (As := []) (rest := []) hE (qX5_count l D T op oa 16384 (0 + (lfr (cut b cnt) (sg + wdT (cut b cnt) i 0))) (app ob 0 (fun z7 => cut b cnt (hv nc (te (sl i)) (pl (te (sl i))) + z7)) (lfr (cut b cnt) (sg + wdT (cut b cnt) i 0)))) mX5_count kX8_66 iX5_count sX5_count (by decide) rfl (by decide) 1 rfl rfl [1, 2] rfl (by decide) rfl (Nat.le_of_ble_eq_true rfl) dX8_name_69 rfl (gBackR [1, 2] rfl ?_)
  rintro _ rfl
  refine g_st (st' := [.int (nI (0 + (lfr (cut b cnt) (sg + wdT (cut b cnt) i 0))))]) rfl ?_
  exact hE.iret (⟨_, by rw [Nat.zero_add], by rw [Nat.zero_add], fun k hk => by rw [app_at, if_pos (by omega), Nat.sub_zero]; exact o5 k hk, app_lt hob 0 (fun i => cut_lt hb _) _⟩) (Nat.zero_le _) (Nat.zero_le _) dX8_name_72

set_option maxHeartbeats 4000000 in
set_option maxRecDepth 100000 in
theorem qX8_nameX (l : Launch) (D : va_G) (T : Nat → ClassId) (hlt : l.stackTraces = false) (me op oa oc : Nat) (ob : Nat → Nat) (rf er sd it tp ta tc : Nat) (tb : Nat → Nat) (h0 a1 a2 a3 x0 x1 N sg : Nat) (af inf wf : Nat → Nat) (cnt : Nat) (b : Nat → Nat) (n0 s0 s1 s2 s3 s4 : Nat) (sl te pl le fb0 : Nat → Nat) (ns nc fb : Nat) (l0 k0 k1 k2 k3 k4 k5 k6 : Nat) (st to bs bk qu on ba : Nat → Nat) (f0 y0 y1 y2 y3 y4 y5 y6 : Nat) (nw wa fi : Nat → Nat) (sb : Nat → Option Nat) (pa bi fr : Nat → Nat) (cn lb : Nat) (z0 p0 : Nat) (pz : Nat → Nat) (x : Int32) (hN2 : N ≤ 200) (hv : ¬ hasR x N = true) : ConT l D T yX8_name cX8_name 3 (some .int) 8 1 6 [.ref me, .int x] [(me, .inr (7, [.ref op, .ref rf, .ref h0, .ref n0, .ref l0, .ref f0, .ref z0, .ref tp])), (h0, .inr (6, [.ref a1, .ref a2, .ref a3, .ref x0, .int (nI N), .int (nI sg)])), (a1, .inl (T 0, 201, .inl (fun z9 => nI (af z9)))), (a2, .inl (T 1, 201, .inr (.inl (fun z9 => lN (inf z9))))), (a3, .inl (T 0, 201, .inl (fun z9 => nI (wf z9))))] xNS := by
  refine ConT.of (by decide) (Nat.le_of_ble_eq_true rfl) ?_
  intro E hE hZ htab hQ
  refine g_lv (lv' := [(0, .ref me), (1, .int x)]) [0, 1] rfl ?_
  refine g_aload_n (pc' := 1) hE 0 rfl rfl dX8_name_0 rfl ?_
  refine g_get (pc' := 4) hE gcX8 0 rfl 2 (by decide) rfl kX8_31 dX8_name_1 rfl ?_
  refine g_iload_n (pc' := 5) hE 1 rfl rfl dX8_name_4 rfl ?_
  refine g_callV (pc' := 8) (As := [.int x]) (rest := []) hE (qX7_hasR l D T h0 a1 a2 a3 x0 N sg af inf wf x hN2) mX7_has kX8_97 iX7_has sX7_has (by decide) rfl (by decide) 1 rfl rfl [1, 2, 3, 4] rfl (by decide) rfl (Nat.le_of_ble_eq_true rfl) dX8_name_5 rfl (gBackR [1, 2, 3, 4] rfl ?_)
  rintro _ rfl
  refine g_st (st' := [.int (bI (hasR x N))]) rfl ?_
  refine g_ifB_ne (pc' := 11) (tgt := 19) hE dX8_name_8 rfl rfl (fun hc8 => ?_) (fun hc8 => ?_)
  · exact absurd hc8 hv
  exact g_throw hE hlt hZ htab hQ (by decide) kX8_101 ti_NS ta_NS tb_NS tc_NS hZ.1.2.2.2.1 dX8_name_11 dX8_name_14 dX8_name_15 dX8_name_18 (by decide) (by decide) (by decide) (by decide)

set_option maxHeartbeats 4000000 in
set_option maxRecDepth 100000 in
theorem qX8_out (l : Launch) (D : va_G) (T : Nat → ClassId) (me op oa oc : Nat) (ob : Nat → Nat) (rf er sd it tp ta tc : Nat) (tb : Nat → Nat) (h0 a1 a2 a3 x0 x1 N sg : Nat) (af inf wf : Nat → Nat) (cnt : Nat) (b : Nat → Nat) (n0 s0 s1 s2 s3 s4 : Nat) (sl te pl le fb0 : Nat → Nat) (ns nc fb : Nat) (l0 k0 k1 k2 k3 k4 k5 k6 : Nat) (st to bs bk qu on ba : Nat → Nat) (f0 y0 y1 y2 y3 y4 y5 y6 : Nat) (nw wa fi : Nat → Nat) (sb : Nat → Option Nat) (pa bi fr : Nat → Nat) (cn lb : Nat) (z0 p0 : Nat) (pz : Nat → Nat) (k : Nat) (hob : ∀ i, ob i < 256) (hoc : oc ≤ 16384) (hk : k < oc) : Con l D T yX8_out cX8_out 2 (some .long) 8 0 0 [.ref me, .int (nI k)] [(me, .inr (7, [.ref op, .ref rf, .ref h0, .ref n0, .ref l0, .ref f0, .ref z0, .ref tp])), (op, .inr (4, [.int (nI 16384), .ref oa, .int (nI oc)])), (oa, .inl (T 1, ((16384 + 7) / 8), .inr (.inl (pack ob))))] (fun v w1 => w1 = [(me, .inr (7, [.ref op, .ref rf, .ref h0, .ref n0, .ref l0, .ref f0, .ref z0, .ref tp])), (op, .inr (4, [.int (nI 16384), .ref oa, .int (nI oc)])), (oa, .inl (T 1, ((16384 + 7) / 8), .inr (.inl (pack ob))))] ∧ v = some (.long (lN (num (cut ob oc) k 8)))) := by
  refine Con.of (by decide) (Nat.le_of_ble_eq_true rfl) ?_
  intro E hE
  refine g_lv (lv' := [(0, .ref me), (1, .int (nI k))]) [0, 1] rfl ?_
  refine g_iload_n (pc' := 1) hE 1 rfl rfl dX8_out_0 rfl ?_
  refine g_ifN_lt (pc' := 4) (tgt := 15) hE (by omega) dX8_out_1 rfl rfl (fun hc1 => ?_) (fun hc1 => ?_)
  · exact hc1.elim
  refine g_iload_n (pc' := 5) hE 1 rfl rfl dX8_out_4 rfl ?_
  refine g_aload_n (pc' := 6) hE 0 rfl rfl dX8_out_5 rfl ?_
  refine g_get (pc' := 9) hE gcX8 0 rfl 0 (by decide) rfl kX8_18 dX8_out_6 rfl ?_
  refine g_callV (pc' := 12) (As := []) (rest := [.int (nI k)]) hE (qX5_count l D T op oa 16384 oc ob) mX5_count kX8_66 iX5_count sX5_count (by decide) rfl (by decide) 1 rfl rfl [1, 2] rfl (by decide) rfl (Nat.le_of_ble_eq_true rfl) dX8_out_9 rfl (gBackR [1, 2] rfl ?_)
  rintro _ rfl
  refine g_st (st' := [.int (nI oc), .int (nI k)]) rfl ?_
  refine g_icmpN_lt (pc' := 15) (tgt := 23) hE (by omega) (by omega) dX8_out_12 rfl rfl (fun hc12 => ?_) (fun hc12 => ?_)
  rotate_left
  · omega
  refine g_aload_n (pc' := 24) hE 0 rfl rfl dX8_out_23 rfl ?_
  refine g_get (pc' := 27) hE gcX8 0 rfl 0 (by decide) rfl kX8_18 dX8_out_24 rfl ?_
  refine g_iload_n (pc' := 28) hE 1 rfl rfl dX8_out_27 rfl ?_
  refine g_bipush (pc' := 30) hE (nI 8) (by decide) dX8_out_28 rfl ?_
  refine g_callV (pc' := 33) (As := [.int (nI k), .int (nI 8)]) (rest := []) hE (qX5_number l D T op oa 16384 oc ob k 8 (by decide) hoc hob (by omega) (by decide)) mX5_number kX8_178 iX5_number sX5_number (by decide) rfl (by decide) 1 rfl rfl [1, 2] rfl (by decide) rfl (Nat.le_of_ble_eq_true rfl) dX8_out_30 rfl (gBackR [1, 2] rfl ?_)
  rintro _ rfl
  refine g_st (st' := [.long (lN (num (cut ob oc) k 8))]) rfl ?_
  exact hE.lret (⟨rfl, rfl⟩) (Nat.zero_le _) (Nat.zero_le _) dX8_out_33

set_option maxHeartbeats 4000000 in
set_option maxRecDepth 100000 in
theorem qX8_outX (l : Launch) (D : va_G) (T : Nat → ClassId) (hlt : l.stackTraces = false) (me op oa oc : Nat) (ob : Nat → Nat) (rf er sd it tp ta tc : Nat) (tb : Nat → Nat) (h0 a1 a2 a3 x0 x1 N sg : Nat) (af inf wf : Nat → Nat) (cnt : Nat) (b : Nat → Nat) (n0 s0 s1 s2 s3 s4 : Nat) (sl te pl le fb0 : Nat → Nat) (ns nc fb : Nat) (l0 k0 k1 k2 k3 k4 k5 k6 : Nat) (st to bs bk qu on ba : Nat → Nat) (f0 y0 y1 y2 y3 y4 y5 y6 : Nat) (nw wa fi : Nat → Nat) (sb : Nat → Option Nat) (pa bi fr : Nat → Nat) (cn lb : Nat) (z0 p0 : Nat) (pz : Nat → Nat) (x : Int32) (hv : ¬ (0 ≤ x ∧ x < nI oc)) : ConT l D T yX8_out cX8_out 2 (some .long) 8 1 6 [.ref me, .int x] [(me, .inr (7, [.ref op, .ref rf, .ref h0, .ref n0, .ref l0, .ref f0, .ref z0, .ref tp])), (op, .inr (4, [.int (nI 16384), .ref oa, .int (nI oc)])), (oa, .inl (T 1, ((16384 + 7) / 8), .inr (.inl (pack ob))))] xNS := by
  refine ConT.of (by decide) (Nat.le_of_ble_eq_true rfl) ?_
  intro E hE hZ htab hQ
  refine g_lv (lv' := [(0, .ref me), (1, .int x)]) [0, 1] rfl ?_
  refine g_iload_n (pc' := 1) hE 1 rfl rfl dX8_out_0 rfl ?_
  refine g_if_lt (pc' := 4) (tgt := 15) hE dX8_out_1 rfl rfl (fun hc1 => ?_) (fun hc1 => ?_)
  · exact g_throw hE hlt hZ htab hQ (by decide) kX8_101 ti_NS ta_NS tb_NS tc_NS hZ.1.2.2.2.1 dX8_out_15 dX8_out_18 dX8_out_19 dX8_out_22 (by decide) (by decide) (by decide) (by decide)
  · refine g_iload_n (pc' := 5) hE 1 rfl rfl dX8_out_4 rfl ?_
    refine g_aload_n (pc' := 6) hE 0 rfl rfl dX8_out_5 rfl ?_
    refine g_get (pc' := 9) hE gcX8 0 rfl 0 (by decide) rfl kX8_18 dX8_out_6 rfl ?_
    refine g_callV (pc' := 12) (As := []) (rest := [.int x]) hE (qX5_count l D T op oa 16384 oc ob) mX5_count kX8_66 iX5_count sX5_count (by decide) rfl (by decide) 1 rfl rfl [1, 2] rfl (by decide) rfl (Nat.le_of_ble_eq_true rfl) dX8_out_9 rfl (gBackR [1, 2] rfl ?_)
    rintro _ rfl
    refine g_st (st' := [.int (nI oc), .int x]) rfl ?_
    refine g_icmp_lt (pc' := 15) (tgt := 23) hE dX8_out_12 rfl rfl (fun hc12 => ?_) (fun hc12 => ?_)
    · exact absurd ⟨Int32.not_lt.mp hc1, hc12⟩ hv
    exact g_throw hE hlt hZ htab hQ (by decide) kX8_101 ti_NS ta_NS tb_NS tc_NS hZ.1.2.2.2.1 dX8_out_15 dX8_out_18 dX8_out_19 dX8_out_22 (by decide) (by decide) (by decide) (by decide)

set_option maxHeartbeats 4000000 in
set_option maxRecDepth 100000 in
theorem qX8_look (l : Launch) (D : va_G) (T : Nat → ClassId) (me op oa oc : Nat) (ob : Nat → Nat) (rf er sd it tp ta tc : Nat) (tb : Nat → Nat) (h0 a1 a2 a3 x0 x1 N sg : Nat) (af inf wf : Nat → Nat) (cnt : Nat) (b : Nat → Nat) (n0 s0 s1 s2 s3 s4 : Nat) (sl te pl le fb0 : Nat → Nat) (ns nc fb : Nat) (l0 k0 k1 k2 k3 k4 k5 k6 : Nat) (st to bs bk qu on ba : Nat → Nat) (f0 y0 y1 y2 y3 y4 y5 y6 : Nat) (nw wa fi : Nat → Nat) (sb : Nat → Option Nat) (pa bi fr : Nat → Nat) (cn lb : Nat) (z0 p0 : Nat) (pz : Nat → Nat) (w : Nat) (hcn : 1 ≤ cn) (hlb : lb ≤ 201) (hw : w ≤ 6) : Con l D T yX8_look cX8_look 2 (some .int) 8 0 0 [.ref me, .int (nI w)] [(me, .inr (7, [.ref op, .ref rf, .ref h0, .ref n0, .ref l0, .ref f0, .ref z0, .ref tp])), (h0, .inr (6, [.ref a1, .ref a2, .ref a3, .ref x0, .int (nI N), .int (nI sg)])), (a1, .inl (T 0, 201, .inl (fun z9 => nI (af z9)))), (a2, .inl (T 1, 201, .inr (.inl (fun z9 => lN (inf z9))))), (a3, .inl (T 0, 201, .inl (fun z9 => nI (wf z9)))), (f0, .inr (0, [.ref y0, .ref y1, .ref y2, .ref y3, .ref y4, .ref y5, .ref y6, .int (nI cn), .int (nI lb)])), (y0, .inl (T 0, 201, .inl (fun z9 => nI (nw z9)))), (y1, .inl (T 0, 201, .inl (fun z9 => nI (wa z9)))), (y2, .inl (T 0, 201, .inl (fun z9 => nI (fi z9)))), (y3, .inl (T 0, 201, .inl (fun z9 => oI (sb z9)))), (y4, .inl (T 0, 201, .inl (fun z9 => nI (pa z9)))), (y5, .inl (T 0, 201, .inl (fun z9 => nI (bi z9)))), (y6, .inl (T 0, 201, .inl (fun z9 => nI (fr z9)))), (tp, .inr (4, [.int (nI 8192), .ref ta, .int (nI tc)])), (ta, .inl (T 1, ((8192 + 7) / 8), .inr (.inl (pack tb)))), (op, .inr (4, [.int (nI 16384), .ref oa, .int (nI oc)])), (oa, .inl (T 1, ((16384 + 7) / 8), .inr (.inl (pack ob)))), (rf, .inr (3, [.int (nI er), .int (nI sd), .int (nI it)]))] (fun v w1 => w1 = [(me, .inr (7, [.ref op, .ref rf, .ref h0, .ref n0, .ref l0, .ref f0, .ref z0, .ref tp])), (h0, .inr (6, [.ref a1, .ref a2, .ref a3, .ref x0, .int (nI N), .int (nI sg)])), (a1, .inl (T 0, 201, .inl (fun z9 => nI (af z9)))), (a2, .inl (T 1, 201, .inr (.inl (fun z9 => lN (inf z9))))), (a3, .inl (T 0, 201, .inl (fun z9 => nI (wf z9)))), (f0, .inr (0, [.ref y0, .ref y1, .ref y2, .ref y3, .ref y4, .ref y5, .ref y6, .int (nI cn), .int (nI lb)])), (y0, .inl (T 0, 201, .inl (fun z9 => nI (nw z9)))), (y1, .inl (T 0, 201, .inl (fun z9 => nI (wa z9)))), (y2, .inl (T 0, 201, .inl (fun z9 => nI (fi z9)))), (y3, .inl (T 0, 201, .inl (fun z9 => oI (sb z9)))), (y4, .inl (T 0, 201, .inl (fun z9 => nI (pa z9)))), (y5, .inl (T 0, 201, .inl (fun z9 => nI (bi z9)))), (y6, .inl (T 0, 201, .inl (fun z9 => nI (fr z9)))), (tp, .inr (4, [.int (nI 8192), .ref ta, .int (nI tc)])), (ta, .inl (T 1, ((8192 + 7) / 8), .inr (.inl (pack tb)))), (op, .inr (4, [.int (nI 16384), .ref oa, .int (nI oc)])), (oa, .inl (T 1, ((16384 + 7) / 8), .inr (.inl (pack ob)))), (rf, .inr (3, [.int (nI er), .int (nI sd), .int (nI it)]))] ∧ ∃ r : Nat, v = some (.int (nI r)) ∧ ((w = 0 ∧ r = N) ∨ (w = 1 ∧ r = cn - 1) ∨ (w = 2 ∧ r = tc) ∨ (w = 3 ∧ r = oc) ∨ (w = 4 ∧ r = er) ∨ (w = 5 ∧ r = sd) ∨ (w = 6 ∧ r = lb - 1))) := by
  refine Con.of (by decide) (Nat.le_of_ble_eq_true rfl) ?_
  intro E hE
  refine g_lv (lv' := [(0, .ref me), (1, .int (nI w))]) [0, 1] rfl ?_
  refine g_iload_n (pc' := 1) hE 1 rfl rfl dX8_look_0 rfl ?_
  have hs1_44 : (w = 0) → G l E D 2 0 0 [(me, .inr (7, [.ref op, .ref rf, .ref h0, .ref n0, .ref l0, .ref f0, .ref z0, .ref tp])), (h0, .inr (6, [.ref a1, .ref a2, .ref a3, .ref x0, .int (nI N), .int (nI sg)])), (a1, .inl (T 0, 201, .inl (fun z9 => nI (af z9)))), (a2, .inl (T 1, 201, .inr (.inl (fun z9 => lN (inf z9))))), (a3, .inl (T 0, 201, .inl (fun z9 => nI (wf z9)))), (f0, .inr (0, [.ref y0, .ref y1, .ref y2, .ref y3, .ref y4, .ref y5, .ref y6, .int (nI cn), .int (nI lb)])), (y0, .inl (T 0, 201, .inl (fun z9 => nI (nw z9)))), (y1, .inl (T 0, 201, .inl (fun z9 => nI (wa z9)))), (y2, .inl (T 0, 201, .inl (fun z9 => nI (fi z9)))), (y3, .inl (T 0, 201, .inl (fun z9 => oI (sb z9)))), (y4, .inl (T 0, 201, .inl (fun z9 => nI (pa z9)))), (y5, .inl (T 0, 201, .inl (fun z9 => nI (bi z9)))), (y6, .inl (T 0, 201, .inl (fun z9 => nI (fr z9)))), (tp, .inr (4, [.int (nI 8192), .ref ta, .int (nI tc)])), (ta, .inl (T 1, ((8192 + 7) / 8), .inr (.inl (pack tb)))), (op, .inr (4, [.int (nI 16384), .ref oa, .int (nI oc)])), (oa, .inl (T 1, ((16384 + 7) / 8), .inr (.inl (pack ob)))), (rf, .inr (3, [.int (nI er), .int (nI sd), .int (nI it)]))] [(0, .ref me), (1, .int (nI w))] 44 [] := by
    intro hsw1
    refine g_aload_n (pc' := 45) hE 0 rfl rfl dX8_look_44 rfl ?_
    refine g_get (pc' := 48) hE gcX8 0 rfl 2 (by decide) rfl kX8_31 dX8_look_45 rfl ?_
    refine g_callV (pc' := 51) (As := []) (rest := []) hE (qX7_count l D T h0 a1 a2 a3 x0 N sg af inf wf ) mX7_count kX8_148 iX7_count sX7_count (by decide) rfl (by decide) 1 rfl rfl [1, 2, 3, 4] rfl (by decide) rfl (Nat.le_of_ble_eq_true rfl) dX8_look_48 rfl (gBackR [1, 2, 3, 4] rfl ?_)
    rintro _ rfl
    refine g_st (st' := [.int (nI N)]) rfl ?_
    exact hE.iret (⟨rfl, _, rfl, by omega⟩) (Nat.zero_le _) (Nat.zero_le _) dX8_look_51
  have hs1_52 : (w = 1) → G l E D 2 0 0 [(me, .inr (7, [.ref op, .ref rf, .ref h0, .ref n0, .ref l0, .ref f0, .ref z0, .ref tp])), (h0, .inr (6, [.ref a1, .ref a2, .ref a3, .ref x0, .int (nI N), .int (nI sg)])), (a1, .inl (T 0, 201, .inl (fun z9 => nI (af z9)))), (a2, .inl (T 1, 201, .inr (.inl (fun z9 => lN (inf z9))))), (a3, .inl (T 0, 201, .inl (fun z9 => nI (wf z9)))), (f0, .inr (0, [.ref y0, .ref y1, .ref y2, .ref y3, .ref y4, .ref y5, .ref y6, .int (nI cn), .int (nI lb)])), (y0, .inl (T 0, 201, .inl (fun z9 => nI (nw z9)))), (y1, .inl (T 0, 201, .inl (fun z9 => nI (wa z9)))), (y2, .inl (T 0, 201, .inl (fun z9 => nI (fi z9)))), (y3, .inl (T 0, 201, .inl (fun z9 => oI (sb z9)))), (y4, .inl (T 0, 201, .inl (fun z9 => nI (pa z9)))), (y5, .inl (T 0, 201, .inl (fun z9 => nI (bi z9)))), (y6, .inl (T 0, 201, .inl (fun z9 => nI (fr z9)))), (tp, .inr (4, [.int (nI 8192), .ref ta, .int (nI tc)])), (ta, .inl (T 1, ((8192 + 7) / 8), .inr (.inl (pack tb)))), (op, .inr (4, [.int (nI 16384), .ref oa, .int (nI oc)])), (oa, .inl (T 1, ((16384 + 7) / 8), .inr (.inl (pack ob)))), (rf, .inr (3, [.int (nI er), .int (nI sd), .int (nI it)]))] [(0, .ref me), (1, .int (nI w))] 52 [] := by
    intro hsw1
    refine g_aload_n (pc' := 53) hE 0 rfl rfl dX8_look_52 rfl ?_
    refine g_get (pc' := 56) hE gcX8 0 rfl 5 (by decide) rfl kX8_52 dX8_look_53 rfl ?_
    refine g_callV (pc' := 59) (As := []) (rest := []) hE (qX0_classes l D T f0 y0 y1 y2 y3 y4 y5 y6 nw wa fi sb pa bi fr cn lb hcn) mX0_classes kX8_181 iX0_classes sX0_classes (by decide) rfl (by decide) 5 rfl rfl [5, 6, 7, 8, 9, 10, 11, 12] rfl (by decide) rfl (Nat.le_of_ble_eq_true rfl) dX8_look_56 rfl (gBackR [5, 6, 7, 8, 9, 10, 11, 12] rfl ?_)
    rintro _ rfl
    refine g_st (st' := [.int (nI (cn - 1))]) rfl ?_
    exact hE.iret (⟨rfl, _, rfl, by omega⟩) (Nat.zero_le _) (Nat.zero_le _) dX8_look_59
  have hs1_60 : (w = 2) → G l E D 2 0 0 [(me, .inr (7, [.ref op, .ref rf, .ref h0, .ref n0, .ref l0, .ref f0, .ref z0, .ref tp])), (h0, .inr (6, [.ref a1, .ref a2, .ref a3, .ref x0, .int (nI N), .int (nI sg)])), (a1, .inl (T 0, 201, .inl (fun z9 => nI (af z9)))), (a2, .inl (T 1, 201, .inr (.inl (fun z9 => lN (inf z9))))), (a3, .inl (T 0, 201, .inl (fun z9 => nI (wf z9)))), (f0, .inr (0, [.ref y0, .ref y1, .ref y2, .ref y3, .ref y4, .ref y5, .ref y6, .int (nI cn), .int (nI lb)])), (y0, .inl (T 0, 201, .inl (fun z9 => nI (nw z9)))), (y1, .inl (T 0, 201, .inl (fun z9 => nI (wa z9)))), (y2, .inl (T 0, 201, .inl (fun z9 => nI (fi z9)))), (y3, .inl (T 0, 201, .inl (fun z9 => oI (sb z9)))), (y4, .inl (T 0, 201, .inl (fun z9 => nI (pa z9)))), (y5, .inl (T 0, 201, .inl (fun z9 => nI (bi z9)))), (y6, .inl (T 0, 201, .inl (fun z9 => nI (fr z9)))), (tp, .inr (4, [.int (nI 8192), .ref ta, .int (nI tc)])), (ta, .inl (T 1, ((8192 + 7) / 8), .inr (.inl (pack tb)))), (op, .inr (4, [.int (nI 16384), .ref oa, .int (nI oc)])), (oa, .inl (T 1, ((16384 + 7) / 8), .inr (.inl (pack ob)))), (rf, .inr (3, [.int (nI er), .int (nI sd), .int (nI it)]))] [(0, .ref me), (1, .int (nI w))] 60 [] := by
    intro hsw1
    refine g_aload_n (pc' := 61) hE 0 rfl rfl dX8_look_60 rfl ?_
    refine g_get (pc' := 64) hE gcX8 0 rfl 7 (by decide) rfl kX8_14 dX8_look_61 rfl ?_
    refine g_callV (pc' := 67) (As := []) (rest := []) hE (qX5_count l D T tp ta 8192 tc tb) mX5_count kX8_66 iX5_count sX5_count (by decide) rfl (by decide) 13 rfl rfl [13, 14] rfl (by decide) rfl (Nat.le_of_ble_eq_true rfl) dX8_look_64 rfl (gBackR [13, 14] rfl ?_)
    rintro _ rfl
    refine g_st (st' := [.int (nI tc)]) rfl ?_
    exact hE.iret (⟨rfl, _, rfl, by omega⟩) (Nat.zero_le _) (Nat.zero_le _) dX8_look_67
  have hs1_68 : (w = 3) → G l E D 2 0 0 [(me, .inr (7, [.ref op, .ref rf, .ref h0, .ref n0, .ref l0, .ref f0, .ref z0, .ref tp])), (h0, .inr (6, [.ref a1, .ref a2, .ref a3, .ref x0, .int (nI N), .int (nI sg)])), (a1, .inl (T 0, 201, .inl (fun z9 => nI (af z9)))), (a2, .inl (T 1, 201, .inr (.inl (fun z9 => lN (inf z9))))), (a3, .inl (T 0, 201, .inl (fun z9 => nI (wf z9)))), (f0, .inr (0, [.ref y0, .ref y1, .ref y2, .ref y3, .ref y4, .ref y5, .ref y6, .int (nI cn), .int (nI lb)])), (y0, .inl (T 0, 201, .inl (fun z9 => nI (nw z9)))), (y1, .inl (T 0, 201, .inl (fun z9 => nI (wa z9)))), (y2, .inl (T 0, 201, .inl (fun z9 => nI (fi z9)))), (y3, .inl (T 0, 201, .inl (fun z9 => oI (sb z9)))), (y4, .inl (T 0, 201, .inl (fun z9 => nI (pa z9)))), (y5, .inl (T 0, 201, .inl (fun z9 => nI (bi z9)))), (y6, .inl (T 0, 201, .inl (fun z9 => nI (fr z9)))), (tp, .inr (4, [.int (nI 8192), .ref ta, .int (nI tc)])), (ta, .inl (T 1, ((8192 + 7) / 8), .inr (.inl (pack tb)))), (op, .inr (4, [.int (nI 16384), .ref oa, .int (nI oc)])), (oa, .inl (T 1, ((16384 + 7) / 8), .inr (.inl (pack ob)))), (rf, .inr (3, [.int (nI er), .int (nI sd), .int (nI it)]))] [(0, .ref me), (1, .int (nI w))] 68 [] := by
    intro hsw1
    refine g_aload_n (pc' := 69) hE 0 rfl rfl dX8_look_68 rfl ?_
    refine g_get (pc' := 72) hE gcX8 0 rfl 0 (by decide) rfl kX8_18 dX8_look_69 rfl ?_
    refine g_callV (pc' := 75) (As := []) (rest := []) hE (qX5_count l D T op oa 16384 oc ob) mX5_count kX8_66 iX5_count sX5_count (by decide) rfl (by decide) 15 rfl rfl [15, 16] rfl (by decide) rfl (Nat.le_of_ble_eq_true rfl) dX8_look_72 rfl (gBackR [15, 16] rfl ?_)
    rintro _ rfl
    refine g_st (st' := [.int (nI oc)]) rfl ?_
    exact hE.iret (⟨rfl, _, rfl, by omega⟩) (Nat.zero_le _) (Nat.zero_le _) dX8_look_75
  have hs1_76 : (w = 4) → G l E D 2 0 0 [(me, .inr (7, [.ref op, .ref rf, .ref h0, .ref n0, .ref l0, .ref f0, .ref z0, .ref tp])), (h0, .inr (6, [.ref a1, .ref a2, .ref a3, .ref x0, .int (nI N), .int (nI sg)])), (a1, .inl (T 0, 201, .inl (fun z9 => nI (af z9)))), (a2, .inl (T 1, 201, .inr (.inl (fun z9 => lN (inf z9))))), (a3, .inl (T 0, 201, .inl (fun z9 => nI (wf z9)))), (f0, .inr (0, [.ref y0, .ref y1, .ref y2, .ref y3, .ref y4, .ref y5, .ref y6, .int (nI cn), .int (nI lb)])), (y0, .inl (T 0, 201, .inl (fun z9 => nI (nw z9)))), (y1, .inl (T 0, 201, .inl (fun z9 => nI (wa z9)))), (y2, .inl (T 0, 201, .inl (fun z9 => nI (fi z9)))), (y3, .inl (T 0, 201, .inl (fun z9 => oI (sb z9)))), (y4, .inl (T 0, 201, .inl (fun z9 => nI (pa z9)))), (y5, .inl (T 0, 201, .inl (fun z9 => nI (bi z9)))), (y6, .inl (T 0, 201, .inl (fun z9 => nI (fr z9)))), (tp, .inr (4, [.int (nI 8192), .ref ta, .int (nI tc)])), (ta, .inl (T 1, ((8192 + 7) / 8), .inr (.inl (pack tb)))), (op, .inr (4, [.int (nI 16384), .ref oa, .int (nI oc)])), (oa, .inl (T 1, ((16384 + 7) / 8), .inr (.inl (pack ob)))), (rf, .inr (3, [.int (nI er), .int (nI sd), .int (nI it)]))] [(0, .ref me), (1, .int (nI w))] 76 [] := by
    intro hsw1
    refine g_aload_n (pc' := 77) hE 0 rfl rfl dX8_look_76 rfl ?_
    refine g_get (pc' := 80) hE gcX8 0 rfl 1 (by decide) rfl kX8_24 dX8_look_77 rfl ?_
    refine g_callV (pc' := 83) (As := []) (rest := []) hE (qX4_error l D T rf er sd it) mX4_error kX8_184 iX4_error sX4_error (by decide) rfl (by decide) 17 rfl rfl [17] rfl (by decide) rfl (Nat.le_of_ble_eq_true rfl) dX8_look_80 rfl (gBackR [17] rfl ?_)
    rintro _ rfl
    refine g_st (st' := [.int (nI er)]) rfl ?_
    exact hE.iret (⟨rfl, _, rfl, by omega⟩) (Nat.zero_le _) (Nat.zero_le _) dX8_look_83
  have hs1_84 : (w = 5) → G l E D 2 0 0 [(me, .inr (7, [.ref op, .ref rf, .ref h0, .ref n0, .ref l0, .ref f0, .ref z0, .ref tp])), (h0, .inr (6, [.ref a1, .ref a2, .ref a3, .ref x0, .int (nI N), .int (nI sg)])), (a1, .inl (T 0, 201, .inl (fun z9 => nI (af z9)))), (a2, .inl (T 1, 201, .inr (.inl (fun z9 => lN (inf z9))))), (a3, .inl (T 0, 201, .inl (fun z9 => nI (wf z9)))), (f0, .inr (0, [.ref y0, .ref y1, .ref y2, .ref y3, .ref y4, .ref y5, .ref y6, .int (nI cn), .int (nI lb)])), (y0, .inl (T 0, 201, .inl (fun z9 => nI (nw z9)))), (y1, .inl (T 0, 201, .inl (fun z9 => nI (wa z9)))), (y2, .inl (T 0, 201, .inl (fun z9 => nI (fi z9)))), (y3, .inl (T 0, 201, .inl (fun z9 => oI (sb z9)))), (y4, .inl (T 0, 201, .inl (fun z9 => nI (pa z9)))), (y5, .inl (T 0, 201, .inl (fun z9 => nI (bi z9)))), (y6, .inl (T 0, 201, .inl (fun z9 => nI (fr z9)))), (tp, .inr (4, [.int (nI 8192), .ref ta, .int (nI tc)])), (ta, .inl (T 1, ((8192 + 7) / 8), .inr (.inl (pack tb)))), (op, .inr (4, [.int (nI 16384), .ref oa, .int (nI oc)])), (oa, .inl (T 1, ((16384 + 7) / 8), .inr (.inl (pack ob)))), (rf, .inr (3, [.int (nI er), .int (nI sd), .int (nI it)]))] [(0, .ref me), (1, .int (nI w))] 84 [] := by
    intro hsw1
    refine g_aload_n (pc' := 85) hE 0 rfl rfl dX8_look_84 rfl ?_
    refine g_get (pc' := 88) hE gcX8 0 rfl 1 (by decide) rfl kX8_24 dX8_look_85 rfl ?_
    refine g_callV (pc' := 91) (As := []) (rest := []) hE (qX4_stood l D T rf er sd it) mX4_stood kX8_187 iX4_stood sX4_stood (by decide) rfl (by decide) 17 rfl rfl [17] rfl (by decide) rfl (Nat.le_of_ble_eq_true rfl) dX8_look_88 rfl (gBackR [17] rfl ?_)
    rintro _ rfl
    refine g_st (st' := [.int (nI sd)]) rfl ?_
    exact hE.iret (⟨rfl, _, rfl, by omega⟩) (Nat.zero_le _) (Nat.zero_le _) dX8_look_91
  have hs1_92 : (w = 6) → G l E D 2 0 0 [(me, .inr (7, [.ref op, .ref rf, .ref h0, .ref n0, .ref l0, .ref f0, .ref z0, .ref tp])), (h0, .inr (6, [.ref a1, .ref a2, .ref a3, .ref x0, .int (nI N), .int (nI sg)])), (a1, .inl (T 0, 201, .inl (fun z9 => nI (af z9)))), (a2, .inl (T 1, 201, .inr (.inl (fun z9 => lN (inf z9))))), (a3, .inl (T 0, 201, .inl (fun z9 => nI (wf z9)))), (f0, .inr (0, [.ref y0, .ref y1, .ref y2, .ref y3, .ref y4, .ref y5, .ref y6, .int (nI cn), .int (nI lb)])), (y0, .inl (T 0, 201, .inl (fun z9 => nI (nw z9)))), (y1, .inl (T 0, 201, .inl (fun z9 => nI (wa z9)))), (y2, .inl (T 0, 201, .inl (fun z9 => nI (fi z9)))), (y3, .inl (T 0, 201, .inl (fun z9 => oI (sb z9)))), (y4, .inl (T 0, 201, .inl (fun z9 => nI (pa z9)))), (y5, .inl (T 0, 201, .inl (fun z9 => nI (bi z9)))), (y6, .inl (T 0, 201, .inl (fun z9 => nI (fr z9)))), (tp, .inr (4, [.int (nI 8192), .ref ta, .int (nI tc)])), (ta, .inl (T 1, ((8192 + 7) / 8), .inr (.inl (pack tb)))), (op, .inr (4, [.int (nI 16384), .ref oa, .int (nI oc)])), (oa, .inl (T 1, ((16384 + 7) / 8), .inr (.inl (pack ob)))), (rf, .inr (3, [.int (nI er), .int (nI sd), .int (nI it)]))] [(0, .ref me), (1, .int (nI w))] 92 [] := by
    intro hsw1
    refine g_aload_n (pc' := 93) hE 0 rfl rfl dX8_look_92 rfl ?_
    refine g_get (pc' := 96) hE gcX8 0 rfl 5 (by decide) rfl kX8_52 dX8_look_93 rfl ?_
    refine g_callV (pc' := 99) (As := []) (rest := []) hE (qX0_greatestAlike l D T f0 y0 y1 y2 y3 y4 y5 y6 nw wa fi sb pa bi fr cn lb hlb) mX0_greatestAlike kX8_190 iX0_greatestAlike sX0_greatestAlike (by decide) rfl (by decide) 5 rfl rfl [5, 6, 7, 8, 9, 10, 11, 12] rfl (by decide) rfl (Nat.le_of_ble_eq_true rfl) dX8_look_96 rfl (gBackR [5, 6, 7, 8, 9, 10, 11, 12] rfl ?_)
    rintro _ rfl
    refine g_st (st' := [.int (nI (lb - 1))]) rfl ?_
    exact hE.iret (⟨rfl, _, rfl, by omega⟩) (Nat.zero_le _) (Nat.zero_le _) dX8_look_99
  have hs1_100 : (w ≠ 0 ∧ w ≠ 1 ∧ w ≠ 2 ∧ w ≠ 3 ∧ w ≠ 4 ∧ w ≠ 5 ∧ w ≠ 6) → G l E D 2 0 0 [(me, .inr (7, [.ref op, .ref rf, .ref h0, .ref n0, .ref l0, .ref f0, .ref z0, .ref tp])), (h0, .inr (6, [.ref a1, .ref a2, .ref a3, .ref x0, .int (nI N), .int (nI sg)])), (a1, .inl (T 0, 201, .inl (fun z9 => nI (af z9)))), (a2, .inl (T 1, 201, .inr (.inl (fun z9 => lN (inf z9))))), (a3, .inl (T 0, 201, .inl (fun z9 => nI (wf z9)))), (f0, .inr (0, [.ref y0, .ref y1, .ref y2, .ref y3, .ref y4, .ref y5, .ref y6, .int (nI cn), .int (nI lb)])), (y0, .inl (T 0, 201, .inl (fun z9 => nI (nw z9)))), (y1, .inl (T 0, 201, .inl (fun z9 => nI (wa z9)))), (y2, .inl (T 0, 201, .inl (fun z9 => nI (fi z9)))), (y3, .inl (T 0, 201, .inl (fun z9 => oI (sb z9)))), (y4, .inl (T 0, 201, .inl (fun z9 => nI (pa z9)))), (y5, .inl (T 0, 201, .inl (fun z9 => nI (bi z9)))), (y6, .inl (T 0, 201, .inl (fun z9 => nI (fr z9)))), (tp, .inr (4, [.int (nI 8192), .ref ta, .int (nI tc)])), (ta, .inl (T 1, ((8192 + 7) / 8), .inr (.inl (pack tb)))), (op, .inr (4, [.int (nI 16384), .ref oa, .int (nI oc)])), (oa, .inl (T 1, ((16384 + 7) / 8), .inr (.inl (pack ob)))), (rf, .inr (3, [.int (nI er), .int (nI sd), .int (nI it)]))] [(0, .ref me), (1, .int (nI w))] 100 [] := by
    intro hsw1
    omega
  rcases (show w = 0 ∨ w = 1 ∨ w = 2 ∨ w = 3 ∨ w = 4 ∨ w = 5 ∨ w = 6 ∨ ((w : Nat) < 0 ∨ 6 < w) by omega) with hz | hz | hz | hz | hz | hz | hz | hz
  · exact g_tabIn (tgt := 44) hE 0 hz (by decide) (by decide) (by decide) dX8_look_1 rfl rfl (hs1_44 (by omega))
  · exact g_tabIn (tgt := 52) hE 1 hz (by decide) (by decide) (by decide) dX8_look_1 rfl rfl (hs1_52 (by omega))
  · exact g_tabIn (tgt := 60) hE 2 hz (by decide) (by decide) (by decide) dX8_look_1 rfl rfl (hs1_60 (by omega))
  · exact g_tabIn (tgt := 68) hE 3 hz (by decide) (by decide) (by decide) dX8_look_1 rfl rfl (hs1_68 (by omega))
  · exact g_tabIn (tgt := 76) hE 4 hz (by decide) (by decide) (by decide) dX8_look_1 rfl rfl (hs1_76 (by omega))
  · exact g_tabIn (tgt := 84) hE 5 hz (by decide) (by decide) (by decide) dX8_look_1 rfl rfl (hs1_84 (by omega))
  · exact g_tabIn (tgt := 92) hE 6 hz (by decide) (by decide) (by decide) dX8_look_1 rfl rfl (hs1_92 (by omega))
  · exact g_tabOut (tgt := 100) hE (by omega) (by omega) dX8_look_1 rfl (hs1_100 (by omega))

set_option maxHeartbeats 4000000 in
set_option maxRecDepth 100000 in
theorem qX8_lookX (l : Launch) (D : va_G) (T : Nat → ClassId) (hlt : l.stackTraces = false) (me op oa oc : Nat) (ob : Nat → Nat) (rf er sd it tp ta tc : Nat) (tb : Nat → Nat) (h0 a1 a2 a3 x0 x1 N sg : Nat) (af inf wf : Nat → Nat) (cnt : Nat) (b : Nat → Nat) (n0 s0 s1 s2 s3 s4 : Nat) (sl te pl le fb0 : Nat → Nat) (ns nc fb : Nat) (l0 k0 k1 k2 k3 k4 k5 k6 : Nat) (st to bs bk qu on ba : Nat → Nat) (f0 y0 y1 y2 y3 y4 y5 y6 : Nat) (nw wa fi : Nat → Nat) (sb : Nat → Option Nat) (pa bi fr : Nat → Nat) (cn lb : Nat) (z0 p0 : Nat) (pz : Nat → Nat) (x : Int32) (hv : x.toInt < 0 ∨ 6 < x.toInt) : ConT l D T yX8_look cX8_look 2 (some .int) 8 1 6 [.ref me, .int x] [(me, .inr (7, [.ref op, .ref rf, .ref h0, .ref n0, .ref l0, .ref f0, .ref z0, .ref tp]))] xIA := by
  refine ConT.of (by decide) (Nat.le_of_ble_eq_true rfl) ?_
  intro E hE hZ htab hQ
  refine g_lv (lv' := [(0, .ref me), (1, .int x)]) [0, 1] rfl ?_
  refine g_iload_n (pc' := 1) hE 1 rfl rfl dX8_look_0 rfl ?_
  refine g_tabOutR (tgt := 100) hE (hv) dX8_look_1 rfl ?_
  exact g_throw hE hlt hZ htab hQ (by decide) kX8_63 ti_IA ta_IA tb_IA tc_IA hZ.1.2.1 dX8_look_100 dX8_look_103 dX8_look_104 dX8_look_107 (by decide) (by decide) (by decide) (by decide)
