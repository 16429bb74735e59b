set_option maxHeartbeats 4000000 in
set_option maxRecDepth 100000 in
theorem qX8_leastNamedAsTape (l : Launch) (D : va_G) (T : Nat → ClassId) (me op rf z0 tp ta : Nat) (h0 a1 a2 a3 x0 x1 N sg : Nat) (af inf wf : Nat → Nat) (cnt : Nat) (b : Nat → Nat) (l0 f0 tc : Nat) (tb : Nat → Nat) (n0 s0 s1 s2 s3 s4 : Nat) (sl te pl le fb0 : Nat → Nat) (ns nc fb : Nat) (k f : Nat) (hc : cnt ≤ 8192) (hb : ∀ i, b i < 256) (hT : TyArr (cut b cnt) N af inf wf) (hN2 : N ≤ 200) (htc : tc ≤ 8192) (htb : ∀ i, tb i < 256) (hNm : NamesOK (cut b cnt) N sg sl te pl le fb0 ns nc fb) (hk : k ≤ 13) (hf : 1 ≤ f ∧ f < 2 ^ 31) : Con l D T yX8_leastNamedAsTape cX8_leastNamedAsTape 5 (some .int) 4 0 0 [.ref me, .int (nI k), .int (nI f)] [(me, .inr (7, [.ref op, .ref rf, .ref h0, .ref n0, .ref l0, .ref f0, .ref z0, .ref tp])), (tp, .inr (4, [.int (nI 8192), .ref ta, .int (nI tc)])), (ta, .inl (T 1, ((8192 + 7) / 8), .inr (.inl (pack tb)))), (h0, .inr (6, [.ref a1, .ref a2, .ref a3, .ref x0, .int (nI N), .int (nI sg)])), (a1, .inl (T 0, 201, .inl (fun z9 => nI (af z9)))), (a2, .inl (T 1, 201, .inr (.inl (fun z9 => lN (inf z9))))), (a3, .inl (T 0, 201, .inl (fun z9 => nI (wf z9)))), (x0, .inr (4, [.int (nI 8192), .ref x1, .int (nI cnt)])), (x1, .inl (T 1, ((8192 + 7) / 8), .inr (.inl (pack b)))), (n0, .inr (2, [.ref s0, .ref s1, .ref s2, .ref s3, .ref s4, .int (nI ns), .int (nI nc), .int (nI fb)])), (s0, .inl (T 0, 201, .inl (fun z9 => nI (sl z9)))), (s1, .inl (T 0, 800, .inl (fun z9 => nI (te z9)))), (s2, .inl (T 0, 801, .inl (fun z9 => nI (pl z9)))), (s3, .inl (T 0, 801, .inl (fun z9 => nI (le z9)))), (s4, .inl (T 0, 801, .inl (fun z9 => nI (fb0 z9))))] (fun v w1 => w1 = [(me, .inr (7, [.ref op, .ref rf, .ref h0, .ref n0, .ref l0, .ref f0, .ref z0, .ref tp])), (tp, .inr (4, [.int (nI 8192), .ref ta, .int (nI tc)])), (ta, .inl (T 1, ((8192 + 7) / 8), .inr (.inl (pack tb)))), (h0, .inr (6, [.ref a1, .ref a2, .ref a3, .ref x0, .int (nI N), .int (nI sg)])), (a1, .inl (T 0, 201, .inl (fun z9 => nI (af z9)))), (a2, .inl (T 1, 201, .inr (.inl (fun z9 => lN (inf z9))))), (a3, .inl (T 0, 201, .inl (fun z9 => nI (wf z9)))), (x0, .inr (4, [.int (nI 8192), .ref x1, .int (nI cnt)])), (x1, .inl (T 1, ((8192 + 7) / 8), .inr (.inl (pack b)))), (n0, .inr (2, [.ref s0, .ref s1, .ref s2, .ref s3, .ref s4, .int (nI ns), .int (nI nc), .int (nI fb)])), (s0, .inl (T 0, 201, .inl (fun z9 => nI (sl z9)))), (s1, .inl (T 0, 800, .inl (fun z9 => nI (te z9)))), (s2, .inl (T 0, 801, .inl (fun z9 => nI (pl z9)))), (s3, .inl (T 0, 801, .inl (fun z9 => nI (le z9)))), (s4, .inl (T 0, 801, .inl (fun z9 => nI (fb0 z9))))] ∧ ∃ r : Nat, v = some (.int (nI r)) ∧ Least (cut b cnt) sg N (cut tb tc) tc k f r) := by
  refine Con.of (by decide) (Nat.le_of_ble_eq_true rfl) ?_
  intro E hE
  obtain ⟨hf, hf2⟩ := hf
  have hns8 := hNm.2.2.2.2
  have hsl8 := hNm.2.2.2.1
  have hnc8 := hNm.2.1.1.1.2.2
  refine g_lv (lv' := [(0, .ref me), (1, .int (nI k)), (2, .int (nI f))]) [0, 1, 2] rfl ?_
  refine g_iload_n (pc' := 1) hE 2 rfl rfl dX8_leastNamedAsTape_0 rfl ?_
  refine g_istore_n (pc' := 2) hE [(3, .int (nI f)), (0, .ref me), (1, .int (nI k)), (2, .int (nI f))] dX8_leastNamedAsTape_1 rfl rfl (by decide) rfl ?_
  refine (show ∀ (d2 : Nat) (i : Nat), N + 1 - i = d2 → (f ≤ i) → (i < 2 ^ 31) → (∀ e, f ≤ e → e < i → ¬ Named (cut b cnt) sg (cut tb tc) tc k e) → G l E D 5 0 0 [(me, .inr (7, [.ref op, .ref rf, .ref h0, .ref n0, .ref l0, .ref f0, .ref z0, .ref tp])), (tp, .inr (4, [.int (nI 8192), .ref ta, .int (nI tc)])), (ta, .inl (T 1, ((8192 + 7) / 8), .inr (.inl (pack tb)))), (h0, .inr (6, [.ref a1, .ref a2, .ref a3, .ref x0, .int (nI N), .int (nI sg)])), (a1, .inl (T 0, 201, .inl (fun z9 => nI (af z9)))), (a2, .inl (T 1, 201, .inr (.inl (fun z9 => lN (inf z9))))), (a3, .inl (T 0, 201, .inl (fun z9 => nI (wf z9)))), (x0, .inr (4, [.int (nI 8192), .ref x1, .int (nI cnt)])), (x1, .inl (T 1, ((8192 + 7) / 8), .inr (.inl (pack b)))), (n0, .inr (2, [.ref s0, .ref s1, .ref s2, .ref s3, .ref s4, .int (nI ns), .int (nI nc), .int (nI fb)])), (s0, .inl (T 0, 201, .inl (fun z9 => nI (sl z9)))), (s1, .inl (T 0, 800, .inl (fun z9 => nI (te z9)))), (s2, .inl (T 0, 801, .inl (fun z9 => nI (pl z9)))), (s3, .inl (T 0, 801, .inl (fun z9 => nI (le z9)))), (s4, .inl (T 0, 801, .inl (fun z9 => nI (fb0 z9))))] [(3, .int (nI i)), (0, .ref me), (1, .int (nI k)), (2, .int (nI f))] 2 [] from ?_) _ f rfl (Nat.le_refl _) hf2 (fun e h1 h2 => absurd h2 (by omega))
  intro d2
  induction d2 using Nat.strongRecOn with
  | _ d2 ih2 =>
  intro i hd2 hfi hi2 hall
  refine g_iload_n (pc' := 3) hE 0 rfl rfl dX8_leastNamedAsTape_2 rfl ?_
  refine g_aload_n (pc' := 4) hE 1 rfl rfl dX8_leastNamedAsTape_3 rfl ?_
  refine g_get (pc' := 7) hE gcX8 0 rfl 2 (by decide) rfl kX8_31 dX8_leastNamedAsTape_4 rfl ?_
  refine g_callV (pc' := 10) (As := []) (rest := [.int (nI i)]) hE (qX7_count l D T h0 a1 a2 a3 x0 N sg af inf wf ) mX7_count kX8_148 iX7_count sX7_count (by decide) rfl (by decide) 3 rfl rfl [3, 4, 5, 6] rfl (by decide) rfl (Nat.le_of_ble_eq_true rfl) dX8_leastNamedAsTape_7 rfl (gBackR [3, 4, 5, 6] rfl ?_)
  rintro _ rfl
  refine g_st (st' := [.int (nI N), .int (nI i)]) rfl ?_
  refine g_icmpN_gt (pc' := 13) (tgt := 100) hE (by omega) (by omega) dX8_leastNamedAsTape_10 rfl rfl (fun hc10 => ?_) (fun hc10 => ?_)
  · refine g_iconst (pc' := 101) hE (nI 0) (by decide) dX8_leastNamedAsTape_100 rfl ?_
    exact hE.iret (⟨rfl, 0, rfl, Or.inl ⟨rfl, fun e h1 h2 => hall e h1 (by omega)⟩⟩) (Nat.zero_le _) (Nat.zero_le _) dX8_leastNamedAsTape_101
  · obtain ⟨m, hm⟩ : ∃ m, i = m + 1 := ⟨i - 1, by omega⟩
    obtain ⟨o1, o2, o3, o4, o5⟩ := hNm.own (show m < N by omega)
    rw [← hm] at o1 o2 o3 o4 o5
    refine g_aload_n (pc' := 14) hE 1 rfl rfl dX8_leastNamedAsTape_13 rfl ?_
    refine g_get (pc' := 17) hE gcX8 0 rfl 3 (by decide) rfl kX8_38 dX8_leastNamedAsTape_14 rfl ?_
    refine g_iload_n (pc' := 18) hE 0 rfl rfl dX8_leastNamedAsTape_17 rfl ?_
    refine g_callV (pc' := 21) (As := [.int (nI i)]) (rest := []) hE (qX3_own l D T n0 s0 s1 s2 s3 s4 sl te pl le fb0 ns nc fb i hns8 hsl8 (by omega)) mX3_own kX8_119 iX3_own sX3_own (by decide) rfl (by decide) 9 rfl rfl [9, 10, 11, 12, 13, 14] rfl (by decide) rfl (Nat.le_of_ble_eq_true rfl) dX8_leastNamedAsTape_18 rfl (gBackR [9, 10, 11, 12, 13, 14] rfl ?_)
    rintro _ rfl
    refine g_st (st' := [.int (nI (if hv 200 i (sl i) < ns then te (hv 200 i (sl i)) else 0))]) rfl ?_
    refine g_eqi (show _ = nI (te (sl i)) from by rw [hv_in _ (by omega) (by omega), if_pos o1]) ?_
    refine g_istore (pc' := 23) hE [(4, .int (nI (te (sl i)))), (3, .int (nI i)), (0, .ref me), (1, .int (nI k)), (2, .int (nI f))] dX8_leastNamedAsTape_21 rfl (by decide) rfl ?_
    refine g_iload_n (pc' := 24) hE 3 rfl rfl dX8_leastNamedAsTape_23 rfl ?_
    refine g_ifN_eq (pc' := 27) (tgt := 39) hE (by omega) dX8_leastNamedAsTape_24 rfl rfl (fun hc24 => ?_) (fun hc24 => ?_)
    · refine g_aload_n (pc' := 40) hE 2 rfl rfl dX8_leastNamedAsTape_39 rfl ?_
      refine g_get (pc' := 43) hE gcX8 0 rfl 3 (by decide) rfl kX8_38 dX8_leastNamedAsTape_40 rfl ?_
      refine g_iload (pc' := 45) hE 0 rfl dX8_leastNamedAsTape_43 rfl ?_
      refine g_callV (pc' := 48) (As := [.int (nI (te (sl i)))]) (rest := []) hE (qX3_letters l D T n0 s0 s1 s2 s3 s4 sl te pl le fb0 ns nc fb (te (sl i)) hnc8 (by omega)) mX3_letters kX8_122 iX3_letters sX3_letters (by decide) rfl (by decide) 9 rfl rfl [9, 10, 11, 12, 13, 14] rfl (by decide) rfl (Nat.le_of_ble_eq_true rfl) dX8_leastNamedAsTape_45 rfl (gBackR [9, 10, 11, 12, 13, 14] rfl ?_)
      rintro _ rfl
      refine g_st (st' := [.int (nI (hv nc (te (sl i)) (le (te (sl i)))))]) rfl ?_
      refine g_eqi (show _ = nI (lfr (cut b cnt) (sg + wdT (cut b cnt) i 0)) from by rw [o3]) ?_
      refine g_aload_n (pc' := 49) hE 2 rfl rfl dX8_leastNamedAsTape_48 rfl ?_
      refine g_get (pc' := 52) hE gcX8 0 rfl 7 (by decide) rfl kX8_14 dX8_leastNamedAsTape_49 rfl ?_
      refine g_callV (pc' := 55) (As := []) (rest := [.int (nI (lfr (cut b cnt) (sg + wdT (cut b cnt) i 0)))]) hE (qX5_count l D T tp ta 8192 tc tb) mX5_count kX8_66 iX5_count sX5_count (by decide) rfl (by decide) 1 rfl rfl [1, 2] rfl (by decide) rfl (Nat.le_of_ble_eq_true rfl) dX8_leastNamedAsTape_52 rfl (gBackR [1, 2] rfl ?_)
      rintro _ rfl
      refine g_st (st' := [.int (nI tc), .int (nI (lfr (cut b cnt) (sg + wdT (cut b cnt) i 0)))]) rfl ?_
      have hlf := (lfr_cut (b := b) (s := sg + wdT (cut b cnt) i 0) hc).1
      refine g_icmpN_ne (pc' := 58) (tgt := 94) hE (by omega) (by omega) dX8_leastNamedAsTape_55 rfl rfl (fun hc55 => ?_) (fun hc55 => ?_)
      · have hno : ¬ Named (cut b cnt) sg (cut tb tc) tc k i := fun z => hc55 z.2.1
        refine g_iinc (pc' := 97) hE (nI (i + 1)) [(3, .int (nI (i + 1))), (4, .int (nI (te (sl i)))), (0, .ref me), (1, .int (nI k)), (2, .int (nI f))] 1 rfl dX8_leastNamedAsTape_94 rfl (g_incN _ 1) (by decide) rfl ?_
        refine g_goto (tgt := 2) hE dX8_leastNamedAsTape_97 rfl ?_
        refine g_lv [0, 2, 3, 4] (lv' := [(3, .int (nI (i + 1))), (0, .ref me), (1, .int (nI k)), (2, .int (nI f))]) rfl ?_
        exact ih2 _ (by omega) (i + 1) rfl (by omega) (by omega) (fun e h1 h2 => (Nat.lt_or_ge e i).elim (fun z => hall e h1 z) (fun z => by rw [show e = i by omega]; exact hno))
      · refine g_aload_n (pc' := 59) hE 2 rfl rfl dX8_leastNamedAsTape_58 rfl ?_
        refine g_get (pc' := 62) hE gcX8 0 rfl 2 (by decide) rfl kX8_31 dX8_leastNamedAsTape_59 rfl ?_
        refine g_callV (pc' := 65) (As := []) (rest := []) hE (qX7_text l D T h0 a1 a2 a3 x0 N sg af inf wf ) mX7_text kX8_167 iX7_text sX7_text (by decide) rfl (by decide) 3 rfl rfl [3, 4, 5, 6] rfl (by decide) rfl (Nat.le_of_ble_eq_true rfl) dX8_leastNamedAsTape_62 rfl (gBackR [3, 4, 5, 6] rfl ?_)
        rintro _ rfl
        refine g_st (st' := [.ref x0]) rfl ?_
        refine g_aload_n (pc' := 66) hE 2 rfl rfl dX8_leastNamedAsTape_65 rfl ?_
        refine g_get (pc' := 69) hE gcX8 0 rfl 3 (by decide) rfl kX8_38 dX8_leastNamedAsTape_66 rfl ?_
        refine g_iload (pc' := 71) hE 0 rfl dX8_leastNamedAsTape_69 rfl ?_
        refine g_callV (pc' := 74) (As := [.int (nI (te (sl i)))]) (rest := [.ref x0]) hE (qX3_place l D T n0 s0 s1 s2 s3 s4 sl te pl le fb0 ns nc fb (te (sl i)) hnc8 (by omega)) mX3_place kX8_171 iX3_place sX3_place (by decide) rfl (by decide) 9 rfl rfl [9, 10, 11, 12, 13, 14] rfl (by decide) rfl (Nat.le_of_ble_eq_true rfl) dX8_leastNamedAsTape_71 rfl (gBackR [9, 10, 11, 12, 13, 14] rfl ?_)
        rintro _ rfl
        refine g_st (st' := [.int (nI (hv nc (te (sl i)) (pl (te (sl i))))), .ref x0]) rfl ?_
        refine g_aload_n (pc' := 75) hE 2 rfl rfl dX8_leastNamedAsTape_74 rfl ?_
        refine g_get (pc' := 78) hE gcX8 0 rfl 7 (by decide) rfl kX8_14 dX8_leastNamedAsTape_75 rfl ?_
        refine g_iconst (pc' := 79) hE (nI 0) (by decide) dX8_leastNamedAsTape_78 rfl ?_
        refine g_aload_n (pc' := 80) hE 2 rfl rfl dX8_leastNamedAsTape_79 rfl ?_
        refine g_get (pc' := 83) hE gcX8 0 rfl 7 (by decide) rfl kX8_14 dX8_leastNamedAsTape_80 rfl ?_
        refine g_callV (pc' := 86) (As := []) (rest := [.int (nI 0), .ref tp, .int (nI (hv nc (te (sl i)) (pl (te (sl i))))), .ref x0]) hE (qX5_count l D T tp ta 8192 tc tb) mX5_count kX8_66 iX5_count sX5_count (by decide) rfl (by decide) 1 rfl rfl [1, 2] rfl (by decide) rfl (Nat.le_of_ble_eq_true rfl) dX8_leastNamedAsTape_83 rfl (gBackR [1, 2] rfl ?_)
        rintro _ rfl
        refine g_st (st' := [.int (nI tc), .int (nI 0), .ref tp, .int (nI (hv nc (te (sl i)) (pl (te (sl i))))), .ref x0]) rfl ?_
        refine g_callV (pc' := 89) (As := [.int (nI (hv nc (te (sl i)) (pl (te (sl i))))), .ref tp, .int (nI 0), .int (nI tc)]) (rest := []) hE (qX5_same2 l D T x0 x1 8192 cnt b tp ta 8192 tc tb (hv nc (te (sl i)) (pl (te (sl i)))) 0 tc (by decide) hb (by decide) htc htb hc (by omega) (by omega) (by omega)) mX5_same kX8_193 iX5_same sX5_same (by decide) rfl (by decide) 7 rfl rfl [7, 8, 1, 2] rfl (by decide) rfl (Nat.le_of_ble_eq_true rfl) dX8_leastNamedAsTape_86 rfl (gBackR [7, 8, 1, 2] rfl ?_)
        rintro _ rfl
        refine g_st (st' := [.int (bI (sameB (cut b cnt) (hv nc (te (sl i)) (pl (te (sl i)))) (cut tb tc) 0 tc))]) rfl ?_
        refine g_ifB_eq (pc' := 92) (tgt := 94) hE dX8_leastNamedAsTape_89 rfl rfl (fun hc89 => ?_) (fun hc89 => ?_)
        · have hno : ¬ Named (cut b cnt) sg (cut tb tc) tc k i := fun z => by rw [sameB_t (fun j hj => by rw [o5 j (by omega), Nat.zero_add]; exact z.2.2 j hj)] at hc89; cases hc89
          refine g_iinc (pc' := 97) hE (nI (i + 1)) [(3, .int (nI (i + 1))), (4, .int (nI (te (sl i)))), (0, .ref me), (1, .int (nI k)), (2, .int (nI f))] 1 rfl dX8_leastNamedAsTape_94 rfl (g_incN _ 1) (by decide) rfl ?_
          refine g_goto (tgt := 2) hE dX8_leastNamedAsTape_97 rfl ?_
          refine g_lv [0, 2, 3, 4] (lv' := [(3, .int (nI (i + 1))), (0, .ref me), (1, .int (nI k)), (2, .int (nI f))]) rfl ?_
          exact ih2 _ (by omega) (i + 1) rfl (by omega) (by omega) (fun e h1 h2 => (Nat.lt_or_ge e i).elim (fun z => hall e h1 z) (fun z => by rw [show e = i by omega]; exact hno))
        · refine g_iload_n (pc' := 93) hE 1 rfl rfl dX8_leastNamedAsTape_92 rfl ?_
          exact hE.iret (⟨rfl, i, rfl, Or.inr ⟨hfi, by omega, ⟨by first | exact Or.inl hc24 | exact Or.inr ((hv_in _ (by omega) (by omega)).symm.trans hc36), hc55, fun j hj => by have y := of_decide_eq_true hc89 j hj; rw [o5 j (by omega), Nat.zero_add] at y; exact y⟩, hall⟩⟩) (Nat.zero_le _) (Nat.zero_le _) dX8_leastNamedAsTape_93
    · refine g_aload_n (pc' := 28) hE 2 rfl rfl dX8_leastNamedAsTape_27 rfl ?_
      refine g_get (pc' := 31) hE gcX8 0 rfl 2 (by decide) rfl kX8_31 dX8_leastNamedAsTape_28 rfl ?_
      refine g_iload_n (pc' := 32) hE 1 rfl rfl dX8_leastNamedAsTape_31 rfl ?_
      refine g_callV (pc' := 35) (As := [.int (nI i)]) (rest := []) hE (qX7_kind l D T h0 a1 a2 a3 x0 N sg af inf wf i hN2 hT.1 (by omega)) mX7_kind kX8_104 iX7_kind sX7_kind (by decide) rfl (by decide) 3 rfl rfl [3, 4, 5, 6] rfl (by decide) rfl (Nat.le_of_ble_eq_true rfl) dX8_leastNamedAsTape_32 rfl (gBackR [3, 4, 5, 6] rfl ?_)
      rintro _ rfl
      refine g_st (st' := [.int (nI (hv N i (kd (inf i))))]) rfl ?_
      refine g_eqi (show _ = nI (kdT (cut b cnt) N i) from congrArg nI (hT.kind _)) ?_
      refine g_iload_n (pc' := 36) hE 3 rfl rfl dX8_leastNamedAsTape_35 rfl ?_
      have hkl := kdT_lt (cut b cnt) N i
      refine g_icmpN_ne (pc' := 39) (tgt := 94) hE (by omega) (by omega) dX8_leastNamedAsTape_36 rfl rfl (fun hc36 => ?_) (fun hc36 => ?_)
      · have hno : ¬ Named (cut b cnt) sg (cut tb tc) tc k i := fun z => by rcases z.1 with y | y; exact hc24 y; exact hc36 ((hv_in _ (by omega) (by omega)).trans y)
        refine g_iinc (pc' := 97) hE (nI (i + 1)) [(3, .int (nI (i + 1))), (4, .int (nI (te (sl i)))), (0, .ref me), (1, .int (nI k)), (2, .int (nI f))] 1 rfl dX8_leastNamedAsTape_94 rfl (g_incN _ 1) (by decide) rfl ?_
        refine g_goto (tgt := 2) hE dX8_leastNamedAsTape_97 rfl ?_
        refine g_lv [0, 2, 3, 4] (lv' := [(3, .int (nI (i + 1))), (0, .ref me), (1, .int (nI k)), (2, .int (nI f))]) rfl ?_
        exact ih2 _ (by omega) (i + 1) rfl (by omega) (by omega) (fun e h1 h2 => (Nat.lt_or_ge e i).elim (fun z => hall e h1 z) (fun z => by rw [show e = i by omega]; exact hno))
      · refine g_aload_n (pc' := 40) hE 2 rfl rfl dX8_leastNamedAsTape_39 rfl ?_
        refine g_get (pc' := 43) hE gcX8 0 rfl 3 (by decide) rfl kX8_38 dX8_leastNamedAsTape_40 rfl ?_
        refine g_iload (pc' := 45) hE 0 rfl dX8_leastNamedAsTape_43 rfl ?_
        refine g_callV (pc' := 48) (As := [.int (nI (te (sl i)))]) (rest := []) hE (qX3_letters l D T n0 s0 s1 s2 s3 s4 sl te pl le fb0 ns nc fb (te (sl i)) hnc8 (by omega)) mX3_letters kX8_122 iX3_letters sX3_letters (by decide) rfl (by decide) 9 rfl rfl [9, 10, 11, 12, 13, 14] rfl (by decide) rfl (Nat.le_of_ble_eq_true rfl) dX8_leastNamedAsTape_45 rfl (gBackR [9, 10, 11, 12, 13, 14] rfl ?_)
        rintro _ rfl
        refine g_st (st' := [.int (nI (hv nc (te (sl i)) (le (te (sl i)))))]) rfl ?_
        refine g_eqi (show _ = nI (lfr (cut b cnt) (sg + wdT (cut b cnt) i 0)) from by rw [o3]) ?_
        refine g_aload_n (pc' := 49) hE 2 rfl rfl dX8_leastNamedAsTape_48 rfl ?_
        refine g_get (pc' := 52) hE gcX8 0 rfl 7 (by decide) rfl kX8_14 dX8_leastNamedAsTape_49 rfl ?_
        refine g_callV (pc' := 55) (As := []) (rest := [.int (nI (lfr (cut b cnt) (sg + wdT (cut b cnt) i 0)))]) hE (qX5_count l D T tp ta 8192 tc tb) mX5_count kX8_66 iX5_count sX5_count (by decide) rfl (by decide) 1 rfl rfl [1, 2] rfl (by decide) rfl (Nat.le_of_ble_eq_true rfl) dX8_leastNamedAsTape_52 rfl (gBackR [1, 2] rfl ?_)
        rintro _ rfl
        refine g_st (st' := [.int (nI tc), .int (nI (lfr (cut b cnt) (sg + wdT (cut b cnt) i 0)))]) rfl ?_
        have hlf := (lfr_cut (b := b) (s := sg + wdT (cut b cnt) i 0) hc).1
        refine g_icmpN_ne (pc' := 58) (tgt := 94) hE (by omega) (by omega) dX8_leastNamedAsTape_55 rfl rfl (fun hc55 => ?_) (fun hc55 => ?_)
        · have hno : ¬ Named (cut b cnt) sg (cut tb tc) tc k i := fun z => hc55 z.2.1
          refine g_iinc (pc' := 97) hE (nI (i + 1)) [(3, .int (nI (i + 1))), (4, .int (nI (te (sl i)))), (0, .ref me), (1, .int (nI k)), (2, .int (nI f))] 1 rfl dX8_leastNamedAsTape_94 rfl (g_incN _ 1) (by decide) rfl ?_
          refine g_goto (tgt := 2) hE dX8_leastNamedAsTape_97 rfl ?_
          refine g_lv [0, 2, 3, 4] (lv' := [(3, .int (nI (i + 1))), (0, .ref me), (1, .int (nI k)), (2, .int (nI f))]) rfl ?_
          exact ih2 _ (by omega) (i + 1) rfl (by omega) (by omega) (fun e h1 h2 => (Nat.lt_or_ge e i).elim (fun z => hall e h1 z) (fun z => by rw [show e = i by omega]; exact hno))
        · refine g_aload_n (pc' := 59) hE 2 rfl rfl dX8_leastNamedAsTape_58 rfl ?_
          refine g_get (pc' := 62) hE gcX8 0 rfl 2 (by decide) rfl kX8_31 dX8_leastNamedAsTape_59 rfl ?_
          refine g_callV (pc' := 65) (As := []) (rest := []) hE (qX7_text l D T h0 a1 a2 a3 x0 N sg af inf wf ) mX7_text kX8_167 iX7_text sX7_text (by decide) rfl (by decide) 3 rfl rfl [3, 4, 5, 6] rfl (by decide) rfl (Nat.le_of_ble_eq_true rfl) dX8_leastNamedAsTape_62 rfl (gBackR [3, 4, 5, 6] rfl ?_)
          rintro _ rfl
          refine g_st (st' := [.ref x0]) rfl ?_
          refine g_aload_n (pc' := 66) hE 2 rfl rfl dX8_leastNamedAsTape_65 rfl ?_
          refine g_get (pc' := 69) hE gcX8 0 rfl 3 (by decide) rfl kX8_38 dX8_leastNamedAsTape_66 rfl ?_
          refine g_iload (pc' := 71) hE 0 rfl dX8_leastNamedAsTape_69 rfl ?_
          refine g_callV (pc' := 74) (As := [.int (nI (te (sl i)))]) (rest := [.ref x0]) hE (qX3_place l D T n0 s0 s1 s2 s3 s4 sl te pl le fb0 ns nc fb (te (sl i)) hnc8 (by omega)) mX3_place kX8_171 iX3_place sX3_place (by decide) rfl (by decide) 9 rfl rfl [9, 10, 11, 12, 13, 14] rfl (by decide) rfl (Nat.le_of_ble_eq_true rfl) dX8_leastNamedAsTape_71 rfl (gBackR [9, 10, 11, 12, 13, 14] rfl ?_)
          rintro _ rfl
          refine g_st (st' := [.int (nI (hv nc (te (sl i)) (pl (te (sl i))))), .ref x0]) rfl ?_
          refine g_aload_n (pc' := 75) hE 2 rfl rfl dX8_leastNamedAsTape_74 rfl ?_
          refine g_get (pc' := 78) hE gcX8 0 rfl 7 (by decide) rfl kX8_14 dX8_leastNamedAsTape_75 rfl ?_
          refine g_iconst (pc' := 79) hE (nI 0) (by decide) dX8_leastNamedAsTape_78 rfl ?_
          refine g_aload_n (pc' := 80) hE 2 rfl rfl dX8_leastNamedAsTape_79 rfl ?_
          refine g_get (pc' := 83) hE gcX8 0 rfl 7 (by decide) rfl kX8_14 dX8_leastNamedAsTape_80 rfl ?_
          refine g_callV (pc' := 86) (As := []) (rest := [.int (nI 0), .ref tp, .int (nI (hv nc (te (sl i)) (pl (te (sl i))))), .ref x0]) hE (qX5_count l D T tp ta 8192 tc tb) mX5_count kX8_66 iX5_count sX5_count (by decide) rfl (by decide) 1 rfl rfl [1, 2] rfl (by decide) rfl (Nat.le_of_ble_eq_true rfl) dX8_leastNamedAsTape_83 rfl (gBackR [1, 2] rfl ?_)
          rintro _ rfl
          refine g_st (st' := [.int (nI tc), .int (nI 0), .ref tp, .int (nI (hv nc (te (sl i)) (pl (te (sl i))))), .ref x0]) rfl ?_
          refine g_callV (pc' := 89) (As := [.int (nI (hv nc (te (sl i)) (pl (te (sl i))))), .ref tp, .int (nI 0), .int (nI tc)]) (rest := []) hE (qX5_same2 l D T x0 x1 8192 cnt b tp ta 8192 tc tb (hv nc (te (sl i)) (pl (te (sl i)))) 0 tc (by decide) hb (by decide) htc htb hc (by omega) (by omega) (by omega)) mX5_same kX8_193 iX5_same sX5_same (by decide) rfl (by decide) 7 rfl rfl [7, 8, 1, 2] rfl (by decide) rfl (Nat.le_of_ble_eq_true rfl) dX8_leastNamedAsTape_86 rfl (gBackR [7, 8, 1, 2] rfl ?_)
          rintro _ rfl
          refine g_st (st' := [.int (bI (sameB (cut b cnt) (hv nc (te (sl i)) (pl (te (sl i)))) (cut tb tc) 0 tc))]) rfl ?_
          refine g_ifB_eq (pc' := 92) (tgt := 94) hE dX8_leastNamedAsTape_89 rfl rfl (fun hc89 => ?_) (fun hc89 => ?_)
          · have hno : ¬ Named (cut b cnt) sg (cut tb tc) tc k i := fun z => by rw [sameB_t (fun j hj => by rw [o5 j (by omega), Nat.zero_add]; exact z.2.2 j hj)] at hc89; cases hc89
            refine g_iinc (pc' := 97) hE (nI (i + 1)) [(3, .int (nI (i + 1))), (4, .int (nI (te (sl i)))), (0, .ref me), (1, .int (nI k)), (2, .int (nI f))] 1 rfl dX8_leastNamedAsTape_94 rfl (g_incN _ 1) (by decide) rfl ?_
            refine g_goto (tgt := 2) hE dX8_leastNamedAsTape_97 rfl ?_
            refine g_lv [0, 2, 3, 4] (lv' := [(3, .int (nI (i + 1))), (0, .ref me), (1, .int (nI k)), (2, .int (nI f))]) rfl ?_
            exact ih2 _ (by omega) (i + 1) rfl (by omega) (by omega) (fun e h1 h2 => (Nat.lt_or_ge e i).elim (fun z => hall e h1 z) (fun z => by rw [show e = i by omega]; exact hno))
          · refine g_iload_n (pc' := 93) hE 1 rfl rfl dX8_leastNamedAsTape_92 rfl ?_
            exact hE.iret (⟨rfl, i, rfl, Or.inr ⟨hfi, by omega, ⟨by first | exact Or.inl hc24 | exact Or.inr ((hv_in _ (by omega) (by omega)).symm.trans hc36), hc55, fun j hj => by have y := of_decide_eq_true hc89 j hj; rw [o5 j (by omega), Nat.zero_add] at y; exact y⟩, hall⟩⟩) (Nat.zero_le _) (Nat.zero_le _) dX8_leastNamedAsTape_93

set_option maxHeartbeats 4000000 in
set_option maxRecDepth 100000 in
theorem qX8_foldedTypeBytes (l : Launch) (D : va_G) (T : Nat → ClassId) (me op rf z0 tp ta : Nat) (h0 a1 a2 a3 x0 x1 N sg : Nat) (af inf wf : Nat → Nat) (cnt : Nat) (b : Nat → Nat) (n0 l0 : Nat) (f0 y0 y1 y2 y3 y4 y5 y6 : Nat) (nw wa fi : Nat → Nat) (sb : Nat → Option Nat) (pa bi fr : Nat → Nat) (cn lb : Nat) (hc : cnt ≤ 8192) (hb : ∀ i, b i < 256) (hT : TyArr (cut b cnt) N af inf wf) (hN2 : N ≤ 200) (hFB : FB nw wa fi sb pa bi fr) : Con l D T yX8_foldedTypeBytes cX8_foldedTypeBytes 3 (some .int) 2 0 0 [.ref me] [(me, .inr (7, [.ref op, .ref rf, .ref h0, .ref n0, .ref l0, .ref f0, .ref z0, .ref tp])), (h0, .inr (6, [.ref a1, .ref a2, .ref a3, .ref x0, .int (nI N), .int (nI sg)])), (a1, .inl (T 0, 201, .inl (fun z9 => nI (af z9)))), (a2, .inl (T 1, 201, .inr (.inl (fun z9 => lN (inf z9))))), (a3, .inl (T 0, 201, .inl (fun z9 => nI (wf z9)))), (x0, .inr (4, [.int (nI 8192), .ref x1, .int (nI cnt)])), (x1, .inl (T 1, ((8192 + 7) / 8), .inr (.inl (pack b)))), (f0, .inr (0, [.ref y0, .ref y1, .ref y2, .ref y3, .ref y4, .ref y5, .ref y6, .int (nI cn), .int (nI lb)])), (y0, .inl (T 0, 201, .inl (fun z9 => nI (nw z9)))), (y1, .inl (T 0, 201, .inl (fun z9 => nI (wa z9)))), (y2, .inl (T 0, 201, .inl (fun z9 => nI (fi z9)))), (y3, .inl (T 0, 201, .inl (fun z9 => oI (sb z9)))), (y4, .inl (T 0, 201, .inl (fun z9 => nI (pa z9)))), (y5, .inl (T 0, 201, .inl (fun z9 => nI (bi z9)))), (y6, .inl (T 0, 201, .inl (fun z9 => nI (fr z9))))] (fun v w1 => w1 = [(me, .inr (7, [.ref op, .ref rf, .ref h0, .ref n0, .ref l0, .ref f0, .ref z0, .ref tp])), (h0, .inr (6, [.ref a1, .ref a2, .ref a3, .ref x0, .int (nI N), .int (nI sg)])), (a1, .inl (T 0, 201, .inl (fun z9 => nI (af z9)))), (a2, .inl (T 1, 201, .inr (.inl (fun z9 => lN (inf z9))))), (a3, .inl (T 0, 201, .inl (fun z9 => nI (wf z9)))), (x0, .inr (4, [.int (nI 8192), .ref x1, .int (nI cnt)])), (x1, .inl (T 1, ((8192 + 7) / 8), .inr (.inl (pack b)))), (f0, .inr (0, [.ref y0, .ref y1, .ref y2, .ref y3, .ref y4, .ref y5, .ref y6, .int (nI cn), .int (nI lb)])), (y0, .inl (T 0, 201, .inl (fun z9 => nI (nw z9)))), (y1, .inl (T 0, 201, .inl (fun z9 => nI (wa z9)))), (y2, .inl (T 0, 201, .inl (fun z9 => nI (fi z9)))), (y3, .inl (T 0, 201, .inl (fun z9 => oI (sb z9)))), (y4, .inl (T 0, 201, .inl (fun z9 => nI (pa z9)))), (y5, .inl (T 0, 201, .inl (fun z9 => nI (bi z9)))), (y6, .inl (T 0, 201, .inl (fun z9 => nI (fr z9))))] ∧ v = some (.int (nI (fsum (cut b cnt) (ldr nw fi) N)))) := by
  refine Con.of (by decide) (Nat.le_of_ble_eq_true rfl) ?_
  intro E hE
  refine g_lv (lv' := [(0, .ref me)]) [0] rfl ?_
  refine g_iconst (pc' := 1) hE (nI 0) (by decide) dX8_foldedTypeBytes_0 rfl ?_
  refine g_istore_n (pc' := 2) hE [(1, .int (nI 0)), (0, .ref me)] dX8_foldedTypeBytes_1 rfl rfl (by decide) rfl ?_
  refine g_iconst (pc' := 3) hE (nI 1) (by decide) dX8_foldedTypeBytes_2 rfl ?_
  refine g_istore_n (pc' := 4) hE [(2, .int (nI 1)), (1, .int (nI 0)), (0, .ref me)] dX8_foldedTypeBytes_3 rfl rfl (by decide) rfl ?_
  refine (show ∀ (d4 : Nat) (m : Nat), N - m = d4 → (m ≤ N) → G l E D 3 0 0 [(me, .inr (7, [.ref op, .ref rf, .ref h0, .ref n0, .ref l0, .ref f0, .ref z0, .ref tp])), (h0, .inr (6, [.ref a1, .ref a2, .ref a3, .ref x0, .int (nI N), .int (nI sg)])), (a1, .inl (T 0, 201, .inl (fun z9 => nI (af z9)))), (a2, .inl (T 1, 201, .inr (.inl (fun z9 => lN (inf z9))))), (a3, .inl (T 0, 201, .inl (fun z9 => nI (wf z9)))), (x0, .inr (4, [.int (nI 8192), .ref x1, .int (nI cnt)])), (x1, .inl (T 1, ((8192 + 7) / 8), .inr (.inl (pack b)))), (f0, .inr (0, [.ref y0, .ref y1, .ref y2, .ref y3, .ref y4, .ref y5, .ref y6, .int (nI cn), .int (nI lb)])), (y0, .inl (T 0, 201, .inl (fun z9 => nI (nw z9)))), (y1, .inl (T 0, 201, .inl (fun z9 => nI (wa z9)))), (y2, .inl (T 0, 201, .inl (fun z9 => nI (fi z9)))), (y3, .inl (T 0, 201, .inl (fun z9 => oI (sb z9)))), (y4, .inl (T 0, 201, .inl (fun z9 => nI (pa z9)))), (y5, .inl (T 0, 201, .inl (fun z9 => nI (bi z9)))), (y6, .inl (T 0, 201, .inl (fun z9 => nI (fr z9))))] [(2, .int (nI (m + 1))), (1, .int (nI (fsum (cut b cnt) (ldr nw fi) m))), (0, .ref me)] 4 [] from ?_) _ 0 rfl (Nat.zero_le _)
  intro d4
  induction d4 using Nat.strongRecOn with
  | _ d4 ih4 =>
  intro m hd4 hm
  refine g_iload_n (pc' := 5) hE 0 rfl rfl dX8_foldedTypeBytes_4 rfl ?_
  refine g_aload_n (pc' := 6) hE 2 rfl rfl dX8_foldedTypeBytes_5 rfl ?_
  refine g_get (pc' := 9) hE gcX8 0 rfl 2 (by decide) rfl kX8_31 dX8_foldedTypeBytes_6 rfl ?_
  refine g_callV (pc' := 12) (As := []) (rest := [.int (nI (m + 1))]) hE (qX7_count l D T h0 a1 a2 a3 x0 N sg af inf wf ) mX7_count kX8_148 iX7_count sX7_count (by decide) rfl (by decide) 1 rfl rfl [1, 2, 3, 4] rfl (by decide) rfl (Nat.le_of_ble_eq_true rfl) dX8_foldedTypeBytes_9 rfl (gBackR [1, 2, 3, 4] rfl ?_)
  rintro _ rfl
  refine g_st (st' := [.int (nI N), .int (nI (m + 1))]) rfl ?_
  refine g_icmpN_gt (pc' := 15) (tgt := 46) hE (by omega) (by omega) dX8_foldedTypeBytes_12 rfl rfl (fun hc12 => ?_) (fun hc12 => ?_)
  · refine g_iload_n (pc' := 47) hE 1 rfl rfl dX8_foldedTypeBytes_46 rfl ?_
    exact hE.iret (⟨rfl, by rw [show m = N by omega]⟩) (Nat.zero_le _) (Nat.zero_le _) dX8_foldedTypeBytes_47
  · refine g_aload_n (pc' := 16) hE 2 rfl rfl dX8_foldedTypeBytes_15 rfl ?_
    refine g_get (pc' := 19) hE gcX8 0 rfl 5 (by decide) rfl kX8_52 dX8_foldedTypeBytes_16 rfl ?_
    refine g_iload_n (pc' := 20) hE 0 rfl rfl dX8_foldedTypeBytes_19 rfl ?_
    refine g_callV (pc' := 23) (As := [.int (nI (m + 1))]) (rest := []) hE (qX0_leader l D T f0 y0 y1 y2 y3 y4 y5 y6 nw wa fi sb pa bi fr cn lb (m + 1) (by omega) ((hFB.1 _).1) ((hFB.1 _).2.2.1)) mX0_leader kX8_125 iX0_leader sX0_leader (by decide) rfl (by decide) 7 rfl rfl [7, 8, 9, 10, 11, 12, 13, 14] rfl (by decide) rfl (Nat.le_of_ble_eq_true rfl) dX8_foldedTypeBytes_20 rfl (gBackR [7, 8, 9, 10, 11, 12, 13, 14] rfl ?_)
    rintro _ rfl
    refine g_st (st' := [.int (nI (fi (nw (m + 1))))]) rfl ?_
    refine g_iload_n (pc' := 24) hE 0 rfl rfl dX8_foldedTypeBytes_23 rfl ?_
    have hfl := (hFB.1 (nw (m + 1))).2.2.1
    refine g_icmpN_ne (pc' := 27) (tgt := 40) hE (by omega) (by omega) dX8_foldedTypeBytes_24 rfl rfl (fun hc24 => ?_) (fun hc24 => ?_)
    · refine g_lvw (lv' := [(2, .int (nI (m + 1))), (1, .int (nI (fsum (cut b cnt) (ldr nw fi) (m + 1)))), (0, .ref me)]) (by rw [show fsum (cut b cnt) (ldr nw fi) (m + 1) = fsum (cut b cnt) (ldr nw fi) m by simp only [fsum]; rw [if_neg (by unfold ldr; simp [hc24])]; rfl]) ?_
      refine g_iinc (pc' := 43) hE (nI (m + 1 + 1)) [(2, .int (nI (m + 1 + 1))), (1, .int (nI (fsum (cut b cnt) (ldr nw fi) (m + 1)))), (0, .ref me)] 0 rfl dX8_foldedTypeBytes_40 rfl (g_incN _ 1) (by decide) rfl ?_
      refine g_goto (tgt := 4) hE dX8_foldedTypeBytes_43 rfl ?_
      exact ih4 _ (by omega) (m + 1) rfl (by omega)
    · refine g_iload_n (pc' := 28) hE 1 rfl rfl dX8_foldedTypeBytes_27 rfl ?_
      refine g_iconst (pc' := 29) hE (nI 4) (by decide) dX8_foldedTypeBytes_28 rfl ?_
      refine g_aload_n (pc' := 30) hE 2 rfl rfl dX8_foldedTypeBytes_29 rfl ?_
      refine g_get (pc' := 33) hE gcX8 0 rfl 2 (by decide) rfl kX8_31 dX8_foldedTypeBytes_30 rfl ?_
      refine g_iload_n (pc' := 34) hE 0 rfl rfl dX8_foldedTypeBytes_33 rfl ?_
      refine g_callV (pc' := 37) (As := [.int (nI (m + 1))]) (rest := [.int (nI 4), .int (nI (fsum (cut b cnt) (ldr nw fi) m))]) hE (qX7_words l D T h0 a1 a2 a3 x0 N sg af inf wf (m + 1) hN2 hT.1 (by omega)) mX7_words kX8_197 iX7_words sX7_words (by decide) rfl (by decide) 1 rfl rfl [1, 2, 3, 4] rfl (by decide) rfl (Nat.le_of_ble_eq_true rfl) dX8_foldedTypeBytes_34 rfl (gBackR [1, 2, 3, 4] rfl ?_)
      rintro _ rfl
      refine g_st (st' := [.int (nI (hv N (m + 1) (wf (m + 1)))), .int (nI 4), .int (nI (fsum (cut b cnt) (ldr nw fi) m))]) rfl ?_
      refine g_eqi (show _ = nI (wds (inft (cut b cnt) (m + 1))) from by rw [hT.wds, hv_in _ (by omega) (by omega)]) ?_
      refine g_imul (pc' := 38) hE dX8_foldedTypeBytes_37 rfl ?_
      refine g_eqi (show _ = nI (4 * (wds (inft (cut b cnt) (m + 1)))) from pk_mul _ _) ?_
      refine g_iadd (pc' := 39) hE dX8_foldedTypeBytes_38 rfl ?_
      refine g_eqi (show _ = nI (fsum (cut b cnt) (ldr nw fi) m + (4 * (wds (inft (cut b cnt) (m + 1))))) from nI_add _ _) ?_
      refine g_eqi (show _ = nI (fsum (cut b cnt) (ldr nw fi) (m + 1)) from congrArg nI (by simp only [fsum]; rw [if_pos (by unfold ldr; simp [hc24])])) ?_
      refine g_istore_n (pc' := 40) hE [(1, .int (nI (fsum (cut b cnt) (ldr nw fi) (m + 1)))), (2, .int (nI (m + 1))), (0, .ref me)] dX8_foldedTypeBytes_39 rfl rfl (by decide) rfl ?_
      refine g_iinc (pc' := 43) hE (nI (m + 1 + 1)) [(2, .int (nI (m + 1 + 1))), (1, .int (nI (fsum (cut b cnt) (ldr nw fi) (m + 1)))), (0, .ref me)] 1 rfl dX8_foldedTypeBytes_40 rfl (g_incN _ 1) (by decide) rfl ?_
      refine g_goto (tgt := 4) hE dX8_foldedTypeBytes_43 rfl ?_
      exact ih4 _ (by omega) (m + 1) rfl (by omega)
