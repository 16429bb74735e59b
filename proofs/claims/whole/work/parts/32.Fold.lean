set_option maxHeartbeats 4000000 in
set_option maxRecDepth 100000 in
theorem qX0_sameLabel (l : Launch) (D : va_G) (T : Nat → ClassId) (h0 a1 a2 a3 x0 N sg : Nat) (af inf wf : Nat → Nat) (x1 cnt : Nat) (b : Nat → Nat) (n0 s0 s1 s2 s3 s4 : Nat) (sl te pl le fb0 : Nat → Nat) (ns nc fb : Nat) (u v : Nat) (hc : cnt ≤ 8192) (hb : ∀ i, b i < 256) (hT : TyArr (cut b cnt) N af inf wf) (hok : okUpTo (cut b cnt) sg cnt N) (hsg : sg ≤ cnt) (hNm : NamesOK (cut b cnt) N sg sl te pl le fb0 ns nc fb) (hu : u ≤ N) (hv9 : v ≤ N) : Con l D T yX0_sameLabel cX0_sameLabel 10 (some .boolean) 3 0 0 [.int (nI u), .int (nI v), .ref h0, .ref n0] [(h0, .inr (6, [.ref a1, .ref a2, .ref a3, .ref x0, .int (nI N), .int (nI sg)])), (a1, .inl (T 0, 201, .inl (fun z9 => nI (af z9)))), (a2, .inl (T 1, 201, .inr (.inl (fun z9 => lN (inf z9))))), (a3, .inl (T 0, 201, .inl (fun z9 => nI (wf z9)))), (x0, .inr (4, [.int (nI 8192), .ref x1, .int (nI cnt)])), (x1, .inl (T 1, ((8192 + 7) / 8), .inr (.inl (pack b)))), (n0, .inr (2, [.ref s0, .ref s1, .ref s2, .ref s3, .ref s4, .int (nI ns), .int (nI nc), .int (nI fb)])), (s0, .inl (T 0, 201, .inl (fun z9 => nI (sl z9)))), (s1, .inl (T 0, 800, .inl (fun z9 => nI (te z9)))), (s2, .inl (T 0, 801, .inl (fun z9 => nI (pl z9)))), (s3, .inl (T 0, 801, .inl (fun z9 => nI (le z9)))), (s4, .inl (T 0, 801, .inl (fun z9 => nI (fb0 z9))))] (fun r w1 => w1 = [(h0, .inr (6, [.ref a1, .ref a2, .ref a3, .ref x0, .int (nI N), .int (nI sg)])), (a1, .inl (T 0, 201, .inl (fun z9 => nI (af z9)))), (a2, .inl (T 1, 201, .inr (.inl (fun z9 => lN (inf z9))))), (a3, .inl (T 0, 201, .inl (fun z9 => nI (wf z9)))), (x0, .inr (4, [.int (nI 8192), .ref x1, .int (nI cnt)])), (x1, .inl (T 1, ((8192 + 7) / 8), .inr (.inl (pack b)))), (n0, .inr (2, [.ref s0, .ref s1, .ref s2, .ref s3, .ref s4, .int (nI ns), .int (nI nc), .int (nI fb)])), (s0, .inl (T 0, 201, .inl (fun z9 => nI (sl z9)))), (s1, .inl (T 0, 800, .inl (fun z9 => nI (te z9)))), (s2, .inl (T 0, 801, .inl (fun z9 => nI (pl z9)))), (s3, .inl (T 0, 801, .inl (fun z9 => nI (le z9)))), (s4, .inl (T 0, 801, .inl (fun z9 => nI (fb0 z9))))] ∧ ∃ z : Bool, r = some (.int (bI z)) ∧ (z = true ↔ u ≠ 0 ∧ v ≠ 0 ∧ lab (cut b cnt) sg u v)) := by
  refine Con.of (by decide) (Nat.le_of_ble_eq_true rfl) ?_
  intro E hE
  have hN2 := hok.1
  have hct := cut_lt (c := cnt) hb
  obtain ⟨hns, hNK, hsl, hsl8, hns8⟩ := id hNm
  refine g_lv (lv' := [(0, .int (nI u)), (1, .int (nI v)), (2, .ref h0), (3, .ref n0)]) [0, 1, 2, 3] rfl ?_
  refine g_iload_n (pc' := 1) hE 0 rfl rfl dX0_sameLabel_0 rfl ?_
  refine g_ifN_eq (pc' := 4) (tgt := 24) hE (by omega) dX0_sameLabel_1 rfl rfl (fun hc1 => ?_) (fun hc1 => ?_)
  · refine g_iconst (pc' := 25) hE (nI 0) (by decide) dX0_sameLabel_24 rfl ?_
    exact hE.zret (by first | rfl | exact bI_nar _ | decide) (⟨rfl, false, rfl, ⟨fun z => (by cases z), fun z => by first | exact absurd hc1 z.1 | exact absurd hc5 z.2.1 | exact absurd z.2.2.1 hc21⟩⟩) (Nat.zero_le _) (Nat.zero_le _) dX0_sameLabel_25
  · refine g_iload_n (pc' := 5) hE 1 rfl rfl dX0_sameLabel_4 rfl ?_
    refine g_ifN_eq (pc' := 8) (tgt := 24) hE (by omega) dX0_sameLabel_5 rfl rfl (fun hc5 => ?_) (fun hc5 => ?_)
    · refine g_iconst (pc' := 25) hE (nI 0) (by decide) dX0_sameLabel_24 rfl ?_
      exact hE.zret (by first | rfl | exact bI_nar _ | decide) (⟨rfl, false, rfl, ⟨fun z => (by cases z), fun z => by first | exact absurd hc1 z.1 | exact absurd hc5 z.2.1 | exact absurd z.2.2.1 hc21⟩⟩) (Nat.zero_le _) (Nat.zero_le _) dX0_sameLabel_25
    · have hi1 := inft_lt hct u
      have hi2 := inft_lt hct v
      have hkd := kd_lt (inft (cut b cnt) u)
      have hwd := wds_le (inft (cut b cnt) u)
      refine g_aload_n (pc' := 9) hE 2 rfl rfl dX0_sameLabel_8 rfl ?_
      refine g_iload_n (pc' := 10) hE 0 rfl rfl dX0_sameLabel_9 rfl ?_
      refine g_iconst (pc' := 11) hE (nI 1) (by decide) dX0_sameLabel_10 rfl ?_
      refine g_callV (pc' := 14) (As := [.int (nI u), .int (nI 1)]) (rest := []) hE (qX7_word l D T h0 a1 a2 a3 x0 N sg af inf wf x1 cnt b u 1 hN2 hT.1 (by omega) (by decide) hc hb) mX7_word kX0_79 iX7_word sX7_word (by decide) rfl (by decide) 0 rfl rfl [0, 1, 2, 3, 4, 5] rfl (by decide) rfl (Nat.le_of_ble_eq_true rfl) dX0_sameLabel_11 rfl (gBackR [0, 1, 2, 3, 4, 5] rfl ?_)
      rintro _ rfl
      refine g_st (st' := [.long (lN (hv N u (num (cut b cnt) (af u + 4 * 1) 4)))]) rfl ?_
      refine g_eql (show _ = lN (inft (cut b cnt) u) from by rw [hT.word, hv_in _ (by omega) (by omega)]; rfl) ?_
      refine g_aload_n (pc' := 15) hE 2 rfl rfl dX0_sameLabel_14 rfl ?_
      refine g_iload_n (pc' := 16) hE 1 rfl rfl dX0_sameLabel_15 rfl ?_
      refine g_iconst (pc' := 17) hE (nI 1) (by decide) dX0_sameLabel_16 rfl ?_
      refine g_callV (pc' := 20) (As := [.int (nI v), .int (nI 1)]) (rest := [.long (lN (inft (cut b cnt) u))]) hE (qX7_word l D T h0 a1 a2 a3 x0 N sg af inf wf x1 cnt b v 1 hN2 hT.1 (by omega) (by decide) hc hb) mX7_word kX0_79 iX7_word sX7_word (by decide) rfl (by decide) 0 rfl rfl [0, 1, 2, 3, 4, 5] rfl (by decide) rfl (Nat.le_of_ble_eq_true rfl) dX0_sameLabel_17 rfl (gBackR [0, 1, 2, 3, 4, 5] rfl ?_)
      rintro _ rfl
      refine g_st (st' := [.long (lN (hv N v (num (cut b cnt) (af v + 4 * 1) 4))), .long (lN (inft (cut b cnt) u))]) rfl ?_
      refine g_eql (show _ = lN (inft (cut b cnt) v) from by rw [hT.word, hv_in _ (by omega) (by omega)]; rfl) ?_
      refine g_lcmp (pc' := 21) hE dX0_sameLabel_20 rfl ?_
      refine g_ifcN_eq (pc' := 24) (tgt := 26) hE (by omega) (by omega) dX0_sameLabel_21 rfl rfl (fun hc21 => ?_) (fun hc21 => ?_)
      · refine g_aload_n (pc' := 27) hE 2 rfl rfl dX0_sameLabel_26 rfl ?_
        refine g_iload_n (pc' := 28) hE 0 rfl rfl dX0_sameLabel_27 rfl ?_
        refine g_callV (pc' := 31) (As := [.int (nI u)]) (rest := []) hE (qX7_kind l D T h0 a1 a2 a3 x0 N sg af inf wf u hN2 hT.1 (by omega)) mX7_kind kX0_83 iX7_kind sX7_kind (by decide) rfl (by decide) 0 rfl rfl [0, 1, 2, 3] rfl (by decide) rfl (Nat.le_of_ble_eq_true rfl) dX0_sameLabel_28 rfl (gBackR [0, 1, 2, 3] rfl ?_)
        rintro _ rfl
        refine g_st (st' := [.int (nI (hv N u (kd (inf u))))]) rfl ?_
        refine g_eqi (show _ = nI (kd (inft (cut b cnt) u)) from by rw [hT.kind]; exact congrArg nI (hv_in _ (by omega) (by omega))) ?_
        refine g_istore (pc' := 33) hE [(4, .int (nI (kd (inft (cut b cnt) u)))), (0, .int (nI u)), (1, .int (nI v)), (2, .ref h0), (3, .ref n0)] dX0_sameLabel_31 rfl (by decide) rfl ?_
        refine g_aload_n (pc' := 34) hE 3 rfl rfl dX0_sameLabel_33 rfl ?_
        refine g_iload_n (pc' := 35) hE 1 rfl rfl dX0_sameLabel_34 rfl ?_
        refine g_callV (pc' := 38) (As := [.int (nI u)]) (rest := []) hE (qX7_words l D T h0 a1 a2 a3 x0 N sg af inf wf u hN2 hT.1 (by omega)) mX7_words kX0_86 iX7_words sX7_words (by decide) rfl (by decide) 0 rfl rfl [0, 1, 2, 3] rfl (by decide) rfl (Nat.le_of_ble_eq_true rfl) dX0_sameLabel_35 rfl (gBackR [0, 1, 2, 3] rfl ?_)
        rintro _ rfl
        refine g_st (st' := [.int (nI (hv N u (wf u)))]) rfl ?_
        refine g_eqi (show _ = nI (wds (inft (cut b cnt) u)) from by rw [hT.wds, hv_in _ (by omega) (by omega)]) ?_
        refine g_istore (pc' := 40) hE [(5, .int (nI (wds (inft (cut b cnt) u)))), (4, .int (nI (kd (inft (cut b cnt) u)))), (0, .int (nI u)), (1, .int (nI v)), (2, .ref h0), (3, .ref n0)] dX0_sameLabel_38 rfl (by decide) rfl ?_
        refine g_aload_n (pc' := 41) hE 5 rfl rfl dX0_sameLabel_40 rfl ?_
        refine g_iload_n (pc' := 42) hE 2 rfl rfl dX0_sameLabel_41 rfl ?_
        refine g_callV (pc' := 45) (As := [.int (nI u)]) (rest := []) hE (qX3_slot l D T n0 s0 s1 s2 s3 s4 sl te pl le fb0 ns nc fb u (by omega)) mX3_slot kX0_89 iX3_slot sX3_slot (by decide) rfl (by decide) 6 rfl rfl [6, 7, 8, 9, 10, 11] rfl (by decide) rfl (Nat.le_of_ble_eq_true rfl) dX0_sameLabel_42 rfl (gBackR [6, 7, 8, 9, 10, 11] rfl ?_)
        rintro _ rfl
        refine g_st (st' := [.int (nI (hv 200 u (sl u)))]) rfl ?_
        refine g_eqi (show _ = nI ((nmP (cut b cnt) (u - 1) 0).length) from by rw [hv_in _ (by omega) (by omega), nmP_0, ← hsl (u - 1) (by omega), show u - 1 + 1 = u by omega]) ?_
        refine g_istore (pc' := 47) hE [(6, .int (nI ((nmP (cut b cnt) (u - 1) 0).length))), (5, .int (nI (wds (inft (cut b cnt) u)))), (4, .int (nI (kd (inft (cut b cnt) u)))), (0, .int (nI u)), (1, .int (nI v)), (2, .ref h0), (3, .ref n0)] dX0_sameLabel_45 rfl (by decide) rfl ?_
        refine g_aload_n (pc' := 48) hE 6 rfl rfl dX0_sameLabel_47 rfl ?_
        refine g_iload_n (pc' := 49) hE 4 rfl rfl dX0_sameLabel_48 rfl ?_
        refine g_callV (pc' := 52) (As := [.int (nI v)]) (rest := []) hE (qX3_slot l D T n0 s0 s1 s2 s3 s4 sl te pl le fb0 ns nc fb v (by omega)) mX3_slot kX0_89 iX3_slot sX3_slot (by decide) rfl (by decide) 6 rfl rfl [6, 7, 8, 9, 10, 11] rfl (by decide) rfl (Nat.le_of_ble_eq_true rfl) dX0_sameLabel_49 rfl (gBackR [6, 7, 8, 9, 10, 11] rfl ?_)
        rintro _ rfl
        refine g_st (st' := [.int (nI (hv 200 v (sl v)))]) rfl ?_
        refine g_eqi (show _ = nI ((nmP (cut b cnt) (v - 1) 0).length) from by rw [hv_in _ (by omega) (by omega), nmP_0, ← hsl (v - 1) (by omega), show v - 1 + 1 = v by omega]) ?_
        refine g_istore (pc' := 54) hE [(7, .int (nI ((nmP (cut b cnt) (v - 1) 0).length))), (6, .int (nI ((nmP (cut b cnt) (u - 1) 0).length))), (5, .int (nI (wds (inft (cut b cnt) u)))), (4, .int (nI (kd (inft (cut b cnt) u)))), (0, .int (nI u)), (1, .int (nI v)), (2, .ref h0), (3, .ref n0)] dX0_sameLabel_52 rfl (by decide) rfl ?_
        refine g_iconst (pc' := 55) hE (nI 0) (by decide) dX0_sameLabel_54 rfl ?_
        refine g_istore (pc' := 57) hE [(8, .int (nI 0)), (7, .int (nI ((nmP (cut b cnt) (v - 1) 0).length))), (6, .int (nI ((nmP (cut b cnt) (u - 1) 0).length))), (5, .int (nI (wds (inft (cut b cnt) u)))), (4, .int (nI (kd (inft (cut b cnt) u)))), (0, .int (nI u)), (1, .int (nI v)), (2, .ref h0), (3, .ref n0)] dX0_sameLabel_55 rfl (by decide) rfl ?_
        have hu1 : u - 1 + 1 = u := by omega
        have hv1 : v - 1 + 1 = v := by omega
        have hA : ∀ w, w ≤ wds (inft (cut b cnt) u) → (nmP (cut b cnt) (u - 1) w).length ≤ 800 := fun w hw => nmP_le8 hok (show u - 1 < N by omega) (by rw [hu1]; exact hw)
        have hB9 : ∀ w, w ≤ wds (inft (cut b cnt) u) → (nmP (cut b cnt) (v - 1) w).length ≤ 800 := fun w hw => nmP_le8 hok (show v - 1 < N by omega) (by rw [hv1, ← hc21]; exact hw)
        refine (show ∀ (d57 : Nat) (w : Nat), wds (inft (cut b cnt) u) - w = d57 → (w ≤ wds (inft (cut b cnt) u)) → (∀ x, x < w → labW (cut b cnt) sg u v x) → G l E D 10 0 0 [(h0, .inr (6, [.ref a1, .ref a2, .ref a3, .ref x0, .int (nI N), .int (nI sg)])), (a1, .inl (T 0, 201, .inl (fun z9 => nI (af z9)))), (a2, .inl (T 1, 201, .inr (.inl (fun z9 => lN (inf z9))))), (a3, .inl (T 0, 201, .inl (fun z9 => nI (wf z9)))), (x0, .inr (4, [.int (nI 8192), .ref x1, .int (nI cnt)])), (x1, .inl (T 1, ((8192 + 7) / 8), .inr (.inl (pack b)))), (n0, .inr (2, [.ref s0, .ref s1, .ref s2, .ref s3, .ref s4, .int (nI ns), .int (nI nc), .int (nI fb)])), (s0, .inl (T 0, 201, .inl (fun z9 => nI (sl z9)))), (s1, .inl (T 0, 800, .inl (fun z9 => nI (te z9)))), (s2, .inl (T 0, 801, .inl (fun z9 => nI (pl z9)))), (s3, .inl (T 0, 801, .inl (fun z9 => nI (le z9)))), (s4, .inl (T 0, 801, .inl (fun z9 => nI (fb0 z9))))] [(8, .int (nI w)), (7, .int (nI ((nmP (cut b cnt) (v - 1) w).length))), (6, .int (nI ((nmP (cut b cnt) (u - 1) w).length))), (5, .int (nI (wds (inft (cut b cnt) u)))), (4, .int (nI (kd (inft (cut b cnt) u)))), (0, .int (nI u)), (1, .int (nI v)), (2, .ref h0), (3, .ref n0)] 57 [] from ?_) _ 0 rfl (Nat.zero_le _) (fun x hx => absurd hx (by omega))
        intro d57
        induction d57 using Nat.strongRecOn with
        | _ d57 ih57 =>
        intro w hd57 hw hlab
        have hlA := hA w hw
        have hlB := hB9 w hw
        refine g_iload (pc' := 59) hE 0 rfl dX0_sameLabel_57 rfl ?_
        refine g_iload (pc' := 61) hE 3 rfl dX0_sameLabel_59 rfl ?_
        refine g_icmpN_ge (pc' := 64) (tgt := 136) hE (by omega) (by omega) dX0_sameLabel_61 rfl rfl (fun hc61 => ?_) (fun hc61 => ?_)
        · refine g_iconst (pc' := 137) hE (nI 1) (by decide) dX0_sameLabel_136 rfl ?_
          exact hE.zret (by first | rfl | exact bI_nar _ | decide) (⟨rfl, true, rfl, ⟨fun _ => ⟨hc1, hc5, hc21, fun x hx => hlab x (by omega)⟩, fun _ => rfl⟩⟩) (Nat.zero_le _) (Nat.zero_le _) dX0_sameLabel_137
        · refine g_iload (pc' := 66) hE 4 rfl dX0_sameLabel_64 rfl ?_
          refine g_iload (pc' := 68) hE 0 rfl dX0_sameLabel_66 rfl ?_
          refine g_callS (pc' := 71) (As := [.int (nI (kd (inft (cut b cnt) u))), .int (nI w)]) (rest := []) hE (qX1_role l D T (kd (inft (cut b cnt) u)) w (by omega) (by omega)) mX1_role kX0_94 iX1_role (by decide) rfl (by decide) [] rfl (by decide) rfl (Nat.le_of_ble_eq_true rfl) dX0_sameLabel_68 rfl (gBackR [] rfl ?_)
          rintro _ rfl
          refine g_st (st' := [.int (nI (rl (kd (inft (cut b cnt) u)) w))]) rfl ?_
          have hrl := rl_le (kd (inft (cut b cnt) u)) w
          refine g_istore (pc' := 73) hE [(9, .int (nI (rl (kd (inft (cut b cnt) u)) w))), (8, .int (nI w)), (7, .int (nI ((nmP (cut b cnt) (v - 1) w).length))), (6, .int (nI ((nmP (cut b cnt) (u - 1) w).length))), (5, .int (nI (wds (inft (cut b cnt) u)))), (4, .int (nI (kd (inft (cut b cnt) u)))), (0, .int (nI u)), (1, .int (nI v)), (2, .ref h0), (3, .ref n0)] dX0_sameLabel_71 rfl (by decide) rfl ?_
          refine g_iload (pc' := 75) hE 0 rfl dX0_sameLabel_73 rfl ?_
          refine g_iconst (pc' := 76) hE (nI 1) (by decide) dX0_sameLabel_75 rfl ?_
          refine g_icmpN_ne (pc' := 79) (tgt := 105) hE (by omega) (by omega) dX0_sameLabel_76 rfl rfl (fun hc76 => ?_) (fun hc76 => ?_)
          · have hn1 : nmP (cut b cnt) (u - 1) (w + 1) = nmP (cut b cnt) (u - 1) w := nmP_n (by rw [hu1]; exact hc76)
            have hn2 : nmP (cut b cnt) (v - 1) (w + 1) = nmP (cut b cnt) (v - 1) w := nmP_n (by rw [hv1, ← hc21]; exact hc76)
            refine g_lvw (lv' := [(9, .int (nI (rl (kd (inft (cut b cnt) u)) w))), (8, .int (nI w)), (7, .int (nI ((nmP (cut b cnt) (v - 1) w).length))), (6, .int (nI ((nmP (cut b cnt) (u - 1) (w + 1)).length))), (5, .int (nI (wds (inft (cut b cnt) u)))), (4, .int (nI (kd (inft (cut b cnt) u)))), (0, .int (nI u)), (1, .int (nI v)), (2, .ref h0), (3, .ref n0)]) (by rw [hn1]) ?_
            refine g_lvw (lv' := [(9, .int (nI (rl (kd (inft (cut b cnt) u)) w))), (8, .int (nI w)), (7, .int (nI ((nmP (cut b cnt) (v - 1) (w + 1)).length))), (6, .int (nI ((nmP (cut b cnt) (u - 1) (w + 1)).length))), (5, .int (nI (wds (inft (cut b cnt) u)))), (4, .int (nI (kd (inft (cut b cnt) u)))), (0, .int (nI u)), (1, .int (nI v)), (2, .ref h0), (3, .ref n0)]) (by rw [hn2]) ?_
            refine g_iload (pc' := 107) hE 0 rfl dX0_sameLabel_105 rfl ?_
            refine g_ifN_ne (pc' := 110) (tgt := 130) hE (by omega) dX0_sameLabel_107 rfl rfl (fun hc107 => ?_) (fun hc107 => ?_)
            · refine g_iinc (pc' := 133) hE (nI (w + 1)) [(8, .int (nI (w + 1))), (9, .int (nI (rl (kd (inft (cut b cnt) u)) w))), (7, .int (nI ((nmP (cut b cnt) (v - 1) (w + 1)).length))), (6, .int (nI ((nmP (cut b cnt) (u - 1) (w + 1)).length))), (5, .int (nI (wds (inft (cut b cnt) u)))), (4, .int (nI (kd (inft (cut b cnt) u)))), (0, .int (nI u)), (1, .int (nI v)), (2, .ref h0), (3, .ref n0)] 1 rfl dX0_sameLabel_130 rfl (g_incN _ 1) (by decide) rfl ?_
              refine g_goto (tgt := 57) hE dX0_sameLabel_133 rfl ?_
              refine g_lv [0, 2, 3, 4, 5, 6, 7, 8, 9] (lv' := [(8, .int (nI (w + 1))), (7, .int (nI ((nmP (cut b cnt) (v - 1) (w + 1)).length))), (6, .int (nI ((nmP (cut b cnt) (u - 1) (w + 1)).length))), (5, .int (nI (wds (inft (cut b cnt) u)))), (4, .int (nI (kd (inft (cut b cnt) u)))), (0, .int (nI u)), (1, .int (nI v)), (2, .ref h0), (3, .ref n0)]) rfl ?_
              exact ih57 _ (by omega) (w + 1) rfl (by omega) (lt_s hlab (by first | exact ⟨fun _ => hq.mp hc91, fun z => by omega⟩ | exact ⟨fun z => absurd z hc76, fun z => hc125⟩ | exact ⟨fun z => absurd z hc76, fun z => absurd z hc107⟩))
            · refine g_aload_n (pc' := 111) hE 8 rfl rfl dX0_sameLabel_110 rfl ?_
              refine g_iload_n (pc' := 112) hE 6 rfl rfl dX0_sameLabel_111 rfl ?_
              refine g_iload (pc' := 114) hE 1 rfl dX0_sameLabel_112 rfl ?_
              refine g_callV (pc' := 117) (As := [.int (nI u), .int (nI w)]) (rest := []) hE (qX7_word l D T h0 a1 a2 a3 x0 N sg af inf wf x1 cnt b u w hN2 hT.1 (by omega) (by omega) hc hb) mX7_word kX0_79 iX7_word sX7_word (by decide) rfl (by decide) 0 rfl rfl [0, 1, 2, 3, 4, 5] rfl (by decide) rfl (Nat.le_of_ble_eq_true rfl) dX0_sameLabel_114 rfl (gBackR [0, 1, 2, 3, 4, 5] rfl ?_)
              rintro _ rfl
              refine g_st (st' := [.long (lN (hv N u (num (cut b cnt) (af u + 4 * w) 4)))]) rfl ?_
              refine g_eql (show _ = lN (wdT (cut b cnt) u w) from by rw [hT.word, hv_in _ (by omega) (by omega)]) ?_
              refine g_aload_n (pc' := 118) hE 8 rfl rfl dX0_sameLabel_117 rfl ?_
              refine g_iload_n (pc' := 119) hE 7 rfl rfl dX0_sameLabel_118 rfl ?_
              refine g_iload (pc' := 121) hE 1 rfl dX0_sameLabel_119 rfl ?_
              refine g_callV (pc' := 124) (As := [.int (nI v), .int (nI w)]) (rest := [.long (lN (wdT (cut b cnt) u w))]) hE (qX7_word l D T h0 a1 a2 a3 x0 N sg af inf wf x1 cnt b v w hN2 hT.1 (by omega) (by omega) hc hb) mX7_word kX0_79 iX7_word sX7_word (by decide) rfl (by decide) 0 rfl rfl [0, 1, 2, 3, 4, 5] rfl (by decide) rfl (Nat.le_of_ble_eq_true rfl) dX0_sameLabel_121 rfl (gBackR [0, 1, 2, 3, 4, 5] rfl ?_)
              rintro _ rfl
              refine g_st (st' := [.long (lN (hv N v (num (cut b cnt) (af v + 4 * w) 4))), .long (lN (wdT (cut b cnt) u w))]) rfl ?_
              refine g_eql (show _ = lN (wdT (cut b cnt) v w) from by rw [hT.word, hv_in _ (by omega) (by omega)]) ?_
              have hw1 := num4_lt hct (off (cut b cnt) u + 4 * w)
              have hw2 := num4_lt hct (off (cut b cnt) v + 4 * w)
              refine g_lcmp (pc' := 125) hE dX0_sameLabel_124 rfl ?_
              refine g_ifcN_eq (pc' := 128) (tgt := 130) hE (Nat.lt_trans hw1 (by decide)) (Nat.lt_trans hw2 (by decide)) dX0_sameLabel_125 rfl rfl (fun hc125 => ?_) (fun hc125 => ?_)
              · refine g_iinc (pc' := 133) hE (nI (w + 1)) [(8, .int (nI (w + 1))), (9, .int (nI (rl (kd (inft (cut b cnt) u)) w))), (7, .int (nI ((nmP (cut b cnt) (v - 1) (w + 1)).length))), (6, .int (nI ((nmP (cut b cnt) (u - 1) (w + 1)).length))), (5, .int (nI (wds (inft (cut b cnt) u)))), (4, .int (nI (kd (inft (cut b cnt) u)))), (0, .int (nI u)), (1, .int (nI v)), (2, .ref h0), (3, .ref n0)] 1 rfl dX0_sameLabel_130 rfl (g_incN _ 1) (by decide) rfl ?_
                refine g_goto (tgt := 57) hE dX0_sameLabel_133 rfl ?_
                refine g_lv [0, 2, 3, 4, 5, 6, 7, 8, 9] (lv' := [(8, .int (nI (w + 1))), (7, .int (nI ((nmP (cut b cnt) (v - 1) (w + 1)).length))), (6, .int (nI ((nmP (cut b cnt) (u - 1) (w + 1)).length))), (5, .int (nI (wds (inft (cut b cnt) u)))), (4, .int (nI (kd (inft (cut b cnt) u)))), (0, .int (nI u)), (1, .int (nI v)), (2, .ref h0), (3, .ref n0)]) rfl ?_
                exact ih57 _ (by omega) (w + 1) rfl (by omega) (lt_s hlab (by first | exact ⟨fun _ => hq.mp hc91, fun z => by omega⟩ | exact ⟨fun z => absurd z hc76, fun z => hc125⟩ | exact ⟨fun z => absurd z hc76, fun z => absurd z hc107⟩))
              · refine g_iconst (pc' := 129) hE (nI 0) (by decide) dX0_sameLabel_128 rfl ?_
                exact hE.zret (by first | rfl | exact bI_nar _ | decide) (⟨rfl, false, rfl, ⟨fun z => (by cases z), fun z => absurd ((z.2.2.2 w hc61).2 hc107) hc125⟩⟩) (Nat.zero_le _) (Nat.zero_le _) dX0_sameLabel_129
          · refine g_aload_n (pc' := 80) hE 9 rfl rfl dX0_sameLabel_79 rfl ?_
            refine g_iload (pc' := 82) hE 3 rfl dX0_sameLabel_80 rfl ?_
            obtain ⟨hs1, hs2⟩ := nm_slot (show u - 1 < N by omega) (show w < wds (inft (cut b cnt) (u - 1 + 1)) by rw [hu1]; exact hc61) (by rw [hu1]; exact hc76)
            obtain ⟨hs3, hs4⟩ := nm_slot (show v - 1 < N by omega) (show w < wds (inft (cut b cnt) (v - 1 + 1)) by rw [hv1, ← hc21]; exact hc61) (by rw [hv1, ← hc21]; exact hc76)
            refine g_callV (pc' := 85) (As := [.int (nI ((nmP (cut b cnt) (u - 1) w).length))]) (rest := []) hE (qX3_told l D T n0 s0 s1 s2 s3 s4 sl te pl le fb0 ns nc fb ((nmP (cut b cnt) (u - 1) w).length) hns8 (by omega)) mX3_told kX0_99 iX3_told sX3_told (by decide) rfl (by decide) 6 rfl rfl [6, 7, 8, 9, 10, 11] rfl (by decide) rfl (Nat.le_of_ble_eq_true rfl) dX0_sameLabel_82 rfl (gBackR [6, 7, 8, 9, 10, 11] rfl ?_)
            rintro _ rfl
            refine g_st (st' := [.int (nI (if (nmP (cut b cnt) (u - 1) w).length < ns then te ((nmP (cut b cnt) (u - 1) w).length) else 0))]) rfl ?_
            refine g_eqi (show _ = nI (te (nmP (cut b cnt) (u - 1) w).length) from by rw [if_pos (by omega)]) ?_
            refine g_aload_n (pc' := 86) hE 9 rfl rfl dX0_sameLabel_85 rfl ?_
            refine g_iload (pc' := 88) hE 2 rfl dX0_sameLabel_86 rfl ?_
            refine g_callV (pc' := 91) (As := [.int (nI ((nmP (cut b cnt) (v - 1) w).length))]) (rest := [.int (nI (te (nmP (cut b cnt) (u - 1) w).length))]) hE (qX3_told l D T n0 s0 s1 s2 s3 s4 sl te pl le fb0 ns nc fb ((nmP (cut b cnt) (v - 1) w).length) hns8 (by omega)) mX3_told kX0_99 iX3_told sX3_told (by decide) rfl (by decide) 6 rfl rfl [6, 7, 8, 9, 10, 11] rfl (by decide) rfl (Nat.le_of_ble_eq_true rfl) dX0_sameLabel_88 rfl (gBackR [6, 7, 8, 9, 10, 11] rfl ?_)
            rintro _ rfl
            refine g_st (st' := [.int (nI (if (nmP (cut b cnt) (v - 1) w).length < ns then te ((nmP (cut b cnt) (v - 1) w).length) else 0)), .int (nI (te (nmP (cut b cnt) (u - 1) w).length))]) rfl ?_
            refine g_eqi (show _ = nI (te (nmP (cut b cnt) (v - 1) w).length) from by rw [if_pos (by omega)]) ?_
            have hte1 := hNK.2.2.2.2 (nmP (cut b cnt) (u - 1) w).length
            have hte2 := hNK.2.2.2.2 (nmP (cut b cnt) (v - 1) w).length
            have hq := hNK.eq hs1 hs3
            rw [hs2, hs4, hu1, hv1] at hq
            refine g_icmpN_eq (pc' := 94) (tgt := 96) hE (by omega) (by omega) dX0_sameLabel_91 rfl rfl (fun hc91 => ?_) (fun hc91 => ?_)
            · refine g_iinc (pc' := 99) hE (nI ((nmP (cut b cnt) (u - 1) (w + 1)).length)) [(6, .int (nI ((nmP (cut b cnt) (u - 1) (w + 1)).length))), (9, .int (nI (rl (kd (inft (cut b cnt) u)) w))), (8, .int (nI w)), (7, .int (nI ((nmP (cut b cnt) (v - 1) w).length))), (5, .int (nI (wds (inft (cut b cnt) u)))), (4, .int (nI (kd (inft (cut b cnt) u)))), (0, .int (nI u)), (1, .int (nI v)), (2, .ref h0), (3, .ref n0)] 3 rfl dX0_sameLabel_96 rfl (by rw [show (nmP (cut b cnt) (u - 1) (w + 1)).length = (nmP (cut b cnt) (u - 1) w).length + 1 by rw [nmP_s (by rw [hu1]; exact hc76)]; simp]; exact g_incN _ 1) (by decide) rfl ?_
              refine g_iinc (pc' := 102) hE (nI ((nmP (cut b cnt) (v - 1) (w + 1)).length)) [(7, .int (nI ((nmP (cut b cnt) (v - 1) (w + 1)).length))), (6, .int (nI ((nmP (cut b cnt) (u - 1) (w + 1)).length))), (9, .int (nI (rl (kd (inft (cut b cnt) u)) w))), (8, .int (nI w)), (5, .int (nI (wds (inft (cut b cnt) u)))), (4, .int (nI (kd (inft (cut b cnt) u)))), (0, .int (nI u)), (1, .int (nI v)), (2, .ref h0), (3, .ref n0)] 3 rfl dX0_sameLabel_99 rfl (by rw [show (nmP (cut b cnt) (v - 1) (w + 1)).length = (nmP (cut b cnt) (v - 1) w).length + 1 by rw [nmP_s (by rw [hv1, ← hc21]; exact hc76)]; simp]; exact g_incN _ 1) (by decide) rfl ?_
              refine g_goto (tgt := 130) hE dX0_sameLabel_102 rfl ?_
              refine g_iinc (pc' := 133) hE (nI (w + 1)) [(8, .int (nI (w + 1))), (7, .int (nI ((nmP (cut b cnt) (v - 1) (w + 1)).length))), (6, .int (nI ((nmP (cut b cnt) (u - 1) (w + 1)).length))), (9, .int (nI (rl (kd (inft (cut b cnt) u)) w))), (5, .int (nI (wds (inft (cut b cnt) u)))), (4, .int (nI (kd (inft (cut b cnt) u)))), (0, .int (nI u)), (1, .int (nI v)), (2, .ref h0), (3, .ref n0)] 3 rfl dX0_sameLabel_130 rfl (g_incN _ 1) (by decide) rfl ?_
              refine g_goto (tgt := 57) hE dX0_sameLabel_133 rfl ?_
              refine g_lv [0, 1, 2, 4, 5, 6, 7, 8, 9] (lv' := [(8, .int (nI (w + 1))), (7, .int (nI ((nmP (cut b cnt) (v - 1) (w + 1)).length))), (6, .int (nI ((nmP (cut b cnt) (u - 1) (w + 1)).length))), (5, .int (nI (wds (inft (cut b cnt) u)))), (4, .int (nI (kd (inft (cut b cnt) u)))), (0, .int (nI u)), (1, .int (nI v)), (2, .ref h0), (3, .ref n0)]) rfl ?_
              exact ih57 _ (by omega) (w + 1) rfl (by omega) (lt_s hlab (by first | exact ⟨fun _ => hq.mp hc91, fun z => by omega⟩ | exact ⟨fun z => absurd z hc76, fun z => hc125⟩ | exact ⟨fun z => absurd z hc76, fun z => absurd z hc107⟩))
            · refine g_iconst (pc' := 95) hE (nI 0) (by decide) dX0_sameLabel_94 rfl ?_
              exact hE.zret (by first | rfl | exact bI_nar _ | decide) (⟨rfl, false, rfl, ⟨fun z => (by cases z), fun z => absurd (hq.mpr ((z.2.2.2 w hc61).1 hc76)) hc91⟩⟩) (Nat.zero_le _) (Nat.zero_le _) dX0_sameLabel_95
      · refine g_iconst (pc' := 25) hE (nI 0) (by decide) dX0_sameLabel_24 rfl ?_
        exact hE.zret (by first | rfl | exact bI_nar _ | decide) (⟨rfl, false, rfl, ⟨fun z => (by cases z), fun z => by first | exact absurd hc1 z.1 | exact absurd hc5 z.2.1 | exact absurd z.2.2.1 hc21⟩⟩) (Nat.zero_le _) (Nat.zero_le _) dX0_sameLabel_25

set_option maxHeartbeats 4000000 in
set_option maxRecDepth 100000 in
theorem qX0_sameTargets (l : Launch) (D : va_G) (T : Nat → ClassId) (f0 y0 y1 y2 y3 y4 y5 y6 : Nat) (nw wa fi : Nat → Nat) (sb : Nat → Option Nat) (pa bi fr : Nat → Nat) (cn lb : Nat) (l0 k0 k1 k2 k3 k4 k5 k6 : Nat) (st to bs bk qu on ba : Nat → Nat) (t : Nat → Nat) (N u v : Nat) (hN : N ≤ 200) (hLk : LinksOK t N st to bs bk) (hh : hiAll t N ≤ N) (hu1 : 1 ≤ u) (hu : u ≤ N) (hv1 : 1 ≤ v) (hv9 : v ≤ N) (hnr : nrT t u = nrT t v) (hwa : ∀ j, wa j ≤ 200) : Con l D T yX0_sameTargets cX0_sameTargets 6 (some .boolean) 2 0 0 [.ref f0, .int (nI u), .int (nI v), .ref l0] [(f0, .inr (0, [.ref y0, .ref y1, .ref y2, .ref y3, .ref y4, .ref y5, .ref y6, .int (nI cn), .int (nI lb)])), (y0, .inl (T 0, 201, .inl (fun z9 => nI (nw z9)))), (y1, .inl (T 0, 201, .inl (fun z9 => nI (wa z9)))), (y2, .inl (T 0, 201, .inl (fun z9 => nI (fi z9)))), (y3, .inl (T 0, 201, .inl (fun z9 => oI (sb z9)))), (y4, .inl (T 0, 201, .inl (fun z9 => nI (pa z9)))), (y5, .inl (T 0, 201, .inl (fun z9 => nI (bi z9)))), (y6, .inl (T 0, 201, .inl (fun z9 => nI (fr z9)))), (l0, .inr (1, [.ref k0, .ref k1, .ref k2, .ref k3, .ref k4, .ref k5, .ref k6])), (k0, .inl (T 0, 202, .inl (fun z9 => nI (st z9)))), (k1, .inl (T 0, 1000, .inl (fun z9 => nI (to z9)))), (k2, .inl (T 0, 202, .inl (fun z9 => nI (bs z9)))), (k3, .inl (T 0, 1000, .inl (fun z9 => nI (bk z9)))), (k4, .inl (T 0, 201, .inl (fun z9 => nI (qu z9)))), (k5, .inl (T 2, 201, .inl (fun z9 => nI (on z9)))), (k6, .inl (T 2, 201, .inl (fun z9 => nI (ba z9))))] (fun r w1 => w1 = [(f0, .inr (0, [.ref y0, .ref y1, .ref y2, .ref y3, .ref y4, .ref y5, .ref y6, .int (nI cn), .int (nI lb)])), (y0, .inl (T 0, 201, .inl (fun z9 => nI (nw z9)))), (y1, .inl (T 0, 201, .inl (fun z9 => nI (wa z9)))), (y2, .inl (T 0, 201, .inl (fun z9 => nI (fi z9)))), (y3, .inl (T 0, 201, .inl (fun z9 => oI (sb z9)))), (y4, .inl (T 0, 201, .inl (fun z9 => nI (pa z9)))), (y5, .inl (T 0, 201, .inl (fun z9 => nI (bi z9)))), (y6, .inl (T 0, 201, .inl (fun z9 => nI (fr z9)))), (l0, .inr (1, [.ref k0, .ref k1, .ref k2, .ref k3, .ref k4, .ref k5, .ref k6])), (k0, .inl (T 0, 202, .inl (fun z9 => nI (st z9)))), (k1, .inl (T 0, 1000, .inl (fun z9 => nI (to z9)))), (k2, .inl (T 0, 202, .inl (fun z9 => nI (bs z9)))), (k3, .inl (T 0, 1000, .inl (fun z9 => nI (bk z9)))), (k4, .inl (T 0, 201, .inl (fun z9 => nI (qu z9)))), (k5, .inl (T 2, 201, .inl (fun z9 => nI (on z9)))), (k6, .inl (T 2, 201, .inl (fun z9 => nI (ba z9))))] ∧ ∃ z : Bool, r = some (.int (bI z)) ∧ (z = true ↔ ∀ k, k < nrT t u → wa (rfT t u k) = wa (rfT t v k))) := by
  refine Con.of (by decide) (Nat.le_of_ble_eq_true rfl) ?_
  intro E hE
  obtain ⟨e1, e2, e3⟩ := hLk.at hu1 hu
  obtain ⟨g1, g2, g3⟩ := hLk.at hv1 hv9
  have hs1 := hLk.1.2.2 (u + 1)
  have hs2 := hLk.1.2.2 (v + 1)
  have hl9 : nrT t u ≤ 1000 := by omega
  refine g_lv (lv' := [(0, .ref f0), (1, .int (nI u)), (2, .int (nI v)), (3, .ref l0)]) [0, 1, 2, 3] rfl ?_
  refine g_aload_n (pc' := 1) hE 3 rfl rfl dX0_sameTargets_0 rfl ?_
  refine g_iload_n (pc' := 2) hE 1 rfl rfl dX0_sameTargets_1 rfl ?_
  refine g_callV (pc' := 5) (As := [.int (nI u)]) (rest := []) hE (qX2_tally l D T l0 k0 k1 k2 k3 k4 k5 k6 st to bs bk qu on ba u (by omega) e2) mX2_tally kX0_102 iX2_tally sX2_tally (by decide) rfl (by decide) 8 rfl rfl [8, 9, 10, 11, 12, 13, 14, 15] rfl (by decide) rfl (Nat.le_of_ble_eq_true rfl) dX0_sameTargets_2 rfl (gBackR [8, 9, 10, 11, 12, 13, 14, 15] rfl ?_)
  rintro _ rfl
  refine g_st (st' := [.int (nI (st (u + 1) - st u))]) rfl ?_
  refine g_eqi (show _ = nI (nrT t u) from by rw [e1]) ?_
  refine g_istore (pc' := 7) hE [(4, .int (nI (nrT t u))), (0, .ref f0), (1, .int (nI u)), (2, .int (nI v)), (3, .ref l0)] dX0_sameTargets_5 rfl (by decide) rfl ?_
  refine g_iconst (pc' := 8) hE (nI 0) (by decide) dX0_sameTargets_7 rfl ?_
  refine g_istore (pc' := 10) hE [(5, .int (nI 0)), (4, .int (nI (nrT t u))), (0, .ref f0), (1, .int (nI u)), (2, .int (nI v)), (3, .ref l0)] dX0_sameTargets_8 rfl (by decide) rfl ?_
  refine (show ∀ (d10 : Nat) (k : Nat), nrT t u - k = d10 → (k ≤ nrT t u) → (∀ x, x < k → wa (rfT t u x) = wa (rfT t v x)) → G l E D 6 0 0 [(f0, .inr (0, [.ref y0, .ref y1, .ref y2, .ref y3, .ref y4, .ref y5, .ref y6, .int (nI cn), .int (nI lb)])), (y0, .inl (T 0, 201, .inl (fun z9 => nI (nw z9)))), (y1, .inl (T 0, 201, .inl (fun z9 => nI (wa z9)))), (y2, .inl (T 0, 201, .inl (fun z9 => nI (fi z9)))), (y3, .inl (T 0, 201, .inl (fun z9 => oI (sb z9)))), (y4, .inl (T 0, 201, .inl (fun z9 => nI (pa z9)))), (y5, .inl (T 0, 201, .inl (fun z9 => nI (bi z9)))), (y6, .inl (T 0, 201, .inl (fun z9 => nI (fr z9)))), (l0, .inr (1, [.ref k0, .ref k1, .ref k2, .ref k3, .ref k4, .ref k5, .ref k6])), (k0, .inl (T 0, 202, .inl (fun z9 => nI (st z9)))), (k1, .inl (T 0, 1000, .inl (fun z9 => nI (to z9)))), (k2, .inl (T 0, 202, .inl (fun z9 => nI (bs z9)))), (k3, .inl (T 0, 1000, .inl (fun z9 => nI (bk z9)))), (k4, .inl (T 0, 201, .inl (fun z9 => nI (qu z9)))), (k5, .inl (T 2, 201, .inl (fun z9 => nI (on z9)))), (k6, .inl (T 2, 201, .inl (fun z9 => nI (ba z9))))] [(5, .int (nI k)), (4, .int (nI (nrT t u))), (0, .ref f0), (1, .int (nI u)), (2, .int (nI v)), (3, .ref l0)] 10 [] from ?_) _ 0 rfl (Nat.zero_le _) (fun x hx => absurd hx (by omega))
  intro d10
  induction d10 using Nat.strongRecOn with
  | _ d10 ih10 =>
  intro k hd10 hk hall
  refine g_iload (pc' := 12) hE 0 rfl dX0_sameTargets_10 rfl ?_
  refine g_iload (pc' := 14) hE 1 rfl dX0_sameTargets_12 rfl ?_
  refine g_icmpN_ge (pc' := 17) (tgt := 52) hE (by omega) (by omega) dX0_sameTargets_14 rfl rfl (fun hc14 => ?_) (fun hc14 => ?_)
  · refine g_iconst (pc' := 53) hE (nI 1) (by decide) dX0_sameTargets_52 rfl ?_
    exact hE.zret (by first | rfl | exact bI_nar _ | decide) (⟨rfl, true, rfl, ⟨fun _ x hx => hall x (by omega), fun _ => rfl⟩⟩) (Nat.zero_le _) (Nat.zero_le _) dX0_sameTargets_53
  · refine g_aload_n (pc' := 18) hE 2 rfl rfl dX0_sameTargets_17 rfl ?_
    refine g_get (pc' := 21) hE gcX0 0 rfl 1 (by decide) rfl kX0_15 dX0_sameTargets_18 rfl ?_
    refine g_aload_n (pc' := 22) hE 5 rfl rfl dX0_sameTargets_21 rfl ?_
    refine g_iload_n (pc' := 23) hE 3 rfl rfl dX0_sameTargets_22 rfl ?_
    refine g_iload (pc' := 25) hE 0 rfl dX0_sameTargets_23 rfl ?_
    refine g_callV (pc' := 28) (As := [.int (nI u), .int (nI k)]) (rest := [.ref y1]) hE (qX2_target l D T l0 k0 k1 k2 k3 k4 k5 k6 st to bs bk qu on ba u k (by omega) e2 hs1 (by omega)) mX2_target kX0_107 iX2_target sX2_target (by decide) rfl (by decide) 8 rfl rfl [8, 9, 10, 11, 12, 13, 14, 15] rfl (by decide) rfl (Nat.le_of_ble_eq_true rfl) dX0_sameTargets_25 rfl (gBackR [8, 9, 10, 11, 12, 13, 14, 15] rfl ?_)
    rintro _ rfl
    refine g_st (st' := [.int (nI (to (st u + k))), .ref y1]) rfl ?_
    refine g_eqi (show _ = nI (rfT t u k) from by rw [e3 k hc14]) ?_
    have hr1 := rfT_le hh hu1 hu hc14
    refine g_iald (pc' := 29) hE 2 rfl (by omega) (by omega) dX0_sameTargets_28 rfl ?_
    refine g_aload_n (pc' := 30) hE 2 rfl rfl dX0_sameTargets_29 rfl ?_
    refine g_get (pc' := 33) hE gcX0 0 rfl 1 (by decide) rfl kX0_15 dX0_sameTargets_30 rfl ?_
    refine g_aload_n (pc' := 34) hE 5 rfl rfl dX0_sameTargets_33 rfl ?_
    refine g_iload_n (pc' := 35) hE 4 rfl rfl dX0_sameTargets_34 rfl ?_
    refine g_iload (pc' := 37) hE 0 rfl dX0_sameTargets_35 rfl ?_
    refine g_callV (pc' := 40) (As := [.int (nI v), .int (nI k)]) (rest := [.ref y1, .int (nI (wa (rfT t u k)))]) hE (qX2_target l D T l0 k0 k1 k2 k3 k4 k5 k6 st to bs bk qu on ba v k (by omega) g2 hs2 (by omega)) mX2_target kX0_107 iX2_target sX2_target (by decide) rfl (by decide) 8 rfl rfl [8, 9, 10, 11, 12, 13, 14, 15] rfl (by decide) rfl (Nat.le_of_ble_eq_true rfl) dX0_sameTargets_37 rfl (gBackR [8, 9, 10, 11, 12, 13, 14, 15] rfl ?_)
    rintro _ rfl
    refine g_st (st' := [.int (nI (to (st v + k))), .ref y1, .int (nI (wa (rfT t u k)))]) rfl ?_
    refine g_eqi (show _ = nI (rfT t v k) from by rw [g3 k (by omega)]) ?_
    have hr2 := rfT_le hh hv1 hv9 (show k < nrT t v by omega)
    refine g_iald (pc' := 41) hE 2 rfl (by omega) (by omega) dX0_sameTargets_40 rfl ?_
    have hw1 := hwa (rfT t u k)
    have hw2 := hwa (rfT t v k)
    refine g_icmpN_eq (pc' := 44) (tgt := 46) hE (by omega) (by omega) dX0_sameTargets_41 rfl rfl (fun hc41 => ?_) (fun hc41 => ?_)
    · refine g_iinc (pc' := 49) hE (nI (k + 1)) [(5, .int (nI (k + 1))), (4, .int (nI (nrT t u))), (0, .ref f0), (1, .int (nI u)), (2, .int (nI v)), (3, .ref l0)] 0 rfl dX0_sameTargets_46 rfl (g_incN _ 1) (by decide) rfl ?_
      refine g_goto (tgt := 10) hE dX0_sameTargets_49 rfl ?_
      exact ih10 _ (by omega) (k + 1) rfl (by omega) (lt_s hall hc41)
    · refine g_iconst (pc' := 45) hE (nI 0) (by decide) dX0_sameTargets_44 rfl ?_
      exact hE.zret (by first | rfl | exact bI_nar _ | decide) (⟨rfl, false, rfl, ⟨fun z => (by cases z), fun z => absurd (z k hc14) hc41⟩⟩) (Nat.zero_le _) (Nat.zero_le _) dX0_sameTargets_45
