set_option maxHeartbeats 4000000 in
set_option maxRecDepth 100000 in
theorem qX4_typeError (l : Launch) (D : va_G) (T : Nat → ClassId) (r0 er sd its : Nat) (t0 t1 cnt : Nat) (b : Nat → Nat) (a sg : Nat) (hc : cnt ≤ 8192) (hb : ∀ i, b i < 256) (ha : a < 2 ^ 20) (hs : sg < 2 ^ 20) (hi : its ≤ 600 ∧ sd ≤ 201) : Con l D T yX4_typeError cX4_typeError 7 (some .int) 4 0 0 [.ref r0, .ref t0, .int (nI a), .int (nI sg)] [(r0, .inr (3, [.int (nI er), .int (nI sd), .int (nI its)])), (t0, .inr (4, [.int (nI 8192), .ref t1, .int (nI cnt)])), (t1, .inl (T 1, ((8192 + 7) / 8), .inr (.inl (pack b))))] (fun v w1 => v = some (.int (nI (teE (cut b cnt) a sg cnt sd its))) ∧ w1 = [(r0, .inr (3, [.int (nI er), .int (nI sd), .int (nI (teI (cut b cnt) a sg its))])), (t0, .inr (4, [.int (nI 8192), .ref t1, .int (nI cnt)])), (t1, .inl (T 1, ((8192 + 7) / 8), .inr (.inl (pack b))))]) := by
  refine Con.of (by decide) (Nat.le_of_ble_eq_true rfl) ?_
  intro E hE
  have hct := cut_lt (c := cnt) hb
  have hi4 := num4_lt hct (a + 4)
  have hkd := kd_lt (num (cut b cnt) (a + 4) 4)
  have hwd := wds_le (num (cut b cnt) (a + 4) 4)
  have hic := ic_lt (num (cut b cnt) (a + 4) 4)
  have hi8 := num4_lt hct (a + 8)
  have hi12 := num4_lt hct (a + 12)
  have htl := tl_lt (num (cut b cnt) (a + 4) 4)
  have hit := itw_le (kd (num (cut b cnt) (a + 4) 4))
  obtain ⟨hi, hsd⟩ := hi
  refine g_lv (lv' := [(0, .ref r0), (1, .ref t0), (2, .int (nI a)), (3, .int (nI sg))]) [0, 1, 2, 3] rfl ?_
  refine g_aload_n (pc' := 1) hE 1 rfl rfl dX4_typeError_0 rfl ?_
  refine g_iload_n (pc' := 2) hE 2 rfl rfl dX4_typeError_1 rfl ?_
  refine g_iconst (pc' := 3) hE (nI 4) (by decide) dX4_typeError_2 rfl ?_
  refine g_iadd (pc' := 4) hE dX4_typeError_3 rfl ?_
  refine g_eqi (show _ = nI (a + 4) from nI_add _ _) ?_
  refine g_iconst (pc' := 5) hE (nI 4) (by decide) dX4_typeError_4 rfl ?_
  refine g_callV (pc' := 8) (As := [.int (nI (a + 4)), .int (nI 4)]) (rest := []) hE (qX5_number l D T t0 t1 8192 cnt b (a + 4) 4 (by decide) hc hb (by omega) (by decide)) mX5_number kX4_31 iX5_number sX5_number (by decide) rfl (by decide) 1 rfl rfl [1, 2] rfl (by decide) rfl (Nat.le_of_ble_eq_true rfl) dX4_typeError_5 rfl (gBackR [1, 2] rfl ?_)
  rintro _ rfl
  refine g_st (st' := [.long (lN (num (cut b cnt) (a + 4) 4))]) rfl ?_
  refine g_lstore (pc' := 10) hE [(4, .long (lN (num (cut b cnt) (a + 4) 4))), (0, .ref r0), (1, .ref t0), (2, .int (nI a)), (3, .int (nI sg))] dX4_typeError_8 rfl (by decide) rfl ?_
  refine g_lload (pc' := 12) hE 0 rfl dX4_typeError_10 rfl ?_
  refine g_callS (pc' := 15) (As := [.long (lN (num (cut b cnt) (a + 4) 4))]) (rest := []) hE (qX1_kind l D T (num (cut b cnt) (a + 4) 4) hi4) mX1_kind kX4_66 iX1_kind (by decide) rfl (by decide) [] rfl (by decide) rfl (Nat.le_of_ble_eq_true rfl) dX4_typeError_12 rfl (gBackR [] rfl ?_)
  rintro _ rfl
  refine g_st (st' := [.int (nI (kd (num (cut b cnt) (a + 4) 4)))]) rfl ?_
  refine g_istore (pc' := 17) hE [(6, .int (nI (kd (num (cut b cnt) (a + 4) 4)))), (4, .long (lN (num (cut b cnt) (a + 4) 4))), (0, .ref r0), (1, .ref t0), (2, .int (nI a)), (3, .int (nI sg))] dX4_typeError_15 rfl (by decide) rfl ?_
  refine g_iload_n (pc' := 18) hE 4 rfl rfl dX4_typeError_17 rfl ?_
  refine g_iconst (pc' := 19) hE (nI 4) (by decide) dX4_typeError_18 rfl ?_
  refine g_lload (pc' := 21) hE 1 rfl dX4_typeError_19 rfl ?_
  refine g_callS (pc' := 24) (As := [.long (lN (num (cut b cnt) (a + 4) 4))]) (rest := [.int (nI 4), .int (nI a)]) hE (qX1_words l D T (num (cut b cnt) (a + 4) 4) hi4) mX1_words kX4_60 iX1_words (by decide) rfl (by decide) [] rfl (by decide) rfl (Nat.le_of_ble_eq_true rfl) dX4_typeError_21 rfl (gBackR [] rfl ?_)
  rintro _ rfl
  refine g_st (st' := [.int (nI (wds (num (cut b cnt) (a + 4) 4))), .int (nI 4), .int (nI a)]) rfl ?_
  refine g_imul (pc' := 25) hE dX4_typeError_24 rfl ?_
  refine g_eqi (show _ = nI (4 * (wds (num (cut b cnt) (a + 4) 4))) from pk_mul _ _) ?_
  refine g_iadd (pc' := 26) hE dX4_typeError_25 rfl ?_
  refine g_eqi (show _ = nI (a + (4 * (wds (num (cut b cnt) (a + 4) 4)))) from nI_add _ _) ?_
  refine g_iload_n (pc' := 27) hE 5 rfl rfl dX4_typeError_26 rfl ?_
  refine g_icmpN_le (pc' := 30) (tgt := 32) hE (by omega) (by omega) dX4_typeError_27 rfl rfl (fun hc27 => ?_) (fun hc27 => ?_)
  · refine g_aload_n (pc' := 33) hE 2 rfl rfl dX4_typeError_32 rfl ?_
    refine g_dup (pc' := 34) hE rfl dX4_typeError_33 rfl ?_
    refine g_get (pc' := 37) hE gcX4 0 rfl 2 (by decide) rfl kX4_43 dX4_typeError_34 rfl ?_
    refine g_iload (pc' := 39) hE 0 rfl dX4_typeError_37 rfl ?_
    refine g_callS (pc' := 42) (As := [.int (nI (kd (num (cut b cnt) (a + 4) 4)))]) (rest := [.int (nI its), .ref r0]) hE (qX1_itemWords l D T (kd (num (cut b cnt) (a + 4) 4)) (by omega)) mX1_itemWords kX4_69 iX1_itemWords (by decide) rfl (by decide) [] rfl (by decide) rfl (Nat.le_of_ble_eq_true rfl) dX4_typeError_39 rfl (gBackR [] rfl ?_)
    rintro _ rfl
    refine g_st (st' := [.int (nI (itw (kd (num (cut b cnt) (a + 4) 4)))), .int (nI its), .ref r0]) rfl ?_
    refine g_ifN_ne (pc' := 45) (tgt := 49) hE (by omega) dX4_typeError_42 rfl rfl (fun hc42 => ?_) (fun hc42 => ?_)
    · refine g_lload (pc' := 51) hE 1 rfl dX4_typeError_49 rfl ?_
      refine g_callS (pc' := 54) (As := [.long (lN (num (cut b cnt) (a + 4) 4))]) (rest := [.int (nI its), .ref r0]) hE (qX1_tally l D T (num (cut b cnt) (a + 4) 4)) mX1_tally kX4_72 iX1_tally (by decide) rfl (by decide) [] rfl (by decide) rfl (Nat.le_of_ble_eq_true rfl) dX4_typeError_51 rfl (gBackR [] rfl ?_)
      rintro _ rfl
      refine g_st (st' := [.int (nI (tl (num (cut b cnt) (a + 4) 4))), .int (nI its), .ref r0]) rfl ?_
      refine g_iadd (pc' := 55) hE dX4_typeError_54 rfl ?_
      refine g_eqi (show _ = nI (its + (tl (num (cut b cnt) (a + 4) 4))) from nI_add _ _) ?_
      refine g_eqi (show _ = nI (its + ic (num (cut b cnt) (a + 4) 4)) from congrArg nI (by unfold ic; split <;> omega)) ?_
      refine g_put (pc' := 58) hE gcX4 0 rfl 2 [(r0, .inr (3, [.int (nI er), .int (nI sd), .int (nI (its + ic (num (cut b cnt) (a + 4) 4)))])), (t0, .inr (4, [.int (nI 8192), .ref t1, .int (nI cnt)])), (t1, .inl (T 1, ((8192 + 7) / 8), .inr (.inl (pack b))))] (by decide) (Nat.le_of_ble_eq_true rfl) rfl rfl rfl rfl kX4_43 dX4_typeError_55 rfl ?_
      refine g_aload_n (pc' := 59) hE 2 rfl rfl dX4_typeError_58 rfl ?_
      refine g_get (pc' := 62) hE gcX4 0 rfl 1 (by decide) rfl kX4_15 dX4_typeError_59 rfl ?_
      refine g_sipush (pc' := 65) hE (nI 200) (by decide) dX4_typeError_62 rfl ?_
      refine g_icmpN_gt (pc' := 68) (tgt := 112) hE (by omega) (by omega) dX4_typeError_65 rfl rfl (fun hc65 => ?_) (fun hc65 => ?_)
      · refine g_iconst (pc' := 113) hE (nI 4) (by decide) dX4_typeError_112 rfl ?_
        exact hE.iret (⟨by unfold teE; rw [if_neg (by omega), if_pos (by first | exact Or.inl (by omega) | exact Or.inr (Or.inl (by omega)) | exact Or.inr (Or.inr (Or.inl (by assumption))) | exact Or.inr (Or.inr (Or.inr (by assumption))))], by unfold teI; rw [if_neg (by omega)]⟩) (Nat.zero_le _) (Nat.zero_le _) dX4_typeError_113
      · refine g_aload_n (pc' := 69) hE 2 rfl rfl dX4_typeError_68 rfl ?_
        refine g_get (pc' := 72) hE gcX4 0 rfl 2 (by decide) rfl kX4_43 dX4_typeError_69 rfl ?_
        refine g_sipush (pc' := 75) hE (nI 600) (by decide) dX4_typeError_72 rfl ?_
        refine g_icmpN_gt (pc' := 78) (tgt := 112) hE (by omega) (by omega) dX4_typeError_75 rfl rfl (fun hc75 => ?_) (fun hc75 => ?_)
        · refine g_iconst (pc' := 113) hE (nI 4) (by decide) dX4_typeError_112 rfl ?_
          exact hE.iret (⟨by unfold teE; rw [if_neg (by omega), if_pos (by first | exact Or.inl (by omega) | exact Or.inr (Or.inl (by omega)) | exact Or.inr (Or.inr (Or.inl (by assumption))) | exact Or.inr (Or.inr (Or.inr (by assumption))))], by unfold teI; rw [if_neg (by omega)]⟩) (Nat.zero_le _) (Nat.zero_le _) dX4_typeError_113
        · refine g_lload (pc' := 80) hE 1 rfl dX4_typeError_78 rfl ?_
          refine g_callS (pc' := 83) (As := [.long (lN (num (cut b cnt) (a + 4) 4))]) (rest := []) hE (qX4_infoHolds l D T (num (cut b cnt) (a + 4) 4) hi4) mX4_infoHolds kX4_75 iX4_infoHolds (by decide) rfl (by decide) [] rfl (by decide) rfl (Nat.le_of_ble_eq_true rfl) dX4_typeError_80 rfl (gBackR [] rfl ?_)
          rintro _ rfl
          refine g_st (st' := [.int (bI (infoOK (num (cut b cnt) (a + 4) 4)))]) rfl ?_
          refine g_ifB_eq (pc' := 86) (tgt := 112) hE dX4_typeError_83 rfl rfl (fun hc83 => ?_) (fun hc83 => ?_)
          · refine g_iconst (pc' := 113) hE (nI 4) (by decide) dX4_typeError_112 rfl ?_
            exact hE.iret (⟨by unfold teE; rw [if_neg (by omega), if_pos (by first | exact Or.inl (by omega) | exact Or.inr (Or.inl (by omega)) | exact Or.inr (Or.inr (Or.inl (by assumption))) | exact Or.inr (Or.inr (Or.inr (by assumption))))], by unfold teI; rw [if_neg (by omega)]⟩) (Nat.zero_le _) (Nat.zero_le _) dX4_typeError_113
          · refine g_iload (pc' := 88) hE 0 rfl dX4_typeError_86 rfl ?_
            refine g_aload_n (pc' := 89) hE 3 rfl rfl dX4_typeError_88 rfl ?_
            refine g_iload_n (pc' := 90) hE 4 rfl rfl dX4_typeError_89 rfl ?_
            refine g_bipush (pc' := 92) hE (nI 8) (by decide) dX4_typeError_90 rfl ?_
            refine g_iadd (pc' := 93) hE dX4_typeError_92 rfl ?_
            refine g_eqi (show _ = nI (a + 8) from nI_add _ _) ?_
            refine g_iconst (pc' := 94) hE (nI 4) (by decide) dX4_typeError_93 rfl ?_
            refine g_callV (pc' := 97) (As := [.int (nI (a + 8)), .int (nI 4)]) (rest := [.int (nI (kd (num (cut b cnt) (a + 4) 4)))]) hE (qX5_number l D T t0 t1 8192 cnt b (a + 8) 4 (by decide) hc hb (by omega) (by decide)) mX5_number kX4_31 iX5_number sX5_number (by decide) rfl (by decide) 1 rfl rfl [1, 2] rfl (by decide) rfl (Nat.le_of_ble_eq_true rfl) dX4_typeError_94 rfl (gBackR [1, 2] rfl ?_)
            rintro _ rfl
            refine g_st (st' := [.long (lN (num (cut b cnt) (a + 8) 4)), .int (nI (kd (num (cut b cnt) (a + 4) 4)))]) rfl ?_
            refine g_aload_n (pc' := 98) hE 3 rfl rfl dX4_typeError_97 rfl ?_
            refine g_iload_n (pc' := 99) hE 4 rfl rfl dX4_typeError_98 rfl ?_
            refine g_bipush (pc' := 101) hE (nI 12) (by decide) dX4_typeError_99 rfl ?_
            refine g_iadd (pc' := 102) hE dX4_typeError_101 rfl ?_
            refine g_eqi (show _ = nI (a + 12) from nI_add _ _) ?_
            refine g_iconst (pc' := 103) hE (nI 4) (by decide) dX4_typeError_102 rfl ?_
            refine g_callV (pc' := 106) (As := [.int (nI (a + 12)), .int (nI 4)]) (rest := [.long (lN (num (cut b cnt) (a + 8) 4)), .int (nI (kd (num (cut b cnt) (a + 4) 4)))]) hE (qX5_number l D T t0 t1 8192 cnt b (a + 12) 4 (by decide) hc hb (by omega) (by decide)) mX5_number kX4_31 iX5_number sX5_number (by decide) rfl (by decide) 1 rfl rfl [1, 2] rfl (by decide) rfl (Nat.le_of_ble_eq_true rfl) dX4_typeError_103 rfl (gBackR [1, 2] rfl ?_)
            rintro _ rfl
            refine g_st (st' := [.long (lN (num (cut b cnt) (a + 12) 4)), .long (lN (num (cut b cnt) (a + 8) 4)), .int (nI (kd (num (cut b cnt) (a + 4) 4)))]) rfl ?_
            refine g_callS (pc' := 109) (As := [.int (nI (kd (num (cut b cnt) (a + 4) 4))), .long (lN (num (cut b cnt) (a + 8) 4)), .long (lN (num (cut b cnt) (a + 12) 4))]) (rest := []) hE (qX4_restHolds l D T (kd (num (cut b cnt) (a + 4) 4)) (num (cut b cnt) (a + 8) 4) (num (cut b cnt) (a + 12) 4) (by omega) hi8 hi12) mX4_restHolds kX4_79 iX4_restHolds (by decide) rfl (by decide) [] rfl (by decide) rfl (Nat.le_of_ble_eq_true rfl) dX4_typeError_106 rfl (gBackR [] rfl ?_)
            rintro _ rfl
            refine g_st (st' := [.int (bI (restOK (kd (num (cut b cnt) (a + 4) 4)) (num (cut b cnt) (a + 8) 4) (num (cut b cnt) (a + 12) 4)))]) rfl ?_
            refine g_ifB_ne (pc' := 112) (tgt := 114) hE dX4_typeError_109 rfl rfl (fun hc109 => ?_) (fun hc109 => ?_)
            · refine g_aload_n (pc' := 115) hE 3 rfl rfl dX4_typeError_114 rfl ?_
              refine g_iload_n (pc' := 116) hE 4 rfl rfl dX4_typeError_115 rfl ?_
              refine g_iload_n (pc' := 117) hE 5 rfl rfl dX4_typeError_116 rfl ?_
              refine g_callS (pc' := 120) (As := [.ref t0, .int (nI a), .int (nI sg)]) (rest := []) hE (qX4_namesLieWithin l D T t0 t1 cnt b a sg hc hb ha hs) mX4_namesLieWithin kX4_83 iX4_namesLieWithin (by decide) rfl (by decide) [1, 2] rfl (by decide) rfl (Nat.le_of_ble_eq_true rfl) dX4_typeError_117 rfl (gBackR [1, 2] rfl ?_)
              rintro _ rfl
              refine g_st (st' := [.int (bI (namesIn (cut b cnt) a sg cnt))]) rfl ?_
              refine g_ifB_eq (pc' := 123) (tgt := 138) hE dX4_typeError_120 rfl rfl (fun hc120 => ?_) (fun hc120 => ?_)
              · refine g_iconst (pc' := 139) hE (nI 5) (by decide) dX4_typeError_138 rfl ?_
                exact hE.iret (⟨by unfold teE; rw [if_neg (by omega), if_neg (by rintro (z | z | z | z) <;> first | omega | (rw [z] at hc83; cases hc83) | (rw [z] at hc109; cases hc109))]; first | simp [hc120, hc131] | simp [hc120], by unfold teI; rw [if_neg (by omega)]⟩) (Nat.zero_le _) (Nat.zero_le _) dX4_typeError_139
              · refine g_iload (pc' := 125) hE 0 rfl dX4_typeError_123 rfl ?_
                refine g_aload_n (pc' := 126) hE 3 rfl rfl dX4_typeError_125 rfl ?_
                refine g_iload_n (pc' := 127) hE 4 rfl rfl dX4_typeError_126 rfl ?_
                refine g_iload_n (pc' := 128) hE 5 rfl rfl dX4_typeError_127 rfl ?_
                refine g_callS (pc' := 131) (As := [.int (nI (kd (num (cut b cnt) (a + 4) 4))), .ref t0, .int (nI a), .int (nI sg)]) (rest := []) hE (qX4_ownNameHolds l D T (kd (num (cut b cnt) (a + 4) 4)) t0 t1 cnt b a sg hc hb (by omega) ha (by have := namesIn_0 hc120; omega)) mX4_ownNameHolds kX4_87 iX4_ownNameHolds (by decide) rfl (by decide) [1, 2] rfl (by decide) rfl (Nat.le_of_ble_eq_true rfl) dX4_typeError_128 rfl (gBackR [1, 2] rfl ?_)
                rintro _ rfl
                refine g_st (st' := [.int (bI (ownOK (kd (num (cut b cnt) (a + 4) 4)) (cut b cnt) a sg))]) rfl ?_
                refine g_ifB_eq (pc' := 134) (tgt := 138) hE dX4_typeError_131 rfl rfl (fun hc131 => ?_) (fun hc131 => ?_)
                · refine g_iconst (pc' := 139) hE (nI 5) (by decide) dX4_typeError_138 rfl ?_
                  exact hE.iret (⟨by unfold teE; rw [if_neg (by omega), if_neg (by rintro (z | z | z | z) <;> first | omega | (rw [z] at hc83; cases hc83) | (rw [z] at hc109; cases hc109))]; first | simp [hc120, hc131] | simp [hc120], by unfold teI; rw [if_neg (by omega)]⟩) (Nat.zero_le _) (Nat.zero_le _) dX4_typeError_139
                · refine g_iconst (pc' := 135) hE (nI 0) (by decide) dX4_typeError_134 rfl ?_
                  refine g_goto (tgt := 139) hE dX4_typeError_135 rfl ?_
                  exact hE.iret (⟨by unfold teE; rw [if_neg (by omega), if_neg (by rintro (z | z | z | z) <;> first | omega | (rw [z] at hc83; cases hc83) | (rw [z] at hc109; cases hc109))]; first | simp [hc120, hc131] | simp [hc120], by unfold teI; rw [if_neg (by omega)]⟩) (Nat.zero_le _) (Nat.zero_le _) dX4_typeError_139
            · refine g_iconst (pc' := 113) hE (nI 4) (by decide) dX4_typeError_112 rfl ?_
              exact hE.iret (⟨by unfold teE; rw [if_neg (by omega), if_pos (by first | exact Or.inl (by omega) | exact Or.inr (Or.inl (by omega)) | exact Or.inr (Or.inr (Or.inl (by assumption))) | exact Or.inr (Or.inr (Or.inr (by assumption))))], by unfold teI; rw [if_neg (by omega)]⟩) (Nat.zero_le _) (Nat.zero_le _) dX4_typeError_113
    · refine g_iconst (pc' := 46) hE (nI 0) (by decide) dX4_typeError_45 rfl ?_
      refine g_goto (tgt := 54) hE dX4_typeError_46 rfl ?_
      refine g_iadd (pc' := 55) hE dX4_typeError_54 rfl ?_
      refine g_eqi (show _ = nI its from nI_add _ _) ?_
      refine g_eqi (show _ = nI (its + ic (num (cut b cnt) (a + 4) 4)) from congrArg nI (by unfold ic; split <;> omega)) ?_
      refine g_put (pc' := 58) hE gcX4 0 rfl 2 [(r0, .inr (3, [.int (nI er), .int (nI sd), .int (nI (its + ic (num (cut b cnt) (a + 4) 4)))])), (t0, .inr (4, [.int (nI 8192), .ref t1, .int (nI cnt)])), (t1, .inl (T 1, ((8192 + 7) / 8), .inr (.inl (pack b))))] (by decide) (Nat.le_of_ble_eq_true rfl) rfl rfl rfl rfl kX4_43 dX4_typeError_55 rfl ?_
      refine g_aload_n (pc' := 59) hE 2 rfl rfl dX4_typeError_58 rfl ?_
      refine g_get (pc' := 62) hE gcX4 0 rfl 1 (by decide) rfl kX4_15 dX4_typeError_59 rfl ?_
      refine g_sipush (pc' := 65) hE (nI 200) (by decide) dX4_typeError_62 rfl ?_
      refine g_icmpN_gt (pc' := 68) (tgt := 112) hE (by omega) (by omega) dX4_typeError_65 rfl rfl (fun hc65 => ?_) (fun hc65 => ?_)
      · refine g_iconst (pc' := 113) hE (nI 4) (by decide) dX4_typeError_112 rfl ?_
        exact hE.iret (⟨by unfold teE; rw [if_neg (by omega), if_pos (by first | exact Or.inl (by omega) | exact Or.inr (Or.inl (by omega)) | exact Or.inr (Or.inr (Or.inl (by assumption))) | exact Or.inr (Or.inr (Or.inr (by assumption))))], by unfold teI; rw [if_neg (by omega)]⟩) (Nat.zero_le _) (Nat.zero_le _) dX4_typeError_113
      · refine g_aload_n (pc' := 69) hE 2 rfl rfl dX4_typeError_68 rfl ?_
        refine g_get (pc' := 72) hE gcX4 0 rfl 2 (by decide) rfl kX4_43 dX4_typeError_69 rfl ?_
        refine g_sipush (pc' := 75) hE (nI 600) (by decide) dX4_typeError_72 rfl ?_
        refine g_icmpN_gt (pc' := 78) (tgt := 112) hE (by omega) (by omega) dX4_typeError_75 rfl rfl (fun hc75 => ?_) (fun hc75 => ?_)
        · refine g_iconst (pc' := 113) hE (nI 4) (by decide) dX4_typeError_112 rfl ?_
          exact hE.iret (⟨by unfold teE; rw [if_neg (by omega), if_pos (by first | exact Or.inl (by omega) | exact Or.inr (Or.inl (by omega)) | exact Or.inr (Or.inr (Or.inl (by assumption))) | exact Or.inr (Or.inr (Or.inr (by assumption))))], by unfold teI; rw [if_neg (by omega)]⟩) (Nat.zero_le _) (Nat.zero_le _) dX4_typeError_113
        · refine g_lload (pc' := 80) hE 1 rfl dX4_typeError_78 rfl ?_
          refine g_callS (pc' := 83) (As := [.long (lN (num (cut b cnt) (a + 4) 4))]) (rest := []) hE (qX4_infoHolds l D T (num (cut b cnt) (a + 4) 4) hi4) mX4_infoHolds kX4_75 iX4_infoHolds (by decide) rfl (by decide) [] rfl (by decide) rfl (Nat.le_of_ble_eq_true rfl) dX4_typeError_80 rfl (gBackR [] rfl ?_)
          rintro _ rfl
          refine g_st (st' := [.int (bI (infoOK (num (cut b cnt) (a + 4) 4)))]) rfl ?_
          refine g_ifB_eq (pc' := 86) (tgt := 112) hE dX4_typeError_83 rfl rfl (fun hc83 => ?_) (fun hc83 => ?_)
          · refine g_iconst (pc' := 113) hE (nI 4) (by decide) dX4_typeError_112 rfl ?_
            exact hE.iret (⟨by unfold teE; rw [if_neg (by omega), if_pos (by first | exact Or.inl (by omega) | exact Or.inr (Or.inl (by omega)) | exact Or.inr (Or.inr (Or.inl (by assumption))) | exact Or.inr (Or.inr (Or.inr (by assumption))))], by unfold teI; rw [if_neg (by omega)]⟩) (Nat.zero_le _) (Nat.zero_le _) dX4_typeError_113
          · refine g_iload (pc' := 88) hE 0 rfl dX4_typeError_86 rfl ?_
            refine g_aload_n (pc' := 89) hE 3 rfl rfl dX4_typeError_88 rfl ?_
            refine g_iload_n (pc' := 90) hE 4 rfl rfl dX4_typeError_89 rfl ?_
            refine g_bipush (pc' := 92) hE (nI 8) (by decide) dX4_typeError_90 rfl ?_
            refine g_iadd (pc' := 93) hE dX4_typeError_92 rfl ?_
            refine g_eqi (show _ = nI (a + 8) from nI_add _ _) ?_
            refine g_iconst (pc' := 94) hE (nI 4) (by decide) dX4_typeError_93 rfl ?_
            refine g_callV (pc' := 97) (As := [.int (nI (a + 8)), .int (nI 4)]) (rest := [.int (nI (kd (num (cut b cnt) (a + 4) 4)))]) hE (qX5_number l D T t0 t1 8192 cnt b (a + 8) 4 (by decide) hc hb (by omega) (by decide)) mX5_number kX4_31 iX5_number sX5_number (by decide) rfl (by decide) 1 rfl rfl [1, 2] rfl (by decide) rfl (Nat.le_of_ble_eq_true rfl) dX4_typeError_94 rfl (gBackR [1, 2] rfl ?_)
            rintro _ rfl
            refine g_st (st' := [.long (lN (num (cut b cnt) (a + 8) 4)), .int (nI (kd (num (cut b cnt) (a + 4) 4)))]) rfl ?_
            refine g_aload_n (pc' := 98) hE 3 rfl rfl dX4_typeError_97 rfl ?_
            refine g_iload_n (pc' := 99) hE 4 rfl rfl dX4_typeError_98 rfl ?_
            refine g_bipush (pc' := 101) hE (nI 12) (by decide) dX4_typeError_99 rfl ?_
            refine g_iadd (pc' := 102) hE dX4_typeError_101 rfl ?_
            refine g_eqi (show _ = nI (a + 12) from nI_add _ _) ?_
            refine g_iconst (pc' := 103) hE (nI 4) (by decide) dX4_typeError_102 rfl ?_
            refine g_callV (pc' := 106) (As := [.int (nI (a + 12)), .int (nI 4)]) (rest := [.long (lN (num (cut b cnt) (a + 8) 4)), .int (nI (kd (num (cut b cnt) (a + 4) 4)))]) hE (qX5_number l D T t0 t1 8192 cnt b (a + 12) 4 (by decide) hc hb (by omega) (by decide)) mX5_number kX4_31 iX5_number sX5_number (by decide) rfl (by decide) 1 rfl rfl [1, 2] rfl (by decide) rfl (Nat.le_of_ble_eq_true rfl) dX4_typeError_103 rfl (gBackR [1, 2] rfl ?_)
            rintro _ rfl
            refine g_st (st' := [.long (lN (num (cut b cnt) (a + 12) 4)), .long (lN (num (cut b cnt) (a + 8) 4)), .int (nI (kd (num (cut b cnt) (a + 4) 4)))]) rfl ?_
            refine g_callS (pc' := 109) (As := [.int (nI (kd (num (cut b cnt) (a + 4) 4))), .long (lN (num (cut b cnt) (a + 8) 4)), .long (lN (num (cut b cnt) (a + 12) 4))]) (rest := []) hE (qX4_restHolds l D T (kd (num (cut b cnt) (a + 4) 4)) (num (cut b cnt) (a + 8) 4) (num (cut b cnt) (a + 12) 4) (by omega) hi8 hi12) mX4_restHolds kX4_79 iX4_restHolds (by decide) rfl (by decide) [] rfl (by decide) rfl (Nat.le_of_ble_eq_true rfl) dX4_typeError_106 rfl (gBackR [] rfl ?_)
            rintro _ rfl
            refine g_st (st' := [.int (bI (restOK (kd (num (cut b cnt) (a + 4) 4)) (num (cut b cnt) (a + 8) 4) (num (cut b cnt) (a + 12) 4)))]) rfl ?_
            refine g_ifB_ne (pc' := 112) (tgt := 114) hE dX4_typeError_109 rfl rfl (fun hc109 => ?_) (fun hc109 => ?_)
            · refine g_aload_n (pc' := 115) hE 3 rfl rfl dX4_typeError_114 rfl ?_
              refine g_iload_n (pc' := 116) hE 4 rfl rfl dX4_typeError_115 rfl ?_
              refine g_iload_n (pc' := 117) hE 5 rfl rfl dX4_typeError_116 rfl ?_
              refine g_callS (pc' := 120) (As := [.ref t0, .int (nI a), .int (nI sg)]) (rest := []) hE (qX4_namesLieWithin l D T t0 t1 cnt b a sg hc hb ha hs) mX4_namesLieWithin kX4_83 iX4_namesLieWithin (by decide) rfl (by decide) [1, 2] rfl (by decide) rfl (Nat.le_of_ble_eq_true rfl) dX4_typeError_117 rfl (gBackR [1, 2] rfl ?_)
              rintro _ rfl
              refine g_st (st' := [.int (bI (namesIn (cut b cnt) a sg cnt))]) rfl ?_
              refine g_ifB_eq (pc' := 123) (tgt := 138) hE dX4_typeError_120 rfl rfl (fun hc120 => ?_) (fun hc120 => ?_)
              · refine g_iconst (pc' := 139) hE (nI 5) (by decide) dX4_typeError_138 rfl ?_
                exact hE.iret (⟨by unfold teE; rw [if_neg (by omega), if_neg (by rintro (z | z | z | z) <;> first | omega | (rw [z] at hc83; cases hc83) | (rw [z] at hc109; cases hc109))]; first | simp [hc120, hc131] | simp [hc120], by unfold teI; rw [if_neg (by omega)]⟩) (Nat.zero_le _) (Nat.zero_le _) dX4_typeError_139
              · refine g_iload (pc' := 125) hE 0 rfl dX4_typeError_123 rfl ?_
                refine g_aload_n (pc' := 126) hE 3 rfl rfl dX4_typeError_125 rfl ?_
                refine g_iload_n (pc' := 127) hE 4 rfl rfl dX4_typeError_126 rfl ?_
                refine g_iload_n (pc' := 128) hE 5 rfl rfl dX4_typeError_127 rfl ?_
                refine g_callS (pc' := 131) (As := [.int (nI (kd (num (cut b cnt) (a + 4) 4))), .ref t0, .int (nI a), .int (nI sg)]) (rest := []) hE (qX4_ownNameHolds l D T (kd (num (cut b cnt) (a + 4) 4)) t0 t1 cnt b a sg hc hb (by omega) ha (by have := namesIn_0 hc120; omega)) mX4_ownNameHolds kX4_87 iX4_ownNameHolds (by decide) rfl (by decide) [1, 2] rfl (by decide) rfl (Nat.le_of_ble_eq_true rfl) dX4_typeError_128 rfl (gBackR [1, 2] rfl ?_)
                rintro _ rfl
                refine g_st (st' := [.int (bI (ownOK (kd (num (cut b cnt) (a + 4) 4)) (cut b cnt) a sg))]) rfl ?_
                refine g_ifB_eq (pc' := 134) (tgt := 138) hE dX4_typeError_131 rfl rfl (fun hc131 => ?_) (fun hc131 => ?_)
                · refine g_iconst (pc' := 139) hE (nI 5) (by decide) dX4_typeError_138 rfl ?_
                  exact hE.iret (⟨by unfold teE; rw [if_neg (by omega), if_neg (by rintro (z | z | z | z) <;> first | omega | (rw [z] at hc83; cases hc83) | (rw [z] at hc109; cases hc109))]; first | simp [hc120, hc131] | simp [hc120], by unfold teI; rw [if_neg (by omega)]⟩) (Nat.zero_le _) (Nat.zero_le _) dX4_typeError_139
                · refine g_iconst (pc' := 135) hE (nI 0) (by decide) dX4_typeError_134 rfl ?_
                  refine g_goto (tgt := 139) hE dX4_typeError_135 rfl ?_
                  exact hE.iret (⟨by unfold teE; rw [if_neg (by omega), if_neg (by rintro (z | z | z | z) <;> first | omega | (rw [z] at hc83; cases hc83) | (rw [z] at hc109; cases hc109))]; first | simp [hc120, hc131] | simp [hc120], by unfold teI; rw [if_neg (by omega)]⟩) (Nat.zero_le _) (Nat.zero_le _) dX4_typeError_139
            · refine g_iconst (pc' := 113) hE (nI 4) (by decide) dX4_typeError_112 rfl ?_
              exact hE.iret (⟨by unfold teE; rw [if_neg (by omega), if_pos (by first | exact Or.inl (by omega) | exact Or.inr (Or.inl (by omega)) | exact Or.inr (Or.inr (Or.inl (by assumption))) | exact Or.inr (Or.inr (Or.inr (by assumption))))], by unfold teI; rw [if_neg (by omega)]⟩) (Nat.zero_le _) (Nat.zero_le _) dX4_typeError_113
  · refine g_iconst (pc' := 31) hE (nI 3) (by decide) dX4_typeError_30 rfl ?_
    exact hE.iret (⟨by unfold teE; rw [if_pos (by omega)], by unfold teI; rw [if_pos (by omega)]⟩) (Nat.zero_le _) (Nat.zero_le _) dX4_typeError_31

set_option maxHeartbeats 4000000 in
set_option maxRecDepth 100000 in
theorem qX4_typesError (l : Launch) (D : va_G) (T : Nat → ClassId) (r0 er its : Nat) (t0 t1 cnt : Nat) (b : Nat → Nat) (hc : cnt ≤ 8192) (hb : ∀ i, b i < 256) (hs : 24 + num (cut b cnt) 12 4 ≤ cnt) : Con l D T yX4_typesError cX4_typesError 8 (some .int) 5 0 0 [.ref r0, .ref t0] [(r0, .inr (3, [.int (nI er), .int (nI 0), .int (nI its)])), (t0, .inr (4, [.int (nI 8192), .ref t1, .int (nI cnt)])), (t1, .inl (T 1, ((8192 + 7) / 8), .inr (.inl (pack b))))] (fun v w1 => ∃ e sd it : Nat, v = some (.int (nI e)) ∧ w1 = [(r0, .inr (3, [.int (nI er), .int (nI sd), .int (nI it)])), (t0, .inr (4, [.int (nI 8192), .ref t1, .int (nI cnt)])), (t1, .inl (T 1, ((8192 + 7) / 8), .inr (.inl (pack b))))] ∧ Scan (cut b cnt) (24 + num (cut b cnt) 12 4) cnt e sd) := by
  refine Con.of (by decide) (Nat.le_of_ble_eq_true rfl) ?_
  intro E hE
  have hct := cut_lt (c := cnt) hb
  refine g_lv (lv' := [(0, .ref r0), (1, .ref t0)]) [0, 1] rfl ?_
  refine g_bipush (pc' := 2) hE (nI 24) (by decide) dX4_typesError_0 rfl ?_
  refine g_aload_n (pc' := 3) hE 1 rfl rfl dX4_typesError_2 rfl ?_
  refine g_bipush (pc' := 5) hE (nI 12) (by decide) dX4_typesError_3 rfl ?_
  refine g_iconst (pc' := 6) hE (nI 4) (by decide) dX4_typesError_5 rfl ?_
  refine g_callV (pc' := 9) (As := [.int (nI 12), .int (nI 4)]) (rest := [.int (nI 24)]) hE (qX5_number l D T t0 t1 8192 cnt b 12 4 (by decide) hc hb (by decide) (by decide)) mX5_number kX4_31 iX5_number sX5_number (by decide) rfl (by decide) 1 rfl rfl [1, 2] rfl (by decide) rfl (Nat.le_of_ble_eq_true rfl) dX4_typesError_6 rfl (gBackR [1, 2] rfl ?_)
  rintro _ rfl
  refine g_st (st' := [.long (lN (num (cut b cnt) 12 4)), .int (nI 24)]) rfl ?_
  refine g_l2i (pc' := 10) hE (nI (num (cut b cnt) 12 4)) (lN_i _) dX4_typesError_9 rfl ?_
  refine g_iadd (pc' := 11) hE dX4_typesError_10 rfl ?_
  refine g_eqi (show _ = nI (24 + num (cut b cnt) 12 4) from nI_add _ _) ?_
  refine g_istore_n (pc' := 12) hE [(2, .int (nI (24 + num (cut b cnt) 12 4))), (0, .ref r0), (1, .ref t0)] dX4_typesError_11 rfl rfl (by decide) rfl ?_
  refine g_bipush (pc' := 14) hE (nI 24) (by decide) dX4_typesError_12 rfl ?_
  refine g_istore_n (pc' := 15) hE [(3, .int (nI 24)), (2, .int (nI (24 + num (cut b cnt) 12 4))), (0, .ref r0), (1, .ref t0)] dX4_typesError_14 rfl rfl (by decide) rfl ?_
  refine g_lconst (pc' := 16) hE (lN 0) (by decide) dX4_typesError_15 rfl ?_
  refine g_lstore (pc' := 18) hE [(4, .long (lN 0)), (3, .int (nI 24)), (2, .int (nI (24 + num (cut b cnt) 12 4))), (0, .ref r0), (1, .ref t0)] dX4_typesError_16 rfl (by decide) rfl ?_
  refine g_aload_n (pc' := 19) hE 3 rfl rfl dX4_typesError_18 rfl ?_
  refine g_iconst (pc' := 20) hE (nI 0) (by decide) dX4_typesError_19 rfl ?_
  refine g_put (pc' := 23) hE gcX4 0 rfl 2 [(r0, .inr (3, [.int (nI er), .int (nI 0), .int (nI 0)])), (t0, .inr (4, [.int (nI 8192), .ref t1, .int (nI cnt)])), (t1, .inl (T 1, ((8192 + 7) / 8), .inr (.inl (pack b))))] (by decide) (Nat.le_of_ble_eq_true rfl) rfl rfl rfl rfl kX4_43 dX4_typesError_20 rfl ?_
  refine g_iconst (pc' := 24) hE (nI 1) (by decide) dX4_typesError_23 rfl ?_
  refine g_istore (pc' := 26) hE [(6, .int (nI 1)), (4, .long (lN 0)), (3, .int (nI 24)), (2, .int (nI (24 + num (cut b cnt) 12 4))), (0, .ref r0), (1, .ref t0)] dX4_typesError_24 rfl (by decide) rfl ?_
  refine (show ∀ (d26 : Nat) (m : Nat), 201 - m = d26 → (okUpTo (cut b cnt) (24 + num (cut b cnt) 12 4) cnt m) → G l E D 8 0 0 [(r0, .inr (3, [.int (nI er), .int (nI m), .int (nI (itc (cut b cnt) m))])), (t0, .inr (4, [.int (nI 8192), .ref t1, .int (nI cnt)])), (t1, .inl (T 1, ((8192 + 7) / 8), .inr (.inl (pack b))))] [(6, .int (nI (m + 1))), (4, .long (lN (hiAll (cut b cnt) m))), (3, .int (nI (off (cut b cnt) (m + 1)))), (2, .int (nI (24 + num (cut b cnt) 12 4))), (0, .ref r0), (1, .ref t0)] 26 [] from ?_) _ 0 rfl (okUpTo_0 _ _ _ (Nat.le_add_right _ _))
  intro d26
  induction d26 using Nat.strongRecOn with
  | _ d26 ih26 =>
  intro m hd26 hok
  obtain ⟨hm2, ho2, hi2, hall⟩ := id hok
  have hha := hiAll_lt hct m
  refine g_iload (pc' := 28) hE 0 rfl dX4_typesError_26 rfl ?_
  refine g_sipush (pc' := 31) hE (nI 201) (by decide) dX4_typesError_28 rfl ?_
  refine g_icmpN_gt (pc' := 34) (tgt := 96) hE (by omega) (by omega) dX4_typesError_31 rfl rfl (fun hc31 => ?_) (fun hc31 => ?_)
  · omega
  refine g_iload_n (pc' := 35) hE 2 rfl rfl dX4_typesError_34 rfl ?_
  refine g_iload_n (pc' := 36) hE 3 rfl rfl dX4_typesError_35 rfl ?_
  refine g_icmpN_ge (pc' := 39) (tgt := 96) hE (by omega) (by omega) dX4_typesError_36 rfl rfl (fun hc36 => ?_) (fun hc36 => ?_)
  · refine g_aload_n (pc' := 97) hE 4 rfl rfl dX4_typesError_96 rfl ?_
    refine g_get (pc' := 100) hE gcX4 0 rfl 1 (by decide) rfl kX4_15 dX4_typesError_97 rfl ?_
    refine g_istore (pc' := 102) hE [(6, .int (nI m)), (4, .long (lN (hiAll (cut b cnt) m))), (3, .int (nI (off (cut b cnt) (m + 1)))), (2, .int (nI (24 + num (cut b cnt) 12 4))), (0, .ref r0), (1, .ref t0)] dX4_typesError_100 rfl (by decide) rfl ?_
    refine g_aload_n (pc' := 103) hE 4 rfl rfl dX4_typesError_102 rfl ?_
    refine g_iconst (pc' := 104) hE (nI 0) (by decide) dX4_typesError_103 rfl ?_
    refine g_put (pc' := 107) hE gcX4 0 rfl 1 [(r0, .inr (3, [.int (nI er), .int (nI 0), .int (nI (itc (cut b cnt) m))])), (t0, .inr (4, [.int (nI 8192), .ref t1, .int (nI cnt)])), (t1, .inl (T 1, ((8192 + 7) / 8), .inr (.inl (pack b))))] (by decide) (Nat.le_of_ble_eq_true rfl) rfl rfl rfl rfl kX4_15 dX4_typesError_104 rfl ?_
    refine g_lload (pc' := 109) hE 1 rfl dX4_typesError_107 rfl ?_
    refine g_iload (pc' := 111) hE 0 rfl dX4_typesError_109 rfl ?_
    refine g_i2l (pc' := 112) hE (lN m) (nI_l (by omega)) dX4_typesError_111 rfl ?_
    refine g_lcmp (pc' := 113) hE dX4_typesError_112 rfl ?_
    refine g_ifcN_le (pc' := 116) (tgt := 121) hE (by omega) (by omega) dX4_typesError_113 rfl rfl (fun hc113 => ?_) (fun hc113 => ?_)
    · refine g_iconst (pc' := 122) hE (nI 0) (by decide) dX4_typesError_121 rfl ?_
      exact hE.iret (⟨_, _, _, rfl, rfl, Or.inr ⟨m, hok, by omega, rfl, by first | rw [if_pos (by omega)] | rw [if_neg (by omega)]⟩⟩) (Nat.zero_le _) (Nat.zero_le _) dX4_typesError_122
    · refine g_bipush (pc' := 118) hE (nI 6) (by decide) dX4_typesError_116 rfl ?_
      refine g_goto (tgt := 122) hE dX4_typesError_118 rfl ?_
      exact hE.iret (⟨_, _, _, rfl, rfl, Or.inr ⟨m, hok, by omega, rfl, by first | rw [if_pos (by omega)] | rw [if_neg (by omega)]⟩⟩) (Nat.zero_le _) (Nat.zero_le _) dX4_typesError_122
  · refine g_aload_n (pc' := 40) hE 4 rfl rfl dX4_typesError_39 rfl ?_
    refine g_iload (pc' := 42) hE 0 rfl dX4_typesError_40 rfl ?_
    refine g_put (pc' := 45) hE gcX4 0 rfl 1 [(r0, .inr (3, [.int (nI er), .int (nI (m + 1)), .int (nI (itc (cut b cnt) m))])), (t0, .inr (4, [.int (nI 8192), .ref t1, .int (nI cnt)])), (t1, .inl (T 1, ((8192 + 7) / 8), .inr (.inl (pack b))))] (by decide) (Nat.le_of_ble_eq_true rfl) rfl rfl rfl rfl kX4_15 dX4_typesError_42 rfl ?_
    refine g_aload_n (pc' := 46) hE 4 rfl rfl dX4_typesError_45 rfl ?_
    refine g_aload_n (pc' := 47) hE 5 rfl rfl dX4_typesError_46 rfl ?_
    refine g_iload_n (pc' := 48) hE 2 rfl rfl dX4_typesError_47 rfl ?_
    refine g_iload_n (pc' := 49) hE 3 rfl rfl dX4_typesError_48 rfl ?_
    refine g_callV (pc' := 52) (As := [.ref t0, .int (nI (off (cut b cnt) (m + 1))), .int (nI (24 + num (cut b cnt) 12 4))]) (rest := []) hE (qX4_typeError l D T r0 er (m + 1) (itc (cut b cnt) m) t0 t1 cnt b (off (cut b cnt) (m + 1)) (24 + num (cut b cnt) 12 4) hc hb (by omega) (by omega) (by omega)) mX4_typeError kX4_46 iX4_typeError sX4_typeError (by decide) rfl (by decide) 0 rfl rfl [0, 1, 2] rfl (by decide) rfl (Nat.le_of_ble_eq_true rfl) dX4_typesError_49 rfl (gBackU [0, 1, 2] rfl (fun v w1 h => by obtain ⟨_, rfl⟩ := h; simp only [List.map_cons, List.map_nil]) ?_)
    rintro _ _ ⟨rfl, rfl⟩
    refine g_w (ws' := [(r0, .inr (3, [.int (nI er), .int (nI (m + 1)), .int (nI (teI (cut b cnt) (off (cut b cnt) (m + 1)) (24 + num (cut b cnt) 12 4) (itc (cut b cnt) m)))])), (t0, .inr (4, [.int (nI 8192), .ref t1, .int (nI cnt)])), (t1, .inl (T 1, ((8192 + 7) / 8), .inr (.inl (pack b))))]) rfl ?_
    refine g_st (st' := [.int (nI (teE (cut b cnt) (off (cut b cnt) (m + 1)) (24 + num (cut b cnt) 12 4) cnt (m + 1) (itc (cut b cnt) m)))]) rfl ?_
    refine g_istore (pc' := 54) hE [(7, .int (nI (teE (cut b cnt) (off (cut b cnt) (m + 1)) (24 + num (cut b cnt) 12 4) cnt (m + 1) (itc (cut b cnt) m)))), (6, .int (nI (m + 1))), (4, .long (lN (hiAll (cut b cnt) m))), (3, .int (nI (off (cut b cnt) (m + 1)))), (2, .int (nI (24 + num (cut b cnt) 12 4))), (0, .ref r0), (1, .ref t0)] dX4_typesError_52 rfl (by decide) rfl ?_
    refine g_iload (pc' := 56) hE 0 rfl dX4_typesError_54 rfl ?_
    refine g_ifN_eq (pc' := 59) (tgt := 62) hE (Nat.lt_of_le_of_lt (teE_le _ _ _ _ _ _) (by decide)) dX4_typesError_56 rfl rfl (fun hc56 => ?_) (fun hc56 => ?_)
    · refine g_w (ws' := [(r0, .inr (3, [.int (nI er), .int (nI (m + 1)), .int (nI (itc (cut b cnt) (m + 1)))])), (t0, .inr (4, [.int (nI 8192), .ref t1, .int (nI cnt)])), (t1, .inl (T 1, ((8192 + 7) / 8), .inr (.inl (pack b))))]) (by rw [teI_s hc56]) ?_
      refine g_lload (pc' := 64) hE 2 rfl dX4_typesError_62 rfl ?_
      refine g_aload_n (pc' := 65) hE 6 rfl rfl dX4_typesError_64 rfl ?_
      refine g_iload_n (pc' := 66) hE 3 rfl rfl dX4_typesError_65 rfl ?_
      refine g_callS (pc' := 69) (As := [.ref t0, .int (nI (off (cut b cnt) (m + 1)))]) (rest := [.long (lN (hiAll (cut b cnt) m))]) hE (qX4_highestReference l D T t0 t1 cnt b (off (cut b cnt) (m + 1)) hc hb (by omega)) mX4_highestReference kX4_50 iX4_highestReference (by decide) rfl (by decide) [1, 2] rfl (by decide) rfl (Nat.le_of_ble_eq_true rfl) dX4_typesError_66 rfl (gBackR [1, 2] rfl ?_)
      rintro _ rfl
      refine g_st (st' := [.long (lN (hiRef (cut b cnt) (off (cut b cnt) (m + 1)))), .long (lN (hiAll (cut b cnt) m))]) rfl ?_
      have hhr : hiRef (cut b cnt) (off (cut b cnt) (m + 1)) < 2 ^ 32 := hiW_lt hct _ _ _
      refine g_maxL (pc' := 72) hE (by omega) (by omega) kX4_54 (by omega) (by omega) (by omega) (Nat.le_of_ble_eq_true rfl) dX4_typesError_69 rfl ?_
      refine g_eql (show _ = lN (hiAll (cut b cnt) (m + 1)) from congrArg lN (hiAll_s _ _)) ?_
      refine g_lstore (pc' := 74) hE [(4, .long (lN (hiAll (cut b cnt) (m + 1)))), (7, .int (nI (teE (cut b cnt) (off (cut b cnt) (m + 1)) (24 + num (cut b cnt) 12 4) cnt (m + 1) (itc (cut b cnt) m)))), (6, .int (nI (m + 1))), (3, .int (nI (off (cut b cnt) (m + 1)))), (2, .int (nI (24 + num (cut b cnt) 12 4))), (0, .ref r0), (1, .ref t0)] dX4_typesError_72 rfl (by decide) rfl ?_
      refine g_iload_n (pc' := 75) hE 3 rfl rfl dX4_typesError_74 rfl ?_
      refine g_iconst (pc' := 76) hE (nI 4) (by decide) dX4_typesError_75 rfl ?_
      refine g_aload_n (pc' := 77) hE 6 rfl rfl dX4_typesError_76 rfl ?_
      refine g_iload_n (pc' := 78) hE 3 rfl rfl dX4_typesError_77 rfl ?_
      refine g_iconst (pc' := 79) hE (nI 4) (by decide) dX4_typesError_78 rfl ?_
      refine g_iadd (pc' := 80) hE dX4_typesError_79 rfl ?_
      refine g_eqi (show _ = nI (off (cut b cnt) (m + 1) + 4) from nI_add _ _) ?_
      refine g_iconst (pc' := 81) hE (nI 4) (by decide) dX4_typesError_80 rfl ?_
      refine g_callV (pc' := 84) (As := [.int (nI (off (cut b cnt) (m + 1) + 4)), .int (nI 4)]) (rest := [.int (nI 4), .int (nI (off (cut b cnt) (m + 1)))]) hE (qX5_number l D T t0 t1 8192 cnt b (off (cut b cnt) (m + 1) + 4) 4 (by decide) hc hb (by omega) (by decide)) mX5_number kX4_31 iX5_number sX5_number (by decide) rfl (by decide) 1 rfl rfl [1, 2] rfl (by decide) rfl (Nat.le_of_ble_eq_true rfl) dX4_typesError_81 rfl (gBackR [1, 2] rfl ?_)
      rintro _ rfl
      refine g_st (st' := [.long (lN (num (cut b cnt) (off (cut b cnt) (m + 1) + 4) 4)), .int (nI 4), .int (nI (off (cut b cnt) (m + 1)))]) rfl ?_
      refine g_callS (pc' := 87) (As := [.long (lN (num (cut b cnt) (off (cut b cnt) (m + 1) + 4) 4))]) (rest := [.int (nI 4), .int (nI (off (cut b cnt) (m + 1)))]) hE (qX1_words l D T (num (cut b cnt) (off (cut b cnt) (m + 1) + 4) 4) (num4_lt hct _)) mX1_words kX4_60 iX1_words (by decide) rfl (by decide) [] rfl (by decide) rfl (Nat.le_of_ble_eq_true rfl) dX4_typesError_84 rfl (gBackR [] rfl ?_)
      rintro _ rfl
      refine g_st (st' := [.int (nI (wds (num (cut b cnt) (off (cut b cnt) (m + 1) + 4) 4))), .int (nI 4), .int (nI (off (cut b cnt) (m + 1)))]) rfl ?_
      refine g_imul (pc' := 88) hE dX4_typesError_87 rfl ?_
      refine g_eqi (show _ = nI (4 * (wds (num (cut b cnt) (off (cut b cnt) (m + 1) + 4) 4))) from pk_mul _ _) ?_
      refine g_iadd (pc' := 89) hE dX4_typesError_88 rfl ?_
      refine g_eqi (show _ = nI (off (cut b cnt) (m + 1) + (4 * (wds (num (cut b cnt) (off (cut b cnt) (m + 1) + 4) 4)))) from nI_add _ _) ?_
      refine g_eqi (show _ = nI (off (cut b cnt) (m + 1 + 1)) from congrArg nI (off_n _ _)) ?_
      refine g_istore_n (pc' := 90) hE [(3, .int (nI (off (cut b cnt) (m + 1 + 1)))), (4, .long (lN (hiAll (cut b cnt) (m + 1)))), (7, .int (nI (teE (cut b cnt) (off (cut b cnt) (m + 1)) (24 + num (cut b cnt) 12 4) cnt (m + 1) (itc (cut b cnt) m)))), (6, .int (nI (m + 1))), (2, .int (nI (24 + num (cut b cnt) 12 4))), (0, .ref r0), (1, .ref t0)] dX4_typesError_89 rfl rfl (by decide) rfl ?_
      refine g_iinc (pc' := 93) hE (nI (m + 1 + 1)) [(6, .int (nI (m + 1 + 1))), (3, .int (nI (off (cut b cnt) (m + 1 + 1)))), (4, .long (lN (hiAll (cut b cnt) (m + 1)))), (7, .int (nI (teE (cut b cnt) (off (cut b cnt) (m + 1)) (24 + num (cut b cnt) 12 4) cnt (m + 1) (itc (cut b cnt) m)))), (2, .int (nI (24 + num (cut b cnt) 12 4))), (0, .ref r0), (1, .ref t0)] 3 rfl dX4_typesError_90 rfl (g_incN _ 1) (by decide) rfl ?_
      refine g_goto (tgt := 26) hE dX4_typesError_93 rfl ?_
      refine g_lv [0, 2, 1, 4, 5, 6] (lv' := [(6, .int (nI (m + 1 + 1))), (4, .long (lN (hiAll (cut b cnt) (m + 1)))), (3, .int (nI (off (cut b cnt) (m + 1 + 1)))), (2, .int (nI (24 + num (cut b cnt) 12 4))), (0, .ref r0), (1, .ref t0)]) rfl ?_
      exact ih26 _ (by omega) (m + 1) rfl (hok.step hc36 hc56)
    · refine g_iload (pc' := 61) hE 0 rfl dX4_typesError_59 rfl ?_
      exact hE.iret (⟨_, _, _, rfl, rfl, Or.inl ⟨m, hok, hc36, rfl, hc56, rfl⟩⟩) (Nat.zero_le _) (Nat.zero_le _) dX4_typesError_61

set_option maxHeartbeats 4000000 in
set_option maxRecDepth 100000 in
theorem qX4_judge (l : Launch) (D : va_G) (T : Nat → ClassId) (r0 er sd its : Nat) (t0 t1 cnt : Nat) (b : Nat → Nat) (hc : cnt ≤ 8192) (hb : ∀ i, b i < 256) : Con l D T yX4_judge cX4_judge 2 (some .int) 6 0 0 [.ref r0, .ref t0] [(r0, .inr (3, [.int (nI er), .int (nI sd), .int (nI its)])), (t0, .inr (4, [.int (nI 8192), .ref t1, .int (nI cnt)])), (t1, .inl (T 1, ((8192 + 7) / 8), .inr (.inl (pack b))))] (fun v w1 => ∃ e sd it : Nat, v = some (.int (nI e)) ∧ w1 = [(r0, .inr (3, [.int (nI e), .int (nI sd), .int (nI it)])), (t0, .inr (4, [.int (nI 8192), .ref t1, .int (nI cnt)])), (t1, .inl (T 1, ((8192 + 7) / 8), .inr (.inl (pack b))))] ∧ Judge (cut b cnt) cnt e sd) := by
  refine Con.of (by decide) (Nat.le_of_ble_eq_true rfl) ?_
  intro E hE
  refine g_lv (lv' := [(0, .ref r0), (1, .ref t0)]) [0, 1] rfl ?_
  refine g_aload_n (pc' := 1) hE 0 rfl rfl dX4_judge_0 rfl ?_
  refine g_iconst (pc' := 2) hE (nI 0) (by decide) dX4_judge_1 rfl ?_
  refine g_put (pc' := 5) hE gcX4 0 rfl 1 [(r0, .inr (3, [.int (nI er), .int (nI 0), .int (nI its)])), (t0, .inr (4, [.int (nI 8192), .ref t1, .int (nI cnt)])), (t1, .inl (T 1, ((8192 + 7) / 8), .inr (.inl (pack b))))] (by decide) (Nat.le_of_ble_eq_true rfl) rfl rfl rfl rfl kX4_15 dX4_judge_2 rfl ?_
  refine g_aload_n (pc' := 6) hE 0 rfl rfl dX4_judge_5 rfl ?_
  refine g_aload_n (pc' := 7) hE 1 rfl rfl dX4_judge_6 rfl ?_
  refine g_callS (pc' := 10) (As := [.ref t0]) (rest := [.ref r0]) hE (qX4_headError l D T t0 t1 cnt b hc hb) mX4_headError kX4_18 iX4_headError (by decide) rfl (by decide) [1, 2] rfl (by decide) rfl (Nat.le_of_ble_eq_true rfl) dX4_judge_7 rfl (gBackR [1, 2] rfl ?_)
  rintro _ rfl
  refine g_st (st' := [.int (nI (headE (cut b cnt) cnt)), .ref r0]) rfl ?_
  refine g_put (pc' := 13) hE gcX4 0 rfl 0 [(r0, .inr (3, [.int (nI (headE (cut b cnt) cnt)), .int (nI 0), .int (nI its)])), (t0, .inr (4, [.int (nI 8192), .ref t1, .int (nI cnt)])), (t1, .inl (T 1, ((8192 + 7) / 8), .inr (.inl (pack b))))] (by decide) (Nat.le_of_ble_eq_true rfl) rfl rfl rfl rfl kX4_9 dX4_judge_10 rfl ?_
  refine g_aload_n (pc' := 14) hE 0 rfl rfl dX4_judge_13 rfl ?_
  refine g_get (pc' := 17) hE gcX4 0 rfl 0 (by decide) rfl kX4_9 dX4_judge_14 rfl ?_
  have hh9 : headE (cut b cnt) cnt ≤ 2 := by unfold headE; repeat (first | omega | split)
  refine g_ifN_ne (pc' := 20) (tgt := 29) hE (by omega) dX4_judge_17 rfl rfl (fun hc17 => ?_) (fun hc17 => ?_)
  · refine g_aload_n (pc' := 30) hE 0 rfl rfl dX4_judge_29 rfl ?_
    refine g_get (pc' := 33) hE gcX4 0 rfl 0 (by decide) rfl kX4_9 dX4_judge_30 rfl ?_
    exact hE.iret (⟨_, _, _, rfl, rfl, by first | exact Or.inr ⟨hc17, hsc⟩ | exact Or.inl ⟨hc17, rfl, rfl⟩⟩) (Nat.zero_le _) (Nat.zero_le _) dX4_judge_33
  · refine g_aload_n (pc' := 21) hE 0 rfl rfl dX4_judge_20 rfl ?_
    refine g_aload_n (pc' := 22) hE 0 rfl rfl dX4_judge_21 rfl ?_
    refine g_aload_n (pc' := 23) hE 1 rfl rfl dX4_judge_22 rfl ?_
    refine g_callV (pc' := 26) (As := [.ref t0]) (rest := [.ref r0]) hE (qX4_typesError l D T r0 (headE (cut b cnt) cnt) its t0 t1 cnt b hc hb (by have := headE_0 hc17; omega)) mX4_typesError kX4_22 iX4_typesError sX4_typesError (by decide) rfl (by decide) 0 rfl rfl [0, 1, 2] rfl (by decide) rfl (Nat.le_of_ble_eq_true rfl) dX4_judge_23 rfl (gBackU [0, 1, 2] rfl (fun v w1 h => by obtain ⟨_, _, _, _, rfl, _⟩ := h; simp only [List.map_cons, List.map_nil]) ?_)
    rintro _ _ ⟨e, sd, it, rfl, rfl, hsc⟩
    refine g_w (ws' := [(r0, .inr (3, [.int (nI (headE (cut b cnt) cnt)), .int (nI sd), .int (nI it)])), (t0, .inr (4, [.int (nI 8192), .ref t1, .int (nI cnt)])), (t1, .inl (T 1, ((8192 + 7) / 8), .inr (.inl (pack b))))]) rfl ?_
    refine g_st (st' := [.int (nI e), .ref r0]) rfl ?_
    refine g_put (pc' := 29) hE gcX4 0 rfl 0 [(r0, .inr (3, [.int (nI e), .int (nI sd), .int (nI it)])), (t0, .inr (4, [.int (nI 8192), .ref t1, .int (nI cnt)])), (t1, .inl (T 1, ((8192 + 7) / 8), .inr (.inl (pack b))))] (by decide) (Nat.le_of_ble_eq_true rfl) rfl rfl rfl rfl kX4_9 dX4_judge_26 rfl ?_
    refine g_aload_n (pc' := 30) hE 0 rfl rfl dX4_judge_29 rfl ?_
    refine g_get (pc' := 33) hE gcX4 0 rfl 0 (by decide) rfl kX4_9 dX4_judge_30 rfl ?_
    exact hE.iret (⟨_, _, _, rfl, rfl, by first | exact Or.inr ⟨hc17, hsc⟩ | exact Or.inl ⟨hc17, rfl, rfl⟩⟩) (Nat.zero_le _) (Nat.zero_le _) dX4_judge_33

set_option maxHeartbeats 4000000 in
set_option maxRecDepth 100000 in
theorem qX4_error (l : Launch) (D : va_G) (T : Nat → ClassId) (r0 er sd its : Nat)  : Con l D T yX4_error cX4_error 1 (some .int) 0 0 0 [.ref r0] [(r0, .inr (3, [.int (nI er), .int (nI sd), .int (nI its)]))] (fun v w1 => w1 = [(r0, .inr (3, [.int (nI er), .int (nI sd), .int (nI its)]))] ∧ v = some (.int (nI er))) := by
  refine Con.of (by decide) (Nat.le_of_ble_eq_true rfl) ?_
  intro E hE
  refine g_lv (lv' := [(0, .ref r0)]) [0] rfl ?_
  refine g_aload_n (pc' := 1) hE 0 rfl rfl dX4_error_0 rfl ?_
  refine g_get (pc' := 4) hE gcX4 0 rfl 0 (by decide) rfl kX4_9 dX4_error_1 rfl ?_
  exact hE.iret (⟨rfl, rfl⟩) (Nat.zero_le _) (Nat.zero_le _) dX4_error_4

set_option maxHeartbeats 4000000 in
set_option maxRecDepth 100000 in
theorem qX4_stood (l : Launch) (D : va_G) (T : Nat → ClassId) (r0 er sd its : Nat)  : Con l D T yX4_stood cX4_stood 1 (some .int) 0 0 0 [.ref r0] [(r0, .inr (3, [.int (nI er), .int (nI sd), .int (nI its)]))] (fun v w1 => w1 = [(r0, .inr (3, [.int (nI er), .int (nI sd), .int (nI its)]))] ∧ v = some (.int (nI sd))) := by
  refine Con.of (by decide) (Nat.le_of_ble_eq_true rfl) ?_
  intro E hE
  refine g_lv (lv' := [(0, .ref r0)]) [0] rfl ?_
  refine g_aload_n (pc' := 1) hE 0 rfl rfl dX4_stood_0 rfl ?_
  refine g_get (pc' := 4) hE gcX4 0 rfl 1 (by decide) rfl kX4_15 dX4_stood_1 rfl ?_
  exact hE.iret (⟨rfl, rfl⟩) (Nat.zero_le _) (Nat.zero_le _) dX4_stood_4
