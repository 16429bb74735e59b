set_option maxHeartbeats 4000000 in
set_option maxRecDepth 100000 in
theorem qX9_references (l : Launch) (D : va_G) (T : Nat → ClassId) (mo r_tape r_output r_draft r_letters r_name r_kind r_vary r_flag r_rest r_more r_one r_two r_begin r_partName r_partType r_partNumber r_nextName r_nextKind r_nextVary r_nextFlag r_nextRest r_nextMore r_nextOne r_nextTwo r_nextBegin r_nextPartName r_nextPartType r_nextPartNumber r_apart r_leader r_number r_way r_seen r_told r_toldAt v_thrown v_taped v_written v_error v_stands v_many v_nextMany v_nextParts v_classes v_stringsAt v_stringsEnd v_drafted v_tolds v_stringsSize : Nat) (f_kind : Nat → Nat) (f_begin : Nat → Nat) (i : Nat) (hi : i ≤ 201) (hk : f_kind i < 32) (hb : f_begin i ≤ f_begin (i + 1)) (hb2 : f_begin (i + 1) ≤ 600) : Con l D T yX9_references cX9_references 3 (some .int) 1 0 0 [.ref mo, .int (nI i)] [(mo, .inr (8, [.int (nI v_thrown), .ref r_tape, .int (nI v_taped), .ref r_output, .ref r_draft, .int (nI v_written), .int (nI v_error), .int (nI v_stands), .int (nI v_many), .ref r_letters, .ref r_name, .ref r_kind, .ref r_vary, .ref r_flag, .ref r_rest, .ref r_more, .ref r_one, .ref r_two, .ref r_begin, .ref r_partName, .ref r_partType, .ref r_partNumber, .int (nI v_nextMany), .int (nI v_nextParts), .ref r_nextName, .ref r_nextKind, .ref r_nextVary, .ref r_nextFlag, .ref r_nextRest, .ref r_nextMore, .ref r_nextOne, .ref r_nextTwo, .ref r_nextBegin, .ref r_nextPartName, .ref r_nextPartType, .ref r_nextPartNumber, .ref r_apart, .ref r_leader, .ref r_number, .int (nI v_classes), .int (nI v_stringsAt), .int (nI v_stringsEnd), .ref r_way, .ref r_seen, .int (nI v_drafted), .ref r_told, .ref r_toldAt, .int (nI v_tolds), .int (nI v_stringsSize)])), (r_kind, .inl (T 0, 202, .inl (fun z9 => nI (f_kind z9)))), (r_begin, .inl (T 0, 203, .inl (fun z9 => nI (f_begin z9))))] (fun v w1 => w1 = [(mo, .inr (8, [.int (nI v_thrown), .ref r_tape, .int (nI v_taped), .ref r_output, .ref r_draft, .int (nI v_written), .int (nI v_error), .int (nI v_stands), .int (nI v_many), .ref r_letters, .ref r_name, .ref r_kind, .ref r_vary, .ref r_flag, .ref r_rest, .ref r_more, .ref r_one, .ref r_two, .ref r_begin, .ref r_partName, .ref r_partType, .ref r_partNumber, .int (nI v_nextMany), .int (nI v_nextParts), .ref r_nextName, .ref r_nextKind, .ref r_nextVary, .ref r_nextFlag, .ref r_nextRest, .ref r_nextMore, .ref r_nextOne, .ref r_nextTwo, .ref r_nextBegin, .ref r_nextPartName, .ref r_nextPartType, .ref r_nextPartNumber, .ref r_apart, .ref r_leader, .ref r_number, .int (nI v_classes), .int (nI v_stringsAt), .int (nI v_stringsEnd), .ref r_way, .ref r_seen, .int (nI v_drafted), .ref r_told, .ref r_toldAt, .int (nI v_tolds), .int (nI v_stringsSize)])), (r_kind, .inl (T 0, 202, .inl (fun z9 => nI (f_kind z9)))), (r_begin, .inl (T 0, 203, .inl (fun z9 => nI (f_begin z9))))] ∧ v = some (.int (nI (mref f_kind f_begin i)))) := by
  refine Con.of (by decide) (Nat.le_of_ble_eq_true rfl) ?_
  intro E hE
  refine g_lv (lv' := [(0, .ref mo), (1, .int (nI i))]) [0, 1] rfl ?_
  refine g_aload_n (pc' := 1) hE 0 rfl rfl dX9_references_0 rfl ?_
  refine g_get (pc' := 4) hE gcX9 0 rfl 18 (by decide) rfl kX9_47 dX9_references_1 rfl ?_
  refine g_iload_n (pc' := 5) hE 1 rfl rfl dX9_references_4 rfl ?_
  refine g_iconst (pc' := 6) hE (nI 1) (by decide) dX9_references_5 rfl ?_
  refine g_iadd (pc' := 7) hE dX9_references_6 rfl ?_
  refine g_eqi (show _ = nI (i + 1) from nI_add _ _) ?_
  refine g_iald (pc' := 8) hE 2 rfl (by omega) (by omega) dX9_references_7 rfl ?_
  refine g_aload_n (pc' := 9) hE 0 rfl rfl dX9_references_8 rfl ?_
  refine g_get (pc' := 12) hE gcX9 0 rfl 18 (by decide) rfl kX9_47 dX9_references_9 rfl ?_
  refine g_iload_n (pc' := 13) hE 1 rfl rfl dX9_references_12 rfl ?_
  refine g_iald (pc' := 14) hE 2 rfl (by omega) (by omega) dX9_references_13 rfl ?_
  refine g_isub (pc' := 15) hE dX9_references_14 rfl ?_
  refine g_eqi (show _ = nI (f_begin (i + 1) - (f_begin i)) from pk_sub (by omega)) ?_
  refine g_istore_n (pc' := 16) hE [(2, .int (nI (f_begin (i + 1) - (f_begin i)))), (0, .ref mo), (1, .int (nI i))] dX9_references_15 rfl rfl (by decide) rfl ?_
  refine g_aload_n (pc' := 17) hE 1 rfl rfl dX9_references_16 rfl ?_
  refine g_get (pc' := 20) hE gcX9 0 rfl 11 (by decide) rfl kX9_25 dX9_references_17 rfl ?_
  refine g_iload_n (pc' := 21) hE 2 rfl rfl dX9_references_20 rfl ?_
  refine g_iald (pc' := 22) hE 1 rfl (by omega) (by omega) dX9_references_21 rfl ?_
  refine g_iconst (pc' := 23) hE (nI 3) (by decide) dX9_references_22 rfl ?_
  refine g_icmpN_ne (pc' := 26) (tgt := 28) hE (by omega) (by omega) dX9_references_23 rfl rfl (fun hc23 => ?_) (fun hc23 => ?_)
  · refine g_aload_n (pc' := 29) hE 1 rfl rfl dX9_references_28 rfl ?_
    refine g_get (pc' := 32) hE gcX9 0 rfl 11 (by decide) rfl kX9_25 dX9_references_29 rfl ?_
    refine g_iload_n (pc' := 33) hE 2 rfl rfl dX9_references_32 rfl ?_
    refine g_iald (pc' := 34) hE 1 rfl (by omega) (by omega) dX9_references_33 rfl ?_
    refine g_iconst (pc' := 35) hE (nI 4) (by decide) dX9_references_34 rfl ?_
    refine g_icmpN_eq (pc' := 38) (tgt := 48) hE (by omega) (by omega) dX9_references_35 rfl rfl (fun hc35 => ?_) (fun hc35 => ?_)
    · refine g_iload_n (pc' := 49) hE 0 rfl rfl dX9_references_48 rfl ?_
      exact hE.iret (⟨rfl, by unfold mref; repeat (first | rfl | rw [if_pos (by omega)] | rw [if_neg (by omega)] | rw [hc74, if_pos rfl] | (rw [hc74]; rfl))⟩) (Nat.zero_le _) (Nat.zero_le _) dX9_references_49
    · refine g_aload_n (pc' := 39) hE 1 rfl rfl dX9_references_38 rfl ?_
      refine g_get (pc' := 42) hE gcX9 0 rfl 11 (by decide) rfl kX9_25 dX9_references_39 rfl ?_
      refine g_iload_n (pc' := 43) hE 2 rfl rfl dX9_references_42 rfl ?_
      refine g_iald (pc' := 44) hE 1 rfl (by omega) (by omega) dX9_references_43 rfl ?_
      refine g_iconst (pc' := 45) hE (nI 5) (by decide) dX9_references_44 rfl ?_
      refine g_icmpN_ne (pc' := 48) (tgt := 50) hE (by omega) (by omega) dX9_references_45 rfl rfl (fun hc45 => ?_) (fun hc45 => ?_)
      · refine g_aload_n (pc' := 51) hE 1 rfl rfl dX9_references_50 rfl ?_
        refine g_get (pc' := 54) hE gcX9 0 rfl 11 (by decide) rfl kX9_25 dX9_references_51 rfl ?_
        refine g_iload_n (pc' := 55) hE 2 rfl rfl dX9_references_54 rfl ?_
        refine g_iald (pc' := 56) hE 1 rfl (by omega) (by omega) dX9_references_55 rfl ?_
        refine g_bipush (pc' := 58) hE (nI 13) (by decide) dX9_references_56 rfl ?_
        refine g_icmpN_ne (pc' := 61) (tgt := 65) hE (by omega) (by omega) dX9_references_58 rfl rfl (fun hc58 => ?_) (fun hc58 => ?_)
        · refine g_aload_n (pc' := 66) hE 1 rfl rfl dX9_references_65 rfl ?_
          refine g_get (pc' := 69) hE gcX9 0 rfl 11 (by decide) rfl kX9_25 dX9_references_66 rfl ?_
          refine g_iload_n (pc' := 70) hE 2 rfl rfl dX9_references_69 rfl ?_
          refine g_iald (pc' := 71) hE 1 rfl (by omega) (by omega) dX9_references_70 rfl ?_
          refine g_callS (pc' := 74) (As := [.int (nI (f_kind i))]) (rest := []) hE (qX9_tellsRest l D T (f_kind i) (by omega)) mX9_tellsRest kX9_190 iX9_tellsRest (by decide) rfl (by decide) [] rfl (by decide) rfl (Nat.le_of_ble_eq_true rfl) dX9_references_71 rfl (gBackR [] rfl ?_)
          rintro _ rfl
          refine g_st (st' := [.int (bI (trB (f_kind i)))]) rfl ?_
          refine g_ifB_eq (pc' := 77) (tgt := 81) hE dX9_references_74 rfl rfl (fun hc74 => ?_) (fun hc74 => ?_)
          · refine g_iconst (pc' := 82) hE (nI 0) (by decide) dX9_references_81 rfl ?_
            exact hE.iret (⟨rfl, by unfold mref; repeat (first | rfl | rw [if_pos (by omega)] | rw [if_neg (by omega)] | rw [hc74, if_pos rfl] | (rw [hc74]; rfl))⟩) (Nat.zero_le _) (Nat.zero_le _) dX9_references_82
          · refine g_iconst (pc' := 78) hE (nI 1) (by decide) dX9_references_77 rfl ?_
            refine g_goto (tgt := 82) hE dX9_references_78 rfl ?_
            exact hE.iret (⟨rfl, by unfold mref; repeat (first | rfl | rw [if_pos (by omega)] | rw [if_neg (by omega)] | rw [hc74, if_pos rfl] | (rw [hc74]; rfl))⟩) (Nat.zero_le _) (Nat.zero_le _) dX9_references_82
        · refine g_iconst (pc' := 62) hE (nI 1) (by decide) dX9_references_61 rfl ?_
          refine g_iload_n (pc' := 63) hE 0 rfl rfl dX9_references_62 rfl ?_
          refine g_iadd (pc' := 64) hE dX9_references_63 rfl ?_
          refine g_eqi (show _ = nI (1 + (f_begin (i + 1) - (f_begin i))) from nI_add _ _) ?_
          exact hE.iret (⟨rfl, by unfold mref; repeat (first | rfl | rw [if_pos (by omega)] | rw [if_neg (by omega)] | rw [hc74, if_pos rfl] | (rw [hc74]; rfl))⟩) (Nat.zero_le _) (Nat.zero_le _) dX9_references_64
      · refine g_iload_n (pc' := 49) hE 0 rfl rfl dX9_references_48 rfl ?_
        exact hE.iret (⟨rfl, by unfold mref; repeat (first | rfl | rw [if_pos (by omega)] | rw [if_neg (by omega)] | rw [hc74, if_pos rfl] | (rw [hc74]; rfl))⟩) (Nat.zero_le _) (Nat.zero_le _) dX9_references_49
  · refine g_iconst (pc' := 27) hE (nI 2) (by decide) dX9_references_26 rfl ?_
    exact hE.iret (⟨rfl, by unfold mref; repeat (first | rfl | rw [if_pos (by omega)] | rw [if_neg (by omega)] | rw [hc74, if_pos rfl] | (rw [hc74]; rfl))⟩) (Nat.zero_le _) (Nat.zero_le _) dX9_references_27

set_option maxHeartbeats 4000000 in
set_option maxRecDepth 100000 in
theorem qX9_refer (l : Launch) (D : va_G) (T : Nat → ClassId) (mo r_tape r_output r_draft r_letters r_name r_kind r_vary r_flag r_rest r_more r_one r_two r_begin r_partName r_partType r_partNumber r_nextName r_nextKind r_nextVary r_nextFlag r_nextRest r_nextMore r_nextOne r_nextTwo r_nextBegin r_nextPartName r_nextPartType r_nextPartNumber r_apart r_leader r_number r_way r_seen r_told r_toldAt v_thrown v_taped v_written v_error v_stands v_many v_nextMany v_nextParts v_classes v_stringsAt v_stringsEnd v_drafted v_tolds v_stringsSize : Nat) (f_kind : Nat → Nat) (f_one : Nat → Nat) (f_two : Nat → Nat) (f_begin : Nat → Nat) (f_rest : Nat → Nat) (f_partType : Nat → Nat) (i j : Nat) (hi : i ≤ 201) (hk : f_kind i < 32) (hb : f_begin i + j ≤ 600) : Con l D T yX9_refer cX9_refer 3 (some .int) 0 0 0 [.ref mo, .int (nI i), .int (nI j)] [(mo, .inr (8, [.int (nI v_thrown), .ref r_tape, .int (nI v_taped), .ref r_output, .ref r_draft, .int (nI v_written), .int (nI v_error), .int (nI v_stands), .int (nI v_many), .ref r_letters, .ref r_name, .ref r_kind, .ref r_vary, .ref r_flag, .ref r_rest, .ref r_more, .ref r_one, .ref r_two, .ref r_begin, .ref r_partName, .ref r_partType, .ref r_partNumber, .int (nI v_nextMany), .int (nI v_nextParts), .ref r_nextName, .ref r_nextKind, .ref r_nextVary, .ref r_nextFlag, .ref r_nextRest, .ref r_nextMore, .ref r_nextOne, .ref r_nextTwo, .ref r_nextBegin, .ref r_nextPartName, .ref r_nextPartType, .ref r_nextPartNumber, .ref r_apart, .ref r_leader, .ref r_number, .int (nI v_classes), .int (nI v_stringsAt), .int (nI v_stringsEnd), .ref r_way, .ref r_seen, .int (nI v_drafted), .ref r_told, .ref r_toldAt, .int (nI v_tolds), .int (nI v_stringsSize)])), (r_kind, .inl (T 0, 202, .inl (fun z9 => nI (f_kind z9)))), (r_one, .inl (T 1, 202, .inr (.inl (fun z9 => lN (f_one z9))))), (r_two, .inl (T 1, 202, .inr (.inl (fun z9 => lN (f_two z9))))), (r_begin, .inl (T 0, 203, .inl (fun z9 => nI (f_begin z9)))), (r_rest, .inl (T 1, 202, .inr (.inl (fun z9 => lN (f_rest z9))))), (r_partType, .inl (T 1, 601, .inr (.inl (fun z9 => lN (f_partType z9)))))] (fun v w1 => w1 = [(mo, .inr (8, [.int (nI v_thrown), .ref r_tape, .int (nI v_taped), .ref r_output, .ref r_draft, .int (nI v_written), .int (nI v_error), .int (nI v_stands), .int (nI v_many), .ref r_letters, .ref r_name, .ref r_kind, .ref r_vary, .ref r_flag, .ref r_rest, .ref r_more, .ref r_one, .ref r_two, .ref r_begin, .ref r_partName, .ref r_partType, .ref r_partNumber, .int (nI v_nextMany), .int (nI v_nextParts), .ref r_nextName, .ref r_nextKind, .ref r_nextVary, .ref r_nextFlag, .ref r_nextRest, .ref r_nextMore, .ref r_nextOne, .ref r_nextTwo, .ref r_nextBegin, .ref r_nextPartName, .ref r_nextPartType, .ref r_nextPartNumber, .ref r_apart, .ref r_leader, .ref r_number, .int (nI v_classes), .int (nI v_stringsAt), .int (nI v_stringsEnd), .ref r_way, .ref r_seen, .int (nI v_drafted), .ref r_told, .ref r_toldAt, .int (nI v_tolds), .int (nI v_stringsSize)])), (r_kind, .inl (T 0, 202, .inl (fun z9 => nI (f_kind z9)))), (r_one, .inl (T 1, 202, .inr (.inl (fun z9 => lN (f_one z9))))), (r_two, .inl (T 1, 202, .inr (.inl (fun z9 => lN (f_two z9))))), (r_begin, .inl (T 0, 203, .inl (fun z9 => nI (f_begin z9)))), (r_rest, .inl (T 1, 202, .inr (.inl (fun z9 => lN (f_rest z9))))), (r_partType, .inl (T 1, 601, .inr (.inl (fun z9 => lN (f_partType z9)))))] ∧ v = some (.int (nI (mrf f_kind f_begin f_one f_two f_rest f_partType i j)))) := by
  refine Con.of (by decide) (Nat.le_of_ble_eq_true rfl) ?_
  intro E hE
  refine g_lv (lv' := [(0, .ref mo), (1, .int (nI i)), (2, .int (nI j))]) [0, 1, 2] rfl ?_
  refine g_aload_n (pc' := 1) hE 0 rfl rfl dX9_refer_0 rfl ?_
  refine g_get (pc' := 4) hE gcX9 0 rfl 11 (by decide) rfl kX9_25 dX9_refer_1 rfl ?_
  refine g_iload_n (pc' := 5) hE 1 rfl rfl dX9_refer_4 rfl ?_
  refine g_iald (pc' := 6) hE 1 rfl (by omega) (by omega) dX9_refer_5 rfl ?_
  refine g_iconst (pc' := 7) hE (nI 3) (by decide) dX9_refer_6 rfl ?_
  refine g_icmpN_ne (pc' := 10) (tgt := 31) hE (by omega) (by omega) dX9_refer_7 rfl rfl (fun hc7 => ?_) (fun hc7 => ?_)
  · refine g_aload_n (pc' := 32) hE 0 rfl rfl dX9_refer_31 rfl ?_
    refine g_get (pc' := 35) hE gcX9 0 rfl 11 (by decide) rfl kX9_25 dX9_refer_32 rfl ?_
    refine g_iload_n (pc' := 36) hE 1 rfl rfl dX9_refer_35 rfl ?_
    refine g_iald (pc' := 37) hE 1 rfl (by omega) (by omega) dX9_refer_36 rfl ?_
    refine g_iconst (pc' := 38) hE (nI 4) (by decide) dX9_refer_37 rfl ?_
    refine g_icmpN_eq (pc' := 41) (tgt := 51) hE (by omega) (by omega) dX9_refer_38 rfl rfl (fun hc38 => ?_) (fun hc38 => ?_)
    · refine g_aload_n (pc' := 52) hE 0 rfl rfl dX9_refer_51 rfl ?_
      refine g_get (pc' := 55) hE gcX9 0 rfl 20 (by decide) rfl kX9_53 dX9_refer_52 rfl ?_
      refine g_aload_n (pc' := 56) hE 0 rfl rfl dX9_refer_55 rfl ?_
      refine g_get (pc' := 59) hE gcX9 0 rfl 18 (by decide) rfl kX9_47 dX9_refer_56 rfl ?_
      refine g_iload_n (pc' := 60) hE 1 rfl rfl dX9_refer_59 rfl ?_
      refine g_iald (pc' := 61) hE 4 rfl (by omega) (by omega) dX9_refer_60 rfl ?_
      refine g_iload_n (pc' := 62) hE 2 rfl rfl dX9_refer_61 rfl ?_
      refine g_iadd (pc' := 63) hE dX9_refer_62 rfl ?_
      refine g_eqi (show _ = nI (f_begin i + j) from nI_add _ _) ?_
      refine g_lald (pc' := 64) hE 6 rfl (by omega) (by omega) dX9_refer_63 rfl ?_
      refine g_l2i (pc' := 65) hE (nI (f_partType (f_begin i + j))) (lN_i _) dX9_refer_64 rfl ?_
      exact hE.iret (⟨rfl, by unfold mrf; repeat (first | rfl | rw [if_pos (by omega)] | rw [if_neg (by omega)])⟩) (Nat.zero_le _) (Nat.zero_le _) dX9_refer_65
    · refine g_aload_n (pc' := 42) hE 0 rfl rfl dX9_refer_41 rfl ?_
      refine g_get (pc' := 45) hE gcX9 0 rfl 11 (by decide) rfl kX9_25 dX9_refer_42 rfl ?_
      refine g_iload_n (pc' := 46) hE 1 rfl rfl dX9_refer_45 rfl ?_
      refine g_iald (pc' := 47) hE 1 rfl (by omega) (by omega) dX9_refer_46 rfl ?_
      refine g_iconst (pc' := 48) hE (nI 5) (by decide) dX9_refer_47 rfl ?_
      refine g_icmpN_ne (pc' := 51) (tgt := 66) hE (by omega) (by omega) dX9_refer_48 rfl rfl (fun hc48 => ?_) (fun hc48 => ?_)
      · refine g_iload_n (pc' := 67) hE 2 rfl rfl dX9_refer_66 rfl ?_
        refine g_ifN_ne (pc' := 70) (tgt := 79) hE (by omega) dX9_refer_67 rfl rfl (fun hc67 => ?_) (fun hc67 => ?_)
        · refine g_aload_n (pc' := 80) hE 0 rfl rfl dX9_refer_79 rfl ?_
          refine g_get (pc' := 83) hE gcX9 0 rfl 20 (by decide) rfl kX9_53 dX9_refer_80 rfl ?_
          refine g_aload_n (pc' := 84) hE 0 rfl rfl dX9_refer_83 rfl ?_
          refine g_get (pc' := 87) hE gcX9 0 rfl 18 (by decide) rfl kX9_47 dX9_refer_84 rfl ?_
          refine g_iload_n (pc' := 88) hE 1 rfl rfl dX9_refer_87 rfl ?_
          refine g_iald (pc' := 89) hE 4 rfl (by omega) (by omega) dX9_refer_88 rfl ?_
          refine g_iload_n (pc' := 90) hE 2 rfl rfl dX9_refer_89 rfl ?_
          refine g_iadd (pc' := 91) hE dX9_refer_90 rfl ?_
          refine g_eqi (show _ = nI (f_begin i + j) from nI_add _ _) ?_
          refine g_iconst (pc' := 92) hE (nI 1) (by decide) dX9_refer_91 rfl ?_
          refine g_isub (pc' := 93) hE dX9_refer_92 rfl ?_
          refine g_eqi (show _ = nI (f_begin i + j - 1) from pk_sub (by omega)) ?_
          refine g_lald (pc' := 94) hE 6 rfl (by omega) (by omega) dX9_refer_93 rfl ?_
          refine g_l2i (pc' := 95) hE (nI (f_partType (f_begin i + j - 1))) (lN_i _) dX9_refer_94 rfl ?_
          exact hE.iret (⟨rfl, by unfold mrf; repeat (first | rfl | rw [if_pos (by omega)] | rw [if_neg (by omega)])⟩) (Nat.zero_le _) (Nat.zero_le _) dX9_refer_95
        · refine g_aload_n (pc' := 71) hE 0 rfl rfl dX9_refer_70 rfl ?_
          refine g_get (pc' := 74) hE gcX9 0 rfl 14 (by decide) rfl kX9_34 dX9_refer_71 rfl ?_
          refine g_iload_n (pc' := 75) hE 1 rfl rfl dX9_refer_74 rfl ?_
          refine g_lald (pc' := 76) hE 5 rfl (by omega) (by omega) dX9_refer_75 rfl ?_
          refine g_goto (tgt := 94) hE dX9_refer_76 rfl ?_
          refine g_l2i (pc' := 95) hE (nI (f_rest i)) (lN_i _) dX9_refer_94 rfl ?_
          exact hE.iret (⟨rfl, by unfold mrf; repeat (first | rfl | rw [if_pos (by omega)] | rw [if_neg (by omega)])⟩) (Nat.zero_le _) (Nat.zero_le _) dX9_refer_95
      · refine g_aload_n (pc' := 52) hE 0 rfl rfl dX9_refer_51 rfl ?_
        refine g_get (pc' := 55) hE gcX9 0 rfl 20 (by decide) rfl kX9_53 dX9_refer_52 rfl ?_
        refine g_aload_n (pc' := 56) hE 0 rfl rfl dX9_refer_55 rfl ?_
        refine g_get (pc' := 59) hE gcX9 0 rfl 18 (by decide) rfl kX9_47 dX9_refer_56 rfl ?_
        refine g_iload_n (pc' := 60) hE 1 rfl rfl dX9_refer_59 rfl ?_
        refine g_iald (pc' := 61) hE 4 rfl (by omega) (by omega) dX9_refer_60 rfl ?_
        refine g_iload_n (pc' := 62) hE 2 rfl rfl dX9_refer_61 rfl ?_
        refine g_iadd (pc' := 63) hE dX9_refer_62 rfl ?_
        refine g_eqi (show _ = nI (f_begin i + j) from nI_add _ _) ?_
        refine g_lald (pc' := 64) hE 6 rfl (by omega) (by omega) dX9_refer_63 rfl ?_
        refine g_l2i (pc' := 65) hE (nI (f_partType (f_begin i + j))) (lN_i _) dX9_refer_64 rfl ?_
        exact hE.iret (⟨rfl, by unfold mrf; repeat (first | rfl | rw [if_pos (by omega)] | rw [if_neg (by omega)])⟩) (Nat.zero_le _) (Nat.zero_le _) dX9_refer_65
  · refine g_iload_n (pc' := 11) hE 2 rfl rfl dX9_refer_10 rfl ?_
    refine g_ifN_ne (pc' := 14) (tgt := 23) hE (by omega) dX9_refer_11 rfl rfl (fun hc11 => ?_) (fun hc11 => ?_)
    · refine g_aload_n (pc' := 24) hE 0 rfl rfl dX9_refer_23 rfl ?_
      refine g_get (pc' := 27) hE gcX9 0 rfl 17 (by decide) rfl kX9_44 dX9_refer_24 rfl ?_
      refine g_iload_n (pc' := 28) hE 1 rfl rfl dX9_refer_27 rfl ?_
      refine g_lald (pc' := 29) hE 3 rfl (by omega) (by omega) dX9_refer_28 rfl ?_
      refine g_l2i (pc' := 30) hE (nI (f_two i)) (lN_i _) dX9_refer_29 rfl ?_
      exact hE.iret (⟨rfl, by unfold mrf; repeat (first | rfl | rw [if_pos (by omega)] | rw [if_neg (by omega)])⟩) (Nat.zero_le _) (Nat.zero_le _) dX9_refer_30
    · refine g_aload_n (pc' := 15) hE 0 rfl rfl dX9_refer_14 rfl ?_
      refine g_get (pc' := 18) hE gcX9 0 rfl 16 (by decide) rfl kX9_41 dX9_refer_15 rfl ?_
      refine g_iload_n (pc' := 19) hE 1 rfl rfl dX9_refer_18 rfl ?_
      refine g_lald (pc' := 20) hE 2 rfl (by omega) (by omega) dX9_refer_19 rfl ?_
      refine g_goto (tgt := 29) hE dX9_refer_20 rfl ?_
      refine g_l2i (pc' := 30) hE (nI (f_one i)) (lN_i _) dX9_refer_29 rfl ?_
      exact hE.iret (⟨rfl, by unfold mrf; repeat (first | rfl | rw [if_pos (by omega)] | rw [if_neg (by omega)])⟩) (Nat.zero_le _) (Nat.zero_le _) dX9_refer_30

set_option maxHeartbeats 4000000 in
set_option maxRecDepth 100000 in
theorem qX9_areNames (l : Launch) (D : va_G) (T : Nat → ClassId) (mo r_tape r_output r_draft r_letters r_name r_kind r_vary r_flag r_rest r_more r_one r_two r_begin r_partName r_partType r_partNumber r_nextName r_nextKind r_nextVary r_nextFlag r_nextRest r_nextMore r_nextOne r_nextTwo r_nextBegin r_nextPartName r_nextPartType r_nextPartNumber r_apart r_leader r_number r_way r_seen r_told r_toldAt v_thrown v_taped v_written v_error v_stands v_many v_nextMany v_nextParts v_classes v_stringsAt v_stringsEnd v_drafted v_tolds v_stringsSize : Nat) (f_letters : Nat → Nat) (v_S a b : Nat) (hb : ∀ i, f_letters i < 256) (hS : v_S ≤ 8192) (h0 : f_letters (v_S - 1) = 0) (ha : a < v_S) (hb9 : b < v_S) (hz : ∀ j, v_S ≤ j → j < 20000 → f_letters j < 256) : Con l D T yX9_areNames cX9_areNames 4 (some .boolean) 0 0 0 [.ref mo, .int (nI a), .int (nI b)] [(mo, .inr (8, [.int (nI v_thrown), .ref r_tape, .int (nI v_taped), .ref r_output, .ref r_draft, .int (nI v_written), .int (nI v_error), .int (nI v_stands), .int (nI v_many), .ref r_letters, .ref r_name, .ref r_kind, .ref r_vary, .ref r_flag, .ref r_rest, .ref r_more, .ref r_one, .ref r_two, .ref r_begin, .ref r_partName, .ref r_partType, .ref r_partNumber, .int (nI v_nextMany), .int (nI v_nextParts), .ref r_nextName, .ref r_nextKind, .ref r_nextVary, .ref r_nextFlag, .ref r_nextRest, .ref r_nextMore, .ref r_nextOne, .ref r_nextTwo, .ref r_nextBegin, .ref r_nextPartName, .ref r_nextPartType, .ref r_nextPartNumber, .ref r_apart, .ref r_leader, .ref r_number, .int (nI v_classes), .int (nI v_stringsAt), .int (nI v_stringsEnd), .ref r_way, .ref r_seen, .int (nI v_drafted), .ref r_told, .ref r_toldAt, .int (nI v_tolds), .int (nI v_stringsSize)])), (r_letters, .inl (T 0, 8192, .inl (fun z9 => nI (f_letters z9))))] (fun v w1 => w1 = [(mo, .inr (8, [.int (nI v_thrown), .ref r_tape, .int (nI v_taped), .ref r_output, .ref r_draft, .int (nI v_written), .int (nI v_error), .int (nI v_stands), .int (nI v_many), .ref r_letters, .ref r_name, .ref r_kind, .ref r_vary, .ref r_flag, .ref r_rest, .ref r_more, .ref r_one, .ref r_two, .ref r_begin, .ref r_partName, .ref r_partType, .ref r_partNumber, .int (nI v_nextMany), .int (nI v_nextParts), .ref r_nextName, .ref r_nextKind, .ref r_nextVary, .ref r_nextFlag, .ref r_nextRest, .ref r_nextMore, .ref r_nextOne, .ref r_nextTwo, .ref r_nextBegin, .ref r_nextPartName, .ref r_nextPartType, .ref r_nextPartNumber, .ref r_apart, .ref r_leader, .ref r_number, .int (nI v_classes), .int (nI v_stringsAt), .int (nI v_stringsEnd), .ref r_way, .ref r_seen, .int (nI v_drafted), .ref r_told, .ref r_toldAt, .int (nI v_tolds), .int (nI v_stringsSize)])), (r_letters, .inl (T 0, 8192, .inl (fun z9 => nI (f_letters z9))))] ∧ ∃ z : Bool, v = some (.int (bI z)) ∧ (z = true ↔ seqn f_letters a b)) := by
  refine Con.of (by decide) (Nat.le_of_ble_eq_true rfl) ?_
  intro E hE
  have hA := lfr_spec (t := f_letters) (n := v_S - 1 - a) (s := a) (by omega) (by rw [show a + (v_S - 1 - a) = v_S - 1 by omega]; exact h0)
  have hB := lfr_spec (t := f_letters) (n := v_S - 1 - b) (s := b) (by omega) (by rw [show b + (v_S - 1 - b) = v_S - 1 by omega]; exact h0)
  refine g_lv (lv' := [(0, .ref mo), (1, .int (nI a)), (2, .int (nI b))]) [0, 1, 2] rfl ?_
  refine g_iconst (pc' := 1) hE (nI 0) (by decide) dX9_areNames_0 rfl ?_
  refine g_istore_n (pc' := 2) hE [(3, .int (nI 0)), (0, .ref mo), (1, .int (nI a)), (2, .int (nI b))] dX9_areNames_1 rfl rfl (by decide) rfl ?_
  refine (show ∀ (d2 : Nat) (k : Nat), 9000 - k = d2 → (∀ j, j < k → f_letters (a + j) ≠ 0 ∧ f_letters (a + j) = f_letters (b + j)) → G l E D 4 0 0 [(mo, .inr (8, [.int (nI v_thrown), .ref r_tape, .int (nI v_taped), .ref r_output, .ref r_draft, .int (nI v_written), .int (nI v_error), .int (nI v_stands), .int (nI v_many), .ref r_letters, .ref r_name, .ref r_kind, .ref r_vary, .ref r_flag, .ref r_rest, .ref r_more, .ref r_one, .ref r_two, .ref r_begin, .ref r_partName, .ref r_partType, .ref r_partNumber, .int (nI v_nextMany), .int (nI v_nextParts), .ref r_nextName, .ref r_nextKind, .ref r_nextVary, .ref r_nextFlag, .ref r_nextRest, .ref r_nextMore, .ref r_nextOne, .ref r_nextTwo, .ref r_nextBegin, .ref r_nextPartName, .ref r_nextPartType, .ref r_nextPartNumber, .ref r_apart, .ref r_leader, .ref r_number, .int (nI v_classes), .int (nI v_stringsAt), .int (nI v_stringsEnd), .ref r_way, .ref r_seen, .int (nI v_drafted), .ref r_told, .ref r_toldAt, .int (nI v_tolds), .int (nI v_stringsSize)])), (r_letters, .inl (T 0, 8192, .inl (fun z9 => nI (f_letters z9))))] [(3, .int (nI k)), (0, .ref mo), (1, .int (nI a)), (2, .int (nI b))] 2 [] from ?_) _ 0 rfl (fun j hj => absurd hj (by omega))
  intro d2
  induction d2 using Nat.strongRecOn with
  | _ d2 ih2 =>
  intro k hd2 hall
  have hkA : k ≤ lfr f_letters a := Nat.le_of_not_lt fun z => (hall _ z).1 hA.2.2
  have hkB : k ≤ lfr f_letters b := Nat.le_of_not_lt fun z => by have y := hall _ z; rw [y.2] at y; exact y.1 hB.2.2
  have hbA := hb (a + k)
  have hbB := hb (b + k)
  refine g_aload_n (pc' := 3) hE 1 rfl rfl dX9_areNames_2 rfl ?_
  refine g_get (pc' := 6) hE gcX9 0 rfl 9 (by decide) rfl kX9_19 dX9_areNames_3 rfl ?_
  refine g_iload_n (pc' := 7) hE 2 rfl rfl dX9_areNames_6 rfl ?_
  refine g_iload_n (pc' := 8) hE 0 rfl rfl dX9_areNames_7 rfl ?_
  refine g_iadd (pc' := 9) hE dX9_areNames_8 rfl ?_
  refine g_eqi (show _ = nI (a + k) from nI_add _ _) ?_
  refine g_iald (pc' := 10) hE 1 rfl (by omega) (by omega) dX9_areNames_9 rfl ?_
  refine g_ifN_eq (pc' := 13) (tgt := 38) hE (by omega) dX9_areNames_10 rfl rfl (fun hc10 => ?_) (fun hc10 => ?_)
  · refine g_aload_n (pc' := 39) hE 1 rfl rfl dX9_areNames_38 rfl ?_
    refine g_get (pc' := 42) hE gcX9 0 rfl 9 (by decide) rfl kX9_19 dX9_areNames_39 rfl ?_
    refine g_iload_n (pc' := 43) hE 2 rfl rfl dX9_areNames_42 rfl ?_
    refine g_iload_n (pc' := 44) hE 0 rfl rfl dX9_areNames_43 rfl ?_
    refine g_iadd (pc' := 45) hE dX9_areNames_44 rfl ?_
    refine g_eqi (show _ = nI (a + k) from nI_add _ _) ?_
    refine g_iald (pc' := 46) hE 1 rfl (by omega) (by omega) dX9_areNames_45 rfl ?_
    refine g_aload_n (pc' := 47) hE 1 rfl rfl dX9_areNames_46 rfl ?_
    refine g_get (pc' := 50) hE gcX9 0 rfl 9 (by decide) rfl kX9_19 dX9_areNames_47 rfl ?_
    refine g_iload_n (pc' := 51) hE 3 rfl rfl dX9_areNames_50 rfl ?_
    refine g_iload_n (pc' := 52) hE 0 rfl rfl dX9_areNames_51 rfl ?_
    refine g_iadd (pc' := 53) hE dX9_areNames_52 rfl ?_
    refine g_eqi (show _ = nI (b + k) from nI_add _ _) ?_
    refine g_iald (pc' := 54) hE 1 rfl (by omega) (by omega) dX9_areNames_53 rfl ?_
    refine g_icmpN_ne (pc' := 57) (tgt := 61) hE (by omega) (by omega) dX9_areNames_54 rfl rfl (fun hc54 => ?_) (fun hc54 => ?_)
    · refine g_iconst (pc' := 62) hE (nI 0) (by decide) dX9_areNames_61 rfl ?_
      exact hE.zret (by first | rfl | exact bI_nar _ | decide) (⟨rfl, false, rfl, ⟨fun y => (by cases y), fun y => absurd y (ne_seqn hall hA hB hc54)⟩⟩) (Nat.zero_le _) (Nat.zero_le _) dX9_areNames_62
    · refine g_iconst (pc' := 58) hE (nI 1) (by decide) dX9_areNames_57 rfl ?_
      refine g_goto (tgt := 62) hE dX9_areNames_58 rfl ?_
      exact hE.zret (by first | rfl | exact bI_nar _ | decide) (⟨rfl, true, rfl, ⟨fun _ => by first | exact seqn_end (by omega) hall hc10 (hc54.symm.trans hc10) | exact absurd hc54 hc29, fun _ => rfl⟩⟩) (Nat.zero_le _) (Nat.zero_le _) dX9_areNames_62
  · refine g_aload_n (pc' := 14) hE 1 rfl rfl dX9_areNames_13 rfl ?_
    refine g_get (pc' := 17) hE gcX9 0 rfl 9 (by decide) rfl kX9_19 dX9_areNames_14 rfl ?_
    refine g_iload_n (pc' := 18) hE 2 rfl rfl dX9_areNames_17 rfl ?_
    refine g_iload_n (pc' := 19) hE 0 rfl rfl dX9_areNames_18 rfl ?_
    refine g_iadd (pc' := 20) hE dX9_areNames_19 rfl ?_
    refine g_eqi (show _ = nI (a + k) from nI_add _ _) ?_
    refine g_iald (pc' := 21) hE 1 rfl (by omega) (by omega) dX9_areNames_20 rfl ?_
    refine g_aload_n (pc' := 22) hE 1 rfl rfl dX9_areNames_21 rfl ?_
    refine g_get (pc' := 25) hE gcX9 0 rfl 9 (by decide) rfl kX9_19 dX9_areNames_22 rfl ?_
    refine g_iload_n (pc' := 26) hE 3 rfl rfl dX9_areNames_25 rfl ?_
    refine g_iload_n (pc' := 27) hE 0 rfl rfl dX9_areNames_26 rfl ?_
    refine g_iadd (pc' := 28) hE dX9_areNames_27 rfl ?_
    refine g_eqi (show _ = nI (b + k) from nI_add _ _) ?_
    refine g_iald (pc' := 29) hE 1 rfl (by omega) (by omega) dX9_areNames_28 rfl ?_
    refine g_icmpN_ne (pc' := 32) (tgt := 38) hE (by omega) (by omega) dX9_areNames_29 rfl rfl (fun hc29 => ?_) (fun hc29 => ?_)
    · refine g_aload_n (pc' := 39) hE 1 rfl rfl dX9_areNames_38 rfl ?_
      refine g_get (pc' := 42) hE gcX9 0 rfl 9 (by decide) rfl kX9_19 dX9_areNames_39 rfl ?_
      refine g_iload_n (pc' := 43) hE 2 rfl rfl dX9_areNames_42 rfl ?_
      refine g_iload_n (pc' := 44) hE 0 rfl rfl dX9_areNames_43 rfl ?_
      refine g_iadd (pc' := 45) hE dX9_areNames_44 rfl ?_
      refine g_eqi (show _ = nI (a + k) from nI_add _ _) ?_
      refine g_iald (pc' := 46) hE 1 rfl (by omega) (by omega) dX9_areNames_45 rfl ?_
      refine g_aload_n (pc' := 47) hE 1 rfl rfl dX9_areNames_46 rfl ?_
      refine g_get (pc' := 50) hE gcX9 0 rfl 9 (by decide) rfl kX9_19 dX9_areNames_47 rfl ?_
      refine g_iload_n (pc' := 51) hE 3 rfl rfl dX9_areNames_50 rfl ?_
      refine g_iload_n (pc' := 52) hE 0 rfl rfl dX9_areNames_51 rfl ?_
      refine g_iadd (pc' := 53) hE dX9_areNames_52 rfl ?_
      refine g_eqi (show _ = nI (b + k) from nI_add _ _) ?_
      refine g_iald (pc' := 54) hE 1 rfl (by omega) (by omega) dX9_areNames_53 rfl ?_
      refine g_icmpN_ne (pc' := 57) (tgt := 61) hE (by omega) (by omega) dX9_areNames_54 rfl rfl (fun hc54 => ?_) (fun hc54 => ?_)
      · refine g_iconst (pc' := 62) hE (nI 0) (by decide) dX9_areNames_61 rfl ?_
        exact hE.zret (by first | rfl | exact bI_nar _ | decide) (⟨rfl, false, rfl, ⟨fun y => (by cases y), fun y => absurd y (ne_seqn hall hA hB hc54)⟩⟩) (Nat.zero_le _) (Nat.zero_le _) dX9_areNames_62
      · refine g_iconst (pc' := 58) hE (nI 1) (by decide) dX9_areNames_57 rfl ?_
        refine g_goto (tgt := 62) hE dX9_areNames_58 rfl ?_
        exact hE.zret (by first | rfl | exact bI_nar _ | decide) (⟨rfl, true, rfl, ⟨fun _ => by first | exact seqn_end (by omega) hall hc10 (hc54.symm.trans hc10) | exact absurd hc54 hc29, fun _ => rfl⟩⟩) (Nat.zero_le _) (Nat.zero_le _) dX9_areNames_62
    · refine g_iinc (pc' := 35) hE (nI (k + 1)) [(3, .int (nI (k + 1))), (0, .ref mo), (1, .int (nI a)), (2, .int (nI b))] 0 rfl dX9_areNames_32 rfl (g_incN _ 1) (by decide) rfl ?_
      refine g_goto (tgt := 2) hE dX9_areNames_35 rfl ?_
      exact ih2 _ (by omega) (k + 1) rfl (lt_s hall ⟨hc10, hc29⟩)

set_option maxHeartbeats 4000000 in
set_option maxRecDepth 100000 in
theorem qX9_folded (l : Launch) (D : va_G) (T : Nat → ClassId) (mo r_tape r_output r_draft r_letters r_name r_kind r_vary r_flag r_rest r_more r_one r_two r_begin r_partName r_partType r_partNumber r_nextName r_nextKind r_nextVary r_nextFlag r_nextRest r_nextMore r_nextOne r_nextTwo r_nextBegin r_nextPartName r_nextPartType r_nextPartNumber r_apart r_leader r_number r_way r_seen r_told r_toldAt v_thrown v_taped v_written v_error v_stands v_many v_nextMany v_nextParts v_classes v_stringsAt v_stringsEnd v_drafted v_tolds v_stringsSize : Nat) (f_number : Nat → Nat) (x : Nat) (hx : x ≤ 201) (hn : f_number x < 2 ^ 31) : Con l D T yX9_folded cX9_folded 3 (some .long) 0 0 0 [.ref mo, .long (lN x)] [(mo, .inr (8, [.int (nI v_thrown), .ref r_tape, .int (nI v_taped), .ref r_output, .ref r_draft, .int (nI v_written), .int (nI v_error), .int (nI v_stands), .int (nI v_many), .ref r_letters, .ref r_name, .ref r_kind, .ref r_vary, .ref r_flag, .ref r_rest, .ref r_more, .ref r_one, .ref r_two, .ref r_begin, .ref r_partName, .ref r_partType, .ref r_partNumber, .int (nI v_nextMany), .int (nI v_nextParts), .ref r_nextName, .ref r_nextKind, .ref r_nextVary, .ref r_nextFlag, .ref r_nextRest, .ref r_nextMore, .ref r_nextOne, .ref r_nextTwo, .ref r_nextBegin, .ref r_nextPartName, .ref r_nextPartType, .ref r_nextPartNumber, .ref r_apart, .ref r_leader, .ref r_number, .int (nI v_classes), .int (nI v_stringsAt), .int (nI v_stringsEnd), .ref r_way, .ref r_seen, .int (nI v_drafted), .ref r_told, .ref r_toldAt, .int (nI v_tolds), .int (nI v_stringsSize)])), (r_number, .inl (T 0, 202, .inl (fun z9 => nI (f_number z9))))] (fun v w1 => w1 = [(mo, .inr (8, [.int (nI v_thrown), .ref r_tape, .int (nI v_taped), .ref r_output, .ref r_draft, .int (nI v_written), .int (nI v_error), .int (nI v_stands), .int (nI v_many), .ref r_letters, .ref r_name, .ref r_kind, .ref r_vary, .ref r_flag, .ref r_rest, .ref r_more, .ref r_one, .ref r_two, .ref r_begin, .ref r_partName, .ref r_partType, .ref r_partNumber, .int (nI v_nextMany), .int (nI v_nextParts), .ref r_nextName, .ref r_nextKind, .ref r_nextVary, .ref r_nextFlag, .ref r_nextRest, .ref r_nextMore, .ref r_nextOne, .ref r_nextTwo, .ref r_nextBegin, .ref r_nextPartName, .ref r_nextPartType, .ref r_nextPartNumber, .ref r_apart, .ref r_leader, .ref r_number, .int (nI v_classes), .int (nI v_stringsAt), .int (nI v_stringsEnd), .ref r_way, .ref r_seen, .int (nI v_drafted), .ref r_told, .ref r_toldAt, .int (nI v_tolds), .int (nI v_stringsSize)])), (r_number, .inl (T 0, 202, .inl (fun z9 => nI (f_number z9))))] ∧ v = some (.long (lN (if x = 0 then 0 else f_number x)))) := by
  refine Con.of (by decide) (Nat.le_of_ble_eq_true rfl) ?_
  intro E hE
  refine g_lv (lv' := [(0, .ref mo), (1, .long (lN x))]) [0, 1] rfl ?_
  refine g_lload_n (pc' := 1) hE 1 rfl rfl dX9_folded_0 rfl ?_
  refine g_lconst (pc' := 2) hE (lN 0) (by decide) dX9_folded_1 rfl ?_
  refine g_lcmp (pc' := 3) hE dX9_folded_2 rfl ?_
  refine g_ifcN_ne (pc' := 6) (tgt := 10) hE (by omega) (by omega) dX9_folded_3 rfl rfl (fun hc3 => ?_) (fun hc3 => ?_)
  · refine g_aload_n (pc' := 11) hE 0 rfl rfl dX9_folded_10 rfl ?_
    refine g_get (pc' := 14) hE gcX9 0 rfl 38 (by decide) rfl kX9_102 dX9_folded_11 rfl ?_
    refine g_lload_n (pc' := 15) hE 1 rfl rfl dX9_folded_14 rfl ?_
    refine g_l2i (pc' := 16) hE (nI x) (lN_i _) dX9_folded_15 rfl ?_
    refine g_iald (pc' := 17) hE 1 rfl (by omega) (by omega) dX9_folded_16 rfl ?_
    refine g_i2l (pc' := 18) hE (lN (f_number x)) (nI_l (by omega)) dX9_folded_17 rfl ?_
    exact hE.lret (⟨rfl, by first | rw [if_pos hc3] | rw [if_neg hc3]⟩) (Nat.zero_le _) (Nat.zero_le _) dX9_folded_18
  · refine g_lconst (pc' := 7) hE (lN 0) (by decide) dX9_folded_6 rfl ?_
    refine g_goto (tgt := 18) hE dX9_folded_7 rfl ?_
    exact hE.lret (⟨rfl, by first | rw [if_pos hc3] | rw [if_neg hc3]⟩) (Nat.zero_le _) (Nat.zero_le _) dX9_folded_18
