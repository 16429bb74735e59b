set_option maxHeartbeats 4000000 in
set_option maxRecDepth 100000 in
theorem qX9_in (l : Launch) (D : va_G) (T : Nat → ClassId) (x y z : Int64)  : Con l D T yX9_in cX9_in 6 (some .boolean) 0 0 0 [.long x, .long y, .long z] [] (fun v w1 => w1 = [] ∧ v = some (.int (bI (inB x y z)))) := by
  refine Con.of (by decide) (Nat.le_of_ble_eq_true rfl) ?_
  intro E hE
  refine g_lv (lv' := [(0, .long x), (2, .long y), (4, .long z)]) [0, 1, 2] rfl ?_
  refine g_lload_n (pc' := 1) hE 0 rfl rfl dX9_in_0 rfl ?_
  refine g_lload_n (pc' := 2) hE 1 rfl rfl dX9_in_1 rfl ?_
  refine g_lcmp (pc' := 3) hE dX9_in_2 rfl ?_
  refine g_if_lt (pc' := 6) (tgt := 17) hE dX9_in_3 rfl rfl (fun hc3 => ?_) (fun hc3 => ?_)
  · rw [lg_lt] at hc3
    refine g_iconst (pc' := 18) hE (nI 0) (by decide) dX9_in_17 rfl ?_
    exact hE.zret (by first | rfl | exact bI_nar _ | decide) (⟨rfl, zf (decide_eq_false (fun w => by first | exact Int64.not_lt.mpr w.1 hc3 | exact Int64.not_lt.mpr w.2 hc10))⟩) (Nat.zero_le _) (Nat.zero_le _) dX9_in_18
  · rw [lg_lt] at hc3
    refine g_lload_n (pc' := 7) hE 0 rfl rfl dX9_in_6 rfl ?_
    refine g_lload (pc' := 9) hE 2 rfl dX9_in_7 rfl ?_
    refine g_lcmp (pc' := 10) hE dX9_in_9 rfl ?_
    refine g_if_gt (pc' := 13) (tgt := 17) hE dX9_in_10 rfl rfl (fun hc10 => ?_) (fun hc10 => ?_)
    · rw [lg_gt] at hc10
      refine g_iconst (pc' := 18) hE (nI 0) (by decide) dX9_in_17 rfl ?_
      exact hE.zret (by first | rfl | exact bI_nar _ | decide) (⟨rfl, zf (decide_eq_false (fun w => by first | exact Int64.not_lt.mpr w.1 hc3 | exact Int64.not_lt.mpr w.2 hc10))⟩) (Nat.zero_le _) (Nat.zero_le _) dX9_in_18
    · rw [lg_gt] at hc10
      refine g_iconst (pc' := 14) hE (nI 1) (by decide) dX9_in_13 rfl ?_
      refine g_goto (tgt := 18) hE dX9_in_14 rfl ?_
      exact hE.zret (by first | rfl | exact bI_nar _ | decide) (⟨rfl, zt (decide_eq_true ⟨Int64.not_lt.mp hc3, Int64.not_lt.mp hc10⟩)⟩) (Nat.zero_le _) (Nat.zero_le _) dX9_in_18

set_option maxHeartbeats 4000000 in
set_option maxRecDepth 100000 in
theorem qX9_behind (l : Launch) (D : va_G) (T : Nat → ClassId) (k u : Nat) (hk : k < 2 ^ 31) (hu : u < 2 ^ 20) : Con l D T yX9_behind cX9_behind 2 (some .int) 0 0 0 [.int (nI k), .int (nI u)] [] (fun v w1 => w1 = [] ∧ v = some (.int (nI (bhd k u)))) := by
  refine Con.of (by decide) (Nat.le_of_ble_eq_true rfl) ?_
  intro E hE
  refine g_lv (lv' := [(0, .int (nI k)), (1, .int (nI u))]) [0, 1] rfl ?_
  refine g_iload_n (pc' := 1) hE 0 rfl rfl dX9_behind_0 rfl ?_
  refine g_iconst (pc' := 2) hE (nI 1) (by decide) dX9_behind_1 rfl ?_
  refine g_icmpN_ne (pc' := 5) (tgt := 7) hE (by omega) (by omega) dX9_behind_2 rfl rfl (fun hc2 => ?_) (fun hc2 => ?_)
  · refine g_iload_n (pc' := 8) hE 0 rfl rfl dX9_behind_7 rfl ?_
    refine g_iconst (pc' := 9) hE (nI 3) (by decide) dX9_behind_8 rfl ?_
    refine g_icmpN_ne (pc' := 12) (tgt := 15) hE (by omega) (by omega) dX9_behind_9 rfl rfl (fun hc9 => ?_) (fun hc9 => ?_)
    · refine g_iload_n (pc' := 16) hE 0 rfl rfl dX9_behind_15 rfl ?_
      refine g_iconst (pc' := 17) hE (nI 4) (by decide) dX9_behind_16 rfl ?_
      refine g_icmpN_eq (pc' := 20) (tgt := 25) hE (by omega) (by omega) dX9_behind_17 rfl rfl (fun hc17 => ?_) (fun hc17 => ?_)
      · refine g_bipush (pc' := 27) hE (nI 12) (by decide) dX9_behind_25 rfl ?_
        refine g_iload_n (pc' := 28) hE 1 rfl rfl dX9_behind_27 rfl ?_
        refine g_imul (pc' := 29) hE dX9_behind_28 rfl ?_
        refine g_eqi (show _ = nI (12 * u) from pk_mul _ _) ?_
        exact hE.iret (⟨rfl, by unfold bhd; repeat (first | rfl | rw [if_pos (by omega)] | rw [if_neg (by omega)])⟩) (Nat.zero_le _) (Nat.zero_le _) dX9_behind_29
      · refine g_iload_n (pc' := 21) hE 0 rfl rfl dX9_behind_20 rfl ?_
        refine g_iconst (pc' := 22) hE (nI 5) (by decide) dX9_behind_21 rfl ?_
        refine g_icmpN_ne (pc' := 25) (tgt := 30) hE (by omega) (by omega) dX9_behind_22 rfl rfl (fun hc22 => ?_) (fun hc22 => ?_)
        · refine g_iload_n (pc' := 31) hE 0 rfl rfl dX9_behind_30 rfl ?_
          refine g_bipush (pc' := 33) hE (nI 6) (by decide) dX9_behind_31 rfl ?_
          refine g_icmpN_eq (pc' := 36) (tgt := 42) hE (by omega) (by omega) dX9_behind_33 rfl rfl (fun hc33 => ?_) (fun hc33 => ?_)
          · refine g_bipush (pc' := 44) hE (nI 8) (by decide) dX9_behind_42 rfl ?_
            refine g_iload_n (pc' := 45) hE 1 rfl rfl dX9_behind_44 rfl ?_
            refine g_imul (pc' := 46) hE dX9_behind_45 rfl ?_
            refine g_eqi (show _ = nI (8 * u) from pk_mul _ _) ?_
            refine g_goto (tgt := 50) hE dX9_behind_46 rfl ?_
            exact hE.iret (⟨rfl, by unfold bhd; repeat (first | rfl | rw [if_pos (by omega)] | rw [if_neg (by omega)])⟩) (Nat.zero_le _) (Nat.zero_le _) dX9_behind_50
          · refine g_iload_n (pc' := 37) hE 0 rfl rfl dX9_behind_36 rfl ?_
            refine g_bipush (pc' := 39) hE (nI 13) (by decide) dX9_behind_37 rfl ?_
            refine g_icmpN_ne (pc' := 42) (tgt := 49) hE (by omega) (by omega) dX9_behind_39 rfl rfl (fun hc39 => ?_) (fun hc39 => ?_)
            · refine g_iconst (pc' := 50) hE (nI 0) (by decide) dX9_behind_49 rfl ?_
              exact hE.iret (⟨rfl, by unfold bhd; repeat (first | rfl | rw [if_pos (by omega)] | rw [if_neg (by omega)])⟩) (Nat.zero_le _) (Nat.zero_le _) dX9_behind_50
            · refine g_bipush (pc' := 44) hE (nI 8) (by decide) dX9_behind_42 rfl ?_
              refine g_iload_n (pc' := 45) hE 1 rfl rfl dX9_behind_44 rfl ?_
              refine g_imul (pc' := 46) hE dX9_behind_45 rfl ?_
              refine g_eqi (show _ = nI (8 * u) from pk_mul _ _) ?_
              refine g_goto (tgt := 50) hE dX9_behind_46 rfl ?_
              exact hE.iret (⟨rfl, by unfold bhd; repeat (first | rfl | rw [if_pos (by omega)] | rw [if_neg (by omega)])⟩) (Nat.zero_le _) (Nat.zero_le _) dX9_behind_50
        · refine g_bipush (pc' := 27) hE (nI 12) (by decide) dX9_behind_25 rfl ?_
          refine g_iload_n (pc' := 28) hE 1 rfl rfl dX9_behind_27 rfl ?_
          refine g_imul (pc' := 29) hE dX9_behind_28 rfl ?_
          refine g_eqi (show _ = nI (12 * u) from pk_mul _ _) ?_
          exact hE.iret (⟨rfl, by unfold bhd; repeat (first | rfl | rw [if_pos (by omega)] | rw [if_neg (by omega)])⟩) (Nat.zero_le _) (Nat.zero_le _) dX9_behind_29
    · refine g_bipush (pc' := 14) hE (nI 12) (by decide) dX9_behind_12 rfl ?_
      exact hE.iret (⟨rfl, by unfold bhd; repeat (first | rfl | rw [if_pos (by omega)] | rw [if_neg (by omega)])⟩) (Nat.zero_le _) (Nat.zero_le _) dX9_behind_14
  · refine g_iconst (pc' := 6) hE (nI 4) (by decide) dX9_behind_5 rfl ?_
    exact hE.iret (⟨rfl, by unfold bhd; repeat (first | rfl | rw [if_pos (by omega)] | rw [if_neg (by omega)])⟩) (Nat.zero_le _) (Nat.zero_le _) dX9_behind_6

set_option maxHeartbeats 4000000 in
set_option maxRecDepth 100000 in
theorem qX9_isPower (l : Launch) (D : va_G) (T : Nat → ClassId) (r m : Nat) (hr : r < 2 ^ 32) (hm : m < 2 ^ 31) : Con l D T yX9_isPower cX9_isPower 3 (some .boolean) 0 0 0 [.long (lN r), .int (nI m)] [] (fun v w1 => w1 = [] ∧ v = some (.int (bI (powB r m)))) := by
  refine Con.of (by decide) (Nat.le_of_ble_eq_true rfl) ?_
  intro E hE
  refine g_lv (lv' := [(0, .long (lN r)), (2, .int (nI m))]) [0, 1] rfl ?_
  refine g_lload_n (pc' := 1) hE 0 rfl rfl dX9_isPower_0 rfl ?_
  refine g_lconst (pc' := 2) hE (lN 1) (by decide) dX9_isPower_1 rfl ?_
  refine g_lcmp (pc' := 3) hE dX9_isPower_2 rfl ?_
  refine g_ifcN_eq (pc' := 6) (tgt := 44) hE (by omega) (by omega) dX9_isPower_3 rfl rfl (fun hc3 => ?_) (fun hc3 => ?_)
  · refine g_iconst (pc' := 45) hE (nI 1) (by decide) dX9_isPower_44 rfl ?_
    refine g_goto (tgt := 49) hE dX9_isPower_45 rfl ?_
    exact hE.zret (by first | rfl | exact bI_nar _ | decide) (⟨rfl, by first | exact zt (decide_eq_true (by omega)) | exact zf (decide_eq_false (by omega))⟩) (Nat.zero_le _) (Nat.zero_le _) dX9_isPower_49
  · refine g_lload_n (pc' := 7) hE 0 rfl rfl dX9_isPower_6 rfl ?_
    refine g_ldc2 (pc' := 10) hE (v := lN 2) kX9_164 dX9_isPower_7 rfl ?_
    refine g_lcmp (pc' := 11) hE dX9_isPower_10 rfl ?_
    refine g_ifcN_eq (pc' := 14) (tgt := 44) hE (by omega) (by omega) dX9_isPower_11 rfl rfl (fun hc11 => ?_) (fun hc11 => ?_)
    · refine g_iconst (pc' := 45) hE (nI 1) (by decide) dX9_isPower_44 rfl ?_
      refine g_goto (tgt := 49) hE dX9_isPower_45 rfl ?_
      exact hE.zret (by first | rfl | exact bI_nar _ | decide) (⟨rfl, by first | exact zt (decide_eq_true (by omega)) | exact zf (decide_eq_false (by omega))⟩) (Nat.zero_le _) (Nat.zero_le _) dX9_isPower_49
    · refine g_lload_n (pc' := 15) hE 0 rfl rfl dX9_isPower_14 rfl ?_
      refine g_ldc2 (pc' := 18) hE (v := lN 4) kX9_166 dX9_isPower_15 rfl ?_
      refine g_lcmp (pc' := 19) hE dX9_isPower_18 rfl ?_
      refine g_ifcN_eq (pc' := 22) (tgt := 44) hE (by omega) (by omega) dX9_isPower_19 rfl rfl (fun hc19 => ?_) (fun hc19 => ?_)
      · refine g_iconst (pc' := 45) hE (nI 1) (by decide) dX9_isPower_44 rfl ?_
        refine g_goto (tgt := 49) hE dX9_isPower_45 rfl ?_
        exact hE.zret (by first | rfl | exact bI_nar _ | decide) (⟨rfl, by first | exact zt (decide_eq_true (by omega)) | exact zf (decide_eq_false (by omega))⟩) (Nat.zero_le _) (Nat.zero_le _) dX9_isPower_49
      · refine g_lload_n (pc' := 23) hE 0 rfl rfl dX9_isPower_22 rfl ?_
        refine g_ldc2 (pc' := 26) hE (v := lN 8) kX9_168 dX9_isPower_23 rfl ?_
        refine g_lcmp (pc' := 27) hE dX9_isPower_26 rfl ?_
        refine g_ifcN_eq (pc' := 30) (tgt := 44) hE (by omega) (by omega) dX9_isPower_27 rfl rfl (fun hc27 => ?_) (fun hc27 => ?_)
        · refine g_iconst (pc' := 45) hE (nI 1) (by decide) dX9_isPower_44 rfl ?_
          refine g_goto (tgt := 49) hE dX9_isPower_45 rfl ?_
          exact hE.zret (by first | rfl | exact bI_nar _ | decide) (⟨rfl, by first | exact zt (decide_eq_true (by omega)) | exact zf (decide_eq_false (by omega))⟩) (Nat.zero_le _) (Nat.zero_le _) dX9_isPower_49
        · refine g_lload_n (pc' := 31) hE 0 rfl rfl dX9_isPower_30 rfl ?_
          refine g_ldc2 (pc' := 34) hE (v := lN 16) kX9_170 dX9_isPower_31 rfl ?_
          refine g_lcmp (pc' := 35) hE dX9_isPower_34 rfl ?_
          refine g_ifcN_ne (pc' := 38) (tgt := 48) hE (by omega) (by omega) dX9_isPower_35 rfl rfl (fun hc35 => ?_) (fun hc35 => ?_)
          · refine g_iconst (pc' := 49) hE (nI 0) (by decide) dX9_isPower_48 rfl ?_
            exact hE.zret (by first | rfl | exact bI_nar _ | decide) (⟨rfl, by first | exact zt (decide_eq_true (by omega)) | exact zf (decide_eq_false (by omega))⟩) (Nat.zero_le _) (Nat.zero_le _) dX9_isPower_49
          · refine g_iload_n (pc' := 39) hE 1 rfl rfl dX9_isPower_38 rfl ?_
            refine g_bipush (pc' := 41) hE (nI 16) (by decide) dX9_isPower_39 rfl ?_
            refine g_icmpN_ne (pc' := 44) (tgt := 48) hE (by omega) (by omega) dX9_isPower_41 rfl rfl (fun hc41 => ?_) (fun hc41 => ?_)
            · refine g_iconst (pc' := 49) hE (nI 0) (by decide) dX9_isPower_48 rfl ?_
              exact hE.zret (by first | rfl | exact bI_nar _ | decide) (⟨rfl, by first | exact zt (decide_eq_true (by omega)) | exact zf (decide_eq_false (by omega))⟩) (Nat.zero_le _) (Nat.zero_le _) dX9_isPower_49
            · refine g_iconst (pc' := 45) hE (nI 1) (by decide) dX9_isPower_44 rfl ?_
              refine g_goto (tgt := 49) hE dX9_isPower_45 rfl ?_
              exact hE.zret (by first | rfl | exact bI_nar _ | decide) (⟨rfl, by first | exact zt (decide_eq_true (by omega)) | exact zf (decide_eq_false (by omega))⟩) (Nat.zero_le _) (Nat.zero_le _) dX9_isPower_49

set_option maxHeartbeats 4000000 in
set_option maxRecDepth 100000 in
theorem qX9_tellsRest (l : Launch) (D : va_G) (T : Nat → ClassId) (k : Nat) (hk : k < 2 ^ 31) : Con l D T yX9_tellsRest cX9_tellsRest 1 (some .boolean) 0 0 0 [.int (nI k)] [] (fun v w1 => w1 = [] ∧ v = some (.int (bI (trB k)))) := by
  refine Con.of (by decide) (Nat.le_of_ble_eq_true rfl) ?_
  intro E hE
  refine g_lv (lv' := [(0, .int (nI k))]) [0] rfl ?_
  refine g_iload_n (pc' := 1) hE 0 rfl rfl dX9_tellsRest_0 rfl ?_
  refine g_iconst (pc' := 2) hE (nI 2) (by decide) dX9_tellsRest_1 rfl ?_
  refine g_icmpN_eq (pc' := 5) (tgt := 11) hE (by omega) (by omega) dX9_tellsRest_2 rfl rfl (fun hc2 => ?_) (fun hc2 => ?_)
  · refine g_iconst (pc' := 12) hE (nI 1) (by decide) dX9_tellsRest_11 rfl ?_
    refine g_goto (tgt := 16) hE dX9_tellsRest_12 rfl ?_
    exact hE.zret (by first | rfl | exact bI_nar _ | decide) (⟨rfl, by first | exact zt (decide_eq_true (by omega)) | exact zf (decide_eq_false (by omega))⟩) (Nat.zero_le _) (Nat.zero_le _) dX9_tellsRest_16
  · refine g_iload_n (pc' := 6) hE 0 rfl rfl dX9_tellsRest_5 rfl ?_
    refine g_bipush (pc' := 8) hE (nI 7) (by decide) dX9_tellsRest_6 rfl ?_
    refine g_icmpN_le (pc' := 11) (tgt := 15) hE (by omega) (by omega) dX9_tellsRest_8 rfl rfl (fun hc8 => ?_) (fun hc8 => ?_)
    · refine g_iconst (pc' := 16) hE (nI 0) (by decide) dX9_tellsRest_15 rfl ?_
      exact hE.zret (by first | rfl | exact bI_nar _ | decide) (⟨rfl, by first | exact zt (decide_eq_true (by omega)) | exact zf (decide_eq_false (by omega))⟩) (Nat.zero_le _) (Nat.zero_le _) dX9_tellsRest_16
    · refine g_iconst (pc' := 12) hE (nI 1) (by decide) dX9_tellsRest_11 rfl ?_
      refine g_goto (tgt := 16) hE dX9_tellsRest_12 rfl ?_
      exact hE.zret (by first | rfl | exact bI_nar _ | decide) (⟨rfl, by first | exact zt (decide_eq_true (by omega)) | exact zf (decide_eq_false (by omega))⟩) (Nat.zero_le _) (Nat.zero_le _) dX9_tellsRest_16

set_option maxHeartbeats 4000000 in
set_option maxRecDepth 100000 in
theorem qX9_thrown (l : Launch) (D : va_G) (T : Nat → ClassId) (mo r_tape r_output r_draft r_letters r_name r_kind r_vary r_flag r_rest r_more r_one r_two r_begin r_partName r_partType r_partNumber r_nextName r_nextKind r_nextVary r_nextFlag r_nextRest r_nextMore r_nextOne r_nextTwo r_nextBegin r_nextPartName r_nextPartType r_nextPartNumber r_apart r_leader r_number r_way r_seen r_told r_toldAt v_thrown v_taped v_written v_error v_stands v_many v_nextMany v_nextParts v_classes v_stringsAt v_stringsEnd v_drafted v_tolds v_stringsSize : Nat)  : Con l D T yX9_thrown cX9_thrown 1 (some .int) 0 0 0 [.ref mo] [(mo, .inr (8, [.int (nI v_thrown), .ref r_tape, .int (nI v_taped), .ref r_output, .ref r_draft, .int (nI v_written), .int (nI v_error), .int (nI v_stands), .int (nI v_many), .ref r_letters, .ref r_name, .ref r_kind, .ref r_vary, .ref r_flag, .ref r_rest, .ref r_more, .ref r_one, .ref r_two, .ref r_begin, .ref r_partName, .ref r_partType, .ref r_partNumber, .int (nI v_nextMany), .int (nI v_nextParts), .ref r_nextName, .ref r_nextKind, .ref r_nextVary, .ref r_nextFlag, .ref r_nextRest, .ref r_nextMore, .ref r_nextOne, .ref r_nextTwo, .ref r_nextBegin, .ref r_nextPartName, .ref r_nextPartType, .ref r_nextPartNumber, .ref r_apart, .ref r_leader, .ref r_number, .int (nI v_classes), .int (nI v_stringsAt), .int (nI v_stringsEnd), .ref r_way, .ref r_seen, .int (nI v_drafted), .ref r_told, .ref r_toldAt, .int (nI v_tolds), .int (nI v_stringsSize)]))] (fun v w1 => w1 = [(mo, .inr (8, [.int (nI v_thrown), .ref r_tape, .int (nI v_taped), .ref r_output, .ref r_draft, .int (nI v_written), .int (nI v_error), .int (nI v_stands), .int (nI v_many), .ref r_letters, .ref r_name, .ref r_kind, .ref r_vary, .ref r_flag, .ref r_rest, .ref r_more, .ref r_one, .ref r_two, .ref r_begin, .ref r_partName, .ref r_partType, .ref r_partNumber, .int (nI v_nextMany), .int (nI v_nextParts), .ref r_nextName, .ref r_nextKind, .ref r_nextVary, .ref r_nextFlag, .ref r_nextRest, .ref r_nextMore, .ref r_nextOne, .ref r_nextTwo, .ref r_nextBegin, .ref r_nextPartName, .ref r_nextPartType, .ref r_nextPartNumber, .ref r_apart, .ref r_leader, .ref r_number, .int (nI v_classes), .int (nI v_stringsAt), .int (nI v_stringsEnd), .ref r_way, .ref r_seen, .int (nI v_drafted), .ref r_told, .ref r_toldAt, .int (nI v_tolds), .int (nI v_stringsSize)]))] ∧ v = some (.int (nI v_thrown))) := by
  refine Con.of (by decide) (Nat.le_of_ble_eq_true rfl) ?_
  intro E hE
  refine g_lv (lv' := [(0, .ref mo)]) [0] rfl ?_
  refine g_aload_n (pc' := 1) hE 0 rfl rfl dX9_thrown_0 rfl ?_
  refine g_get (pc' := 4) hE gcX9 0 rfl 0 (by decide) rfl kX9_118 dX9_thrown_1 rfl ?_
  exact hE.iret (⟨rfl, rfl⟩) (Nat.zero_le _) (Nat.zero_le _) dX9_thrown_4

set_option maxHeartbeats 4000000 in
set_option maxRecDepth 100000 in
theorem qX9_fails (l : Launch) (D : va_G) (T : Nat → ClassId) (mo r_tape r_output r_draft r_letters r_name r_kind r_vary r_flag r_rest r_more r_one r_two r_begin r_partName r_partType r_partNumber r_nextName r_nextKind r_nextVary r_nextFlag r_nextRest r_nextMore r_nextOne r_nextTwo r_nextBegin r_nextPartName r_nextPartType r_nextPartNumber r_apart r_leader r_number r_way r_seen r_told r_toldAt v_thrown v_taped v_written v_error v_stands v_many v_nextMany v_nextParts v_classes v_stringsAt v_stringsEnd v_drafted v_tolds v_stringsSize : Nat) (z : Bool) (k : Nat)  : Con l D T yX9_fails cX9_fails 3 (some .boolean) 0 0 0 [.ref mo, .int (bI z), .int (nI k)] [(mo, .inr (8, [.int (nI v_thrown), .ref r_tape, .int (nI v_taped), .ref r_output, .ref r_draft, .int (nI v_written), .int (nI v_error), .int (nI v_stands), .int (nI v_many), .ref r_letters, .ref r_name, .ref r_kind, .ref r_vary, .ref r_flag, .ref r_rest, .ref r_more, .ref r_one, .ref r_two, .ref r_begin, .ref r_partName, .ref r_partType, .ref r_partNumber, .int (nI v_nextMany), .int (nI v_nextParts), .ref r_nextName, .ref r_nextKind, .ref r_nextVary, .ref r_nextFlag, .ref r_nextRest, .ref r_nextMore, .ref r_nextOne, .ref r_nextTwo, .ref r_nextBegin, .ref r_nextPartName, .ref r_nextPartType, .ref r_nextPartNumber, .ref r_apart, .ref r_leader, .ref r_number, .int (nI v_classes), .int (nI v_stringsAt), .int (nI v_stringsEnd), .ref r_way, .ref r_seen, .int (nI v_drafted), .ref r_told, .ref r_toldAt, .int (nI v_tolds), .int (nI v_stringsSize)]))] (fun v w1 => v = some (.int (bI z)) ∧ w1 = [(mo, .inr (8, [.int (nI (if z then k else 0)), .ref r_tape, .int (nI v_taped), .ref r_output, .ref r_draft, .int (nI v_written), .int (nI v_error), .int (nI v_stands), .int (nI v_many), .ref r_letters, .ref r_name, .ref r_kind, .ref r_vary, .ref r_flag, .ref r_rest, .ref r_more, .ref r_one, .ref r_two, .ref r_begin, .ref r_partName, .ref r_partType, .ref r_partNumber, .int (nI v_nextMany), .int (nI v_nextParts), .ref r_nextName, .ref r_nextKind, .ref r_nextVary, .ref r_nextFlag, .ref r_nextRest, .ref r_nextMore, .ref r_nextOne, .ref r_nextTwo, .ref r_nextBegin, .ref r_nextPartName, .ref r_nextPartType, .ref r_nextPartNumber, .ref r_apart, .ref r_leader, .ref r_number, .int (nI v_classes), .int (nI v_stringsAt), .int (nI v_stringsEnd), .ref r_way, .ref r_seen, .int (nI v_drafted), .ref r_told, .ref r_toldAt, .int (nI v_tolds), .int (nI v_stringsSize)]))]) := by
  refine Con.of (by decide) (Nat.le_of_ble_eq_true rfl) ?_
  intro E hE
  refine g_lv (lv' := [(0, .ref mo), (1, .int (bI z)), (2, .int (nI k))]) [0, 1, 2] rfl ?_
  refine g_aload_n (pc' := 1) hE 0 rfl rfl dX9_fails_0 rfl ?_
  refine g_iload_n (pc' := 2) hE 1 rfl rfl dX9_fails_1 rfl ?_
  refine g_ifB_eq (pc' := 5) (tgt := 9) hE dX9_fails_2 rfl rfl (fun hc2 => ?_) (fun hc2 => ?_)
  · refine g_iconst (pc' := 10) hE (nI 0) (by decide) dX9_fails_9 rfl ?_
    refine g_put (pc' := 13) hE gcX9 0 rfl 0 [(mo, .inr (8, [.int (nI 0), .ref r_tape, .int (nI v_taped), .ref r_output, .ref r_draft, .int (nI v_written), .int (nI v_error), .int (nI v_stands), .int (nI v_many), .ref r_letters, .ref r_name, .ref r_kind, .ref r_vary, .ref r_flag, .ref r_rest, .ref r_more, .ref r_one, .ref r_two, .ref r_begin, .ref r_partName, .ref r_partType, .ref r_partNumber, .int (nI v_nextMany), .int (nI v_nextParts), .ref r_nextName, .ref r_nextKind, .ref r_nextVary, .ref r_nextFlag, .ref r_nextRest, .ref r_nextMore, .ref r_nextOne, .ref r_nextTwo, .ref r_nextBegin, .ref r_nextPartName, .ref r_nextPartType, .ref r_nextPartNumber, .ref r_apart, .ref r_leader, .ref r_number, .int (nI v_classes), .int (nI v_stringsAt), .int (nI v_stringsEnd), .ref r_way, .ref r_seen, .int (nI v_drafted), .ref r_told, .ref r_toldAt, .int (nI v_tolds), .int (nI v_stringsSize)]))] (by decide) (Nat.le_of_ble_eq_true rfl) rfl rfl rfl rfl kX9_118 dX9_fails_10 rfl ?_
    refine g_iload_n (pc' := 14) hE 1 rfl rfl dX9_fails_13 rfl ?_
    exact hE.zret (by first | rfl | exact bI_nar _ | decide) (⟨rfl, by rw [hc2]; rfl⟩) (Nat.zero_le _) (Nat.zero_le _) dX9_fails_14
  · refine g_iload_n (pc' := 6) hE 2 rfl rfl dX9_fails_5 rfl ?_
    refine g_goto (tgt := 10) hE dX9_fails_6 rfl ?_
    refine g_put (pc' := 13) hE gcX9 0 rfl 0 [(mo, .inr (8, [.int (nI k), .ref r_tape, .int (nI v_taped), .ref r_output, .ref r_draft, .int (nI v_written), .int (nI v_error), .int (nI v_stands), .int (nI v_many), .ref r_letters, .ref r_name, .ref r_kind, .ref r_vary, .ref r_flag, .ref r_rest, .ref r_more, .ref r_one, .ref r_two, .ref r_begin, .ref r_partName, .ref r_partType, .ref r_partNumber, .int (nI v_nextMany), .int (nI v_nextParts), .ref r_nextName, .ref r_nextKind, .ref r_nextVary, .ref r_nextFlag, .ref r_nextRest, .ref r_nextMore, .ref r_nextOne, .ref r_nextTwo, .ref r_nextBegin, .ref r_nextPartName, .ref r_nextPartType, .ref r_nextPartNumber, .ref r_apart, .ref r_leader, .ref r_number, .int (nI v_classes), .int (nI v_stringsAt), .int (nI v_stringsEnd), .ref r_way, .ref r_seen, .int (nI v_drafted), .ref r_told, .ref r_toldAt, .int (nI v_tolds), .int (nI v_stringsSize)]))] (by decide) (Nat.le_of_ble_eq_true rfl) rfl rfl rfl rfl kX9_118 dX9_fails_10 rfl ?_
    refine g_iload_n (pc' := 14) hE 1 rfl rfl dX9_fails_13 rfl ?_
    exact hE.zret (by first | rfl | exact bI_nar _ | decide) (⟨rfl, by rw [hc2]; rfl⟩) (Nat.zero_le _) (Nat.zero_le _) dX9_fails_14

set_option maxHeartbeats 4000000 in
set_option maxRecDepth 100000 in
theorem qX9_get (l : Launch) (D : va_G) (T : Nat → ClassId) (mo r_tape r_output r_draft r_letters r_name r_kind r_vary r_flag r_rest r_more r_one r_two r_begin r_partName r_partType r_partNumber r_nextName r_nextKind r_nextVary r_nextFlag r_nextRest r_nextMore r_nextOne r_nextTwo r_nextBegin r_nextPartName r_nextPartType r_nextPartNumber r_apart r_leader r_number r_way r_seen r_told r_toldAt v_thrown v_taped v_written v_error v_stands v_many v_nextMany v_nextParts v_classes v_stringsAt v_stringsEnd v_drafted v_tolds v_stringsSize : Nat) (f_tape : Nat → Nat) (k n : Nat) (hb : ∀ i, f_tape i < 256) (hk : k + n ≤ 8192) (hn : n ≤ 8) : Con l D T yX9_get cX9_get 6 (some .long) 0 0 0 [.ref mo, .int (nI k), .int (nI n)] [(mo, .inr (8, [.int (nI v_thrown), .ref r_tape, .int (nI v_taped), .ref r_output, .ref r_draft, .int (nI v_written), .int (nI v_error), .int (nI v_stands), .int (nI v_many), .ref r_letters, .ref r_name, .ref r_kind, .ref r_vary, .ref r_flag, .ref r_rest, .ref r_more, .ref r_one, .ref r_two, .ref r_begin, .ref r_partName, .ref r_partType, .ref r_partNumber, .int (nI v_nextMany), .int (nI v_nextParts), .ref r_nextName, .ref r_nextKind, .ref r_nextVary, .ref r_nextFlag, .ref r_nextRest, .ref r_nextMore, .ref r_nextOne, .ref r_nextTwo, .ref r_nextBegin, .ref r_nextPartName, .ref r_nextPartType, .ref r_nextPartNumber, .ref r_apart, .ref r_leader, .ref r_number, .int (nI v_classes), .int (nI v_stringsAt), .int (nI v_stringsEnd), .ref r_way, .ref r_seen, .int (nI v_drafted), .ref r_told, .ref r_toldAt, .int (nI v_tolds), .int (nI v_stringsSize)])), (r_tape, .inl (T 0, 8192, .inl (fun z9 => nI (f_tape z9))))] (fun v w1 => w1 = [(mo, .inr (8, [.int (nI v_thrown), .ref r_tape, .int (nI v_taped), .ref r_output, .ref r_draft, .int (nI v_written), .int (nI v_error), .int (nI v_stands), .int (nI v_many), .ref r_letters, .ref r_name, .ref r_kind, .ref r_vary, .ref r_flag, .ref r_rest, .ref r_more, .ref r_one, .ref r_two, .ref r_begin, .ref r_partName, .ref r_partType, .ref r_partNumber, .int (nI v_nextMany), .int (nI v_nextParts), .ref r_nextName, .ref r_nextKind, .ref r_nextVary, .ref r_nextFlag, .ref r_nextRest, .ref r_nextMore, .ref r_nextOne, .ref r_nextTwo, .ref r_nextBegin, .ref r_nextPartName, .ref r_nextPartType, .ref r_nextPartNumber, .ref r_apart, .ref r_leader, .ref r_number, .int (nI v_classes), .int (nI v_stringsAt), .int (nI v_stringsEnd), .ref r_way, .ref r_seen, .int (nI v_drafted), .ref r_told, .ref r_toldAt, .int (nI v_tolds), .int (nI v_stringsSize)])), (r_tape, .inl (T 0, 8192, .inl (fun z9 => nI (f_tape z9))))] ∧ v = some (.long (lN (num f_tape k n)))) := by
  refine Con.of (by decide) (Nat.le_of_ble_eq_true rfl) ?_
  intro E hE
  refine g_lv (lv' := [(0, .ref mo), (1, .int (nI k)), (2, .int (nI n))]) [0, 1, 2] rfl ?_
  refine g_lconst (pc' := 1) hE (lN 0) (by decide) dX9_get_0 rfl ?_
  refine g_lstore_n (pc' := 2) hE [(3, .long (lN 0)), (0, .ref mo), (1, .int (nI k)), (2, .int (nI n))] dX9_get_1 rfl rfl (by decide) rfl ?_
  refine g_iconst (pc' := 3) hE (nI 0) (by decide) dX9_get_2 rfl ?_
  refine g_istore (pc' := 5) hE [(5, .int (nI 0)), (3, .long (lN 0)), (0, .ref mo), (1, .int (nI k)), (2, .int (nI n))] dX9_get_3 rfl (by decide) rfl ?_
  refine (show ∀ (d5 : Nat) (q : Nat), n - q = d5 → (q ≤ n) → G l E D 6 0 0 [(mo, .inr (8, [.int (nI v_thrown), .ref r_tape, .int (nI v_taped), .ref r_output, .ref r_draft, .int (nI v_written), .int (nI v_error), .int (nI v_stands), .int (nI v_many), .ref r_letters, .ref r_name, .ref r_kind, .ref r_vary, .ref r_flag, .ref r_rest, .ref r_more, .ref r_one, .ref r_two, .ref r_begin, .ref r_partName, .ref r_partType, .ref r_partNumber, .int (nI v_nextMany), .int (nI v_nextParts), .ref r_nextName, .ref r_nextKind, .ref r_nextVary, .ref r_nextFlag, .ref r_nextRest, .ref r_nextMore, .ref r_nextOne, .ref r_nextTwo, .ref r_nextBegin, .ref r_nextPartName, .ref r_nextPartType, .ref r_nextPartNumber, .ref r_apart, .ref r_leader, .ref r_number, .int (nI v_classes), .int (nI v_stringsAt), .int (nI v_stringsEnd), .ref r_way, .ref r_seen, .int (nI v_drafted), .ref r_told, .ref r_toldAt, .int (nI v_tolds), .int (nI v_stringsSize)])), (r_tape, .inl (T 0, 8192, .inl (fun z9 => nI (f_tape z9))))] [(5, .int (nI q)), (3, .long (lN (num f_tape k q))), (0, .ref mo), (1, .int (nI k)), (2, .int (nI n))] 5 [] from ?_) _ 0 rfl (by omega)
  intro d5
  induction d5 using Nat.strongRecOn with
  | _ d5 ih5 =>
  intro q hd5 hq
  refine g_iload (pc' := 7) hE 0 rfl dX9_get_5 rfl ?_
  refine g_iload_n (pc' := 8) hE 4 rfl rfl dX9_get_7 rfl ?_
  refine g_icmpN_ge (pc' := 11) (tgt := 36) hE (by omega) (by omega) dX9_get_8 rfl rfl (fun hc8 => ?_) (fun hc8 => ?_)
  · refine g_lload_n (pc' := 37) hE 1 rfl rfl dX9_get_36 rfl ?_
    exact hE.lret (⟨rfl, by rw [show q = n by omega]⟩) (Nat.zero_le _) (Nat.zero_le _) dX9_get_37
  · refine g_lload_n (pc' := 12) hE 1 rfl rfl dX9_get_11 rfl ?_
    refine g_aload_n (pc' := 13) hE 2 rfl rfl dX9_get_12 rfl ?_
    refine g_get (pc' := 16) hE gcX9 0 rfl 1 (by decide) rfl kX9_7 dX9_get_13 rfl ?_
    refine g_iload_n (pc' := 17) hE 3 rfl rfl dX9_get_16 rfl ?_
    refine g_iload (pc' := 19) hE 0 rfl dX9_get_17 rfl ?_
    refine g_iadd (pc' := 20) hE dX9_get_19 rfl ?_
    refine g_eqi (show _ = nI (k + q) from nI_add _ _) ?_
    refine g_iald (pc' := 21) hE 1 rfl (by omega) (by omega) dX9_get_20 rfl ?_
    have hbq := hb (k + q)
    refine g_i2l (pc' := 22) hE (lN (f_tape (k + q))) (nI_l (by omega)) dX9_get_21 rfl ?_
    refine g_bipush (pc' := 24) hE (nI 8) (by decide) dX9_get_22 rfl ?_
    refine g_iload (pc' := 26) hE 0 rfl dX9_get_24 rfl ?_
    refine g_imul (pc' := 27) hE dX9_get_26 rfl ?_
    refine g_eqi (show _ = nI (8 * q) from pk_mul _ _) ?_
    refine g_lshl (pc' := 28) hE (lN (f_tape (k + q)) <<< ((nI (8 * q)).toInt64 &&& 63)) rfl dX9_get_27 rfl ?_
    refine g_ladd (pc' := 29) hE dX9_get_28 rfl ?_
    refine g_eql (show _ = lN (num f_tape k (q + 1)) from num_add k q (by omega)) ?_
    refine g_lstore_n (pc' := 30) hE [(3, .long (lN (num f_tape k (q + 1)))), (5, .int (nI q)), (0, .ref mo), (1, .int (nI k)), (2, .int (nI n))] dX9_get_29 rfl rfl (by decide) rfl ?_
    refine g_iinc (pc' := 33) hE (nI (q + 1)) [(5, .int (nI (q + 1))), (3, .long (lN (num f_tape k (q + 1)))), (0, .ref mo), (1, .int (nI k)), (2, .int (nI n))] 1 rfl dX9_get_30 rfl (g_incN _ 1) (by decide) rfl ?_
    refine g_goto (tgt := 5) hE dX9_get_33 rfl ?_
    exact ih5 _ (by omega) (q + 1) rfl (by omega)

set_option maxHeartbeats 4000000 in
set_option maxRecDepth 100000 in
theorem qX9_isWithin (l : Launch) (D : va_G) (T : Nat → ClassId) (mo r_tape r_output r_draft r_letters r_name r_kind r_vary r_flag r_rest r_more r_one r_two r_begin r_partName r_partType r_partNumber r_nextName r_nextKind r_nextVary r_nextFlag r_nextRest r_nextMore r_nextOne r_nextTwo r_nextBegin r_nextPartName r_nextPartType r_nextPartNumber r_apart r_leader r_number r_way r_seen r_told r_toldAt v_thrown v_taped v_written v_error v_stands v_many v_nextMany v_nextParts v_classes v_stringsAt v_stringsEnd v_drafted v_tolds v_stringsSize : Nat) (p : Nat) (hp : p < 2 ^ 32) (h1 : v_stringsAt ≤ v_stringsEnd) (h2 : v_stringsEnd < 2 ^ 30) : Con l D T yX9_isWithin cX9_isWithin 3 (some .boolean) 0 0 0 [.ref mo, .long (lN p)] [(mo, .inr (8, [.int (nI v_thrown), .ref r_tape, .int (nI v_taped), .ref r_output, .ref r_draft, .int (nI v_written), .int (nI v_error), .int (nI v_stands), .int (nI v_many), .ref r_letters, .ref r_name, .ref r_kind, .ref r_vary, .ref r_flag, .ref r_rest, .ref r_more, .ref r_one, .ref r_two, .ref r_begin, .ref r_partName, .ref r_partType, .ref r_partNumber, .int (nI v_nextMany), .int (nI v_nextParts), .ref r_nextName, .ref r_nextKind, .ref r_nextVary, .ref r_nextFlag, .ref r_nextRest, .ref r_nextMore, .ref r_nextOne, .ref r_nextTwo, .ref r_nextBegin, .ref r_nextPartName, .ref r_nextPartType, .ref r_nextPartNumber, .ref r_apart, .ref r_leader, .ref r_number, .int (nI v_classes), .int (nI v_stringsAt), .int (nI v_stringsEnd), .ref r_way, .ref r_seen, .int (nI v_drafted), .ref r_told, .ref r_toldAt, .int (nI v_tolds), .int (nI v_stringsSize)]))] (fun v w1 => w1 = [(mo, .inr (8, [.int (nI v_thrown), .ref r_tape, .int (nI v_taped), .ref r_output, .ref r_draft, .int (nI v_written), .int (nI v_error), .int (nI v_stands), .int (nI v_many), .ref r_letters, .ref r_name, .ref r_kind, .ref r_vary, .ref r_flag, .ref r_rest, .ref r_more, .ref r_one, .ref r_two, .ref r_begin, .ref r_partName, .ref r_partType, .ref r_partNumber, .int (nI v_nextMany), .int (nI v_nextParts), .ref r_nextName, .ref r_nextKind, .ref r_nextVary, .ref r_nextFlag, .ref r_nextRest, .ref r_nextMore, .ref r_nextOne, .ref r_nextTwo, .ref r_nextBegin, .ref r_nextPartName, .ref r_nextPartType, .ref r_nextPartNumber, .ref r_apart, .ref r_leader, .ref r_number, .int (nI v_classes), .int (nI v_stringsAt), .int (nI v_stringsEnd), .ref r_way, .ref r_seen, .int (nI v_drafted), .ref r_told, .ref r_toldAt, .int (nI v_tolds), .int (nI v_stringsSize)]))] ∧ v = some (.int (bI (decide (p < v_stringsEnd - v_stringsAt))))) := by
  refine Con.of (by decide) (Nat.le_of_ble_eq_true rfl) ?_
  intro E hE
  refine g_lv (lv' := [(0, .ref mo), (1, .long (lN p))]) [0, 1] rfl ?_
  refine g_lload_n (pc' := 1) hE 1 rfl rfl dX9_isWithin_0 rfl ?_
  refine g_aload_n (pc' := 2) hE 0 rfl rfl dX9_isWithin_1 rfl ?_
  refine g_get (pc' := 5) hE gcX9 0 rfl 41 (by decide) rfl kX9_145 dX9_isWithin_2 rfl ?_
  refine g_aload_n (pc' := 6) hE 0 rfl rfl dX9_isWithin_5 rfl ?_
  refine g_get (pc' := 9) hE gcX9 0 rfl 40 (by decide) rfl kX9_142 dX9_isWithin_6 rfl ?_
  refine g_isub (pc' := 10) hE dX9_isWithin_9 rfl ?_
  refine g_eqi (show _ = nI (v_stringsEnd - v_stringsAt) from pk_sub (by omega)) ?_
  refine g_i2l (pc' := 11) hE (lN (v_stringsEnd - v_stringsAt)) (nI_l (by omega)) dX9_isWithin_10 rfl ?_
  refine g_lcmp (pc' := 12) hE dX9_isWithin_11 rfl ?_
  refine g_ifcN_ge (pc' := 15) (tgt := 19) hE (by omega) (by omega) dX9_isWithin_12 rfl rfl (fun hc12 => ?_) (fun hc12 => ?_)
  · refine g_iconst (pc' := 20) hE (nI 0) (by decide) dX9_isWithin_19 rfl ?_
    exact hE.zret (by first | rfl | exact bI_nar _ | decide) (⟨rfl, by first | exact zt (decide_eq_true (by omega)) | exact zf (decide_eq_false (by omega))⟩) (Nat.zero_le _) (Nat.zero_le _) dX9_isWithin_20
  · refine g_iconst (pc' := 16) hE (nI 1) (by decide) dX9_isWithin_15 rfl ?_
    refine g_goto (tgt := 20) hE dX9_isWithin_16 rfl ?_
    exact hE.zret (by first | rfl | exact bI_nar _ | decide) (⟨rfl, by first | exact zt (decide_eq_true (by omega)) | exact zf (decide_eq_false (by omega))⟩) (Nat.zero_le _) (Nat.zero_le _) dX9_isWithin_20

set_option maxHeartbeats 4000000 in
set_option maxRecDepth 100000 in
theorem qX9_depth (l : Launch) (D : va_G) (T : Nat → ClassId) (mo r_tape r_output r_draft r_letters r_name r_kind r_vary r_flag r_rest r_more r_one r_two r_begin r_partName r_partType r_partNumber r_nextName r_nextKind r_nextVary r_nextFlag r_nextRest r_nextMore r_nextOne r_nextTwo r_nextBegin r_nextPartName r_nextPartType r_nextPartNumber r_apart r_leader r_number r_way r_seen r_told r_toldAt v_thrown v_taped v_written v_error v_stands v_many v_nextMany v_nextParts v_classes v_stringsAt v_stringsEnd v_drafted v_tolds v_stringsSize : Nat) (f_apart : Nat → Nat) (i j : Nat) (hi : i ≤ 201) (hj : j ≤ 201) : Con l D T yX9_depth cX9_depth 3 (some .int) 0 0 0 [.ref mo, .int (nI i), .int (nI j)] [(mo, .inr (8, [.int (nI v_thrown), .ref r_tape, .int (nI v_taped), .ref r_output, .ref r_draft, .int (nI v_written), .int (nI v_error), .int (nI v_stands), .int (nI v_many), .ref r_letters, .ref r_name, .ref r_kind, .ref r_vary, .ref r_flag, .ref r_rest, .ref r_more, .ref r_one, .ref r_two, .ref r_begin, .ref r_partName, .ref r_partType, .ref r_partNumber, .int (nI v_nextMany), .int (nI v_nextParts), .ref r_nextName, .ref r_nextKind, .ref r_nextVary, .ref r_nextFlag, .ref r_nextRest, .ref r_nextMore, .ref r_nextOne, .ref r_nextTwo, .ref r_nextBegin, .ref r_nextPartName, .ref r_nextPartType, .ref r_nextPartNumber, .ref r_apart, .ref r_leader, .ref r_number, .int (nI v_classes), .int (nI v_stringsAt), .int (nI v_stringsEnd), .ref r_way, .ref r_seen, .int (nI v_drafted), .ref r_told, .ref r_toldAt, .int (nI v_tolds), .int (nI v_stringsSize)])), (r_apart, .inl (T 0, 40804, .inl (fun z9 => nI (f_apart z9))))] (fun v w1 => w1 = [(mo, .inr (8, [.int (nI v_thrown), .ref r_tape, .int (nI v_taped), .ref r_output, .ref r_draft, .int (nI v_written), .int (nI v_error), .int (nI v_stands), .int (nI v_many), .ref r_letters, .ref r_name, .ref r_kind, .ref r_vary, .ref r_flag, .ref r_rest, .ref r_more, .ref r_one, .ref r_two, .ref r_begin, .ref r_partName, .ref r_partType, .ref r_partNumber, .int (nI v_nextMany), .int (nI v_nextParts), .ref r_nextName, .ref r_nextKind, .ref r_nextVary, .ref r_nextFlag, .ref r_nextRest, .ref r_nextMore, .ref r_nextOne, .ref r_nextTwo, .ref r_nextBegin, .ref r_nextPartName, .ref r_nextPartType, .ref r_nextPartNumber, .ref r_apart, .ref r_leader, .ref r_number, .int (nI v_classes), .int (nI v_stringsAt), .int (nI v_stringsEnd), .ref r_way, .ref r_seen, .int (nI v_drafted), .ref r_told, .ref r_toldAt, .int (nI v_tolds), .int (nI v_stringsSize)])), (r_apart, .inl (T 0, 40804, .inl (fun z9 => nI (f_apart z9))))] ∧ v = some (.int (nI (f_apart (202 * i + j))))) := by
  refine Con.of (by decide) (Nat.le_of_ble_eq_true rfl) ?_
  intro E hE
  refine g_lv (lv' := [(0, .ref mo), (1, .int (nI i)), (2, .int (nI j))]) [0, 1, 2] rfl ?_
  refine g_aload_n (pc' := 1) hE 0 rfl rfl dX9_depth_0 rfl ?_
  refine g_get (pc' := 4) hE gcX9 0 rfl 36 (by decide) rfl kX9_96 dX9_depth_1 rfl ?_
  refine g_sipush (pc' := 7) hE (nI 202) (by decide) dX9_depth_4 rfl ?_
  refine g_iload_n (pc' := 8) hE 1 rfl rfl dX9_depth_7 rfl ?_
  refine g_imul (pc' := 9) hE dX9_depth_8 rfl ?_
  refine g_eqi (show _ = nI (202 * i) from pk_mul _ _) ?_
  refine g_iload_n (pc' := 10) hE 2 rfl rfl dX9_depth_9 rfl ?_
  refine g_iadd (pc' := 11) hE dX9_depth_10 rfl ?_
  refine g_eqi (show _ = nI (202 * i + j) from nI_add _ _) ?_
  refine g_iald (pc' := 12) hE 1 rfl (by omega) (by omega) dX9_depth_11 rfl ?_
  exact hE.iret (⟨rfl, rfl⟩) (Nat.zero_le _) (Nat.zero_le _) dX9_depth_12

set_option maxHeartbeats 4000000 in
set_option maxRecDepth 100000 in
theorem qX9_size (l : Launch) (D : va_G) (T : Nat → ClassId) (mo r_tape r_output r_draft r_letters r_name r_kind r_vary r_flag r_rest r_more r_one r_two r_begin r_partName r_partType r_partNumber r_nextName r_nextKind r_nextVary r_nextFlag r_nextRest r_nextMore r_nextOne r_nextTwo r_nextBegin r_nextPartName r_nextPartType r_nextPartNumber r_apart r_leader r_number r_way r_seen r_told r_toldAt v_thrown v_taped v_written v_error v_stands v_many v_nextMany v_nextParts v_classes v_stringsAt v_stringsEnd v_drafted v_tolds v_stringsSize : Nat) (f_letters : Nat → Nat) (v_S p : Nat) (hb : ∀ i, f_letters i < 256) (hS : v_S ≤ 8192) (h0 : f_letters (v_S - 1) = 0) (hp : p < v_S) : Con l D T yX9_size cX9_size 3 (some .int) 0 0 0 [.ref mo, .int (nI p)] [(mo, .inr (8, [.int (nI v_thrown), .ref r_tape, .int (nI v_taped), .ref r_output, .ref r_draft, .int (nI v_written), .int (nI v_error), .int (nI v_stands), .int (nI v_many), .ref r_letters, .ref r_name, .ref r_kind, .ref r_vary, .ref r_flag, .ref r_rest, .ref r_more, .ref r_one, .ref r_two, .ref r_begin, .ref r_partName, .ref r_partType, .ref r_partNumber, .int (nI v_nextMany), .int (nI v_nextParts), .ref r_nextName, .ref r_nextKind, .ref r_nextVary, .ref r_nextFlag, .ref r_nextRest, .ref r_nextMore, .ref r_nextOne, .ref r_nextTwo, .ref r_nextBegin, .ref r_nextPartName, .ref r_nextPartType, .ref r_nextPartNumber, .ref r_apart, .ref r_leader, .ref r_number, .int (nI v_classes), .int (nI v_stringsAt), .int (nI v_stringsEnd), .ref r_way, .ref r_seen, .int (nI v_drafted), .ref r_told, .ref r_toldAt, .int (nI v_tolds), .int (nI v_stringsSize)])), (r_letters, .inl (T 0, 8192, .inl (fun z9 => nI (f_letters z9))))] (fun v w1 => w1 = [(mo, .inr (8, [.int (nI v_thrown), .ref r_tape, .int (nI v_taped), .ref r_output, .ref r_draft, .int (nI v_written), .int (nI v_error), .int (nI v_stands), .int (nI v_many), .ref r_letters, .ref r_name, .ref r_kind, .ref r_vary, .ref r_flag, .ref r_rest, .ref r_more, .ref r_one, .ref r_two, .ref r_begin, .ref r_partName, .ref r_partType, .ref r_partNumber, .int (nI v_nextMany), .int (nI v_nextParts), .ref r_nextName, .ref r_nextKind, .ref r_nextVary, .ref r_nextFlag, .ref r_nextRest, .ref r_nextMore, .ref r_nextOne, .ref r_nextTwo, .ref r_nextBegin, .ref r_nextPartName, .ref r_nextPartType, .ref r_nextPartNumber, .ref r_apart, .ref r_leader, .ref r_number, .int (nI v_classes), .int (nI v_stringsAt), .int (nI v_stringsEnd), .ref r_way, .ref r_seen, .int (nI v_drafted), .ref r_told, .ref r_toldAt, .int (nI v_tolds), .int (nI v_stringsSize)])), (r_letters, .inl (T 0, 8192, .inl (fun z9 => nI (f_letters z9))))] ∧ v = some (.int (nI (lfr f_letters p)))) := by
  refine Con.of (by decide) (Nat.le_of_ble_eq_true rfl) ?_
  intro E hE
  have hL := lfr_spec (t := f_letters) (n := v_S - 1 - p) (s := p) (by omega) (by rw [show p + (v_S - 1 - p) = v_S - 1 by omega]; exact h0)
  refine g_lv (lv' := [(0, .ref mo), (1, .int (nI p))]) [0, 1] rfl ?_
  refine g_iconst (pc' := 1) hE (nI 0) (by decide) dX9_size_0 rfl ?_
  refine g_istore_n (pc' := 2) hE [(2, .int (nI 0)), (0, .ref mo), (1, .int (nI p))] dX9_size_1 rfl rfl (by decide) rfl ?_
  refine (show ∀ (d2 : Nat) (e : Nat), lfr f_letters p - e = d2 → (e ≤ lfr f_letters p) → (∀ j, j < e → f_letters (p + j) ≠ 0) → G l E D 3 0 0 [(mo, .inr (8, [.int (nI v_thrown), .ref r_tape, .int (nI v_taped), .ref r_output, .ref r_draft, .int (nI v_written), .int (nI v_error), .int (nI v_stands), .int (nI v_many), .ref r_letters, .ref r_name, .ref r_kind, .ref r_vary, .ref r_flag, .ref r_rest, .ref r_more, .ref r_one, .ref r_two, .ref r_begin, .ref r_partName, .ref r_partType, .ref r_partNumber, .int (nI v_nextMany), .int (nI v_nextParts), .ref r_nextName, .ref r_nextKind, .ref r_nextVary, .ref r_nextFlag, .ref r_nextRest, .ref r_nextMore, .ref r_nextOne, .ref r_nextTwo, .ref r_nextBegin, .ref r_nextPartName, .ref r_nextPartType, .ref r_nextPartNumber, .ref r_apart, .ref r_leader, .ref r_number, .int (nI v_classes), .int (nI v_stringsAt), .int (nI v_stringsEnd), .ref r_way, .ref r_seen, .int (nI v_drafted), .ref r_told, .ref r_toldAt, .int (nI v_tolds), .int (nI v_stringsSize)])), (r_letters, .inl (T 0, 8192, .inl (fun z9 => nI (f_letters z9))))] [(2, .int (nI e)), (0, .ref mo), (1, .int (nI p))] 2 [] from ?_) _ 0 rfl (Nat.zero_le _) (fun j hj => absurd hj (by omega))
  intro d2
  induction d2 using Nat.strongRecOn with
  | _ d2 ih2 =>
  intro e hd2 he hall
  refine g_aload_n (pc' := 3) hE 1 rfl rfl dX9_size_2 rfl ?_
  refine g_get (pc' := 6) hE gcX9 0 rfl 9 (by decide) rfl kX9_19 dX9_size_3 rfl ?_
  refine g_iload_n (pc' := 7) hE 2 rfl rfl dX9_size_6 rfl ?_
  refine g_iload_n (pc' := 8) hE 0 rfl rfl dX9_size_7 rfl ?_
  refine g_iadd (pc' := 9) hE dX9_size_8 rfl ?_
  refine g_eqi (show _ = nI (p + e) from nI_add _ _) ?_
  refine g_iald (pc' := 10) hE 1 rfl (by omega) (by omega) dX9_size_9 rfl ?_
  have hbe := hb (p + e)
  refine g_ifN_eq (pc' := 13) (tgt := 19) hE (by omega) dX9_size_10 rfl rfl (fun hc10 => ?_) (fun hc10 => ?_)
  · refine g_iload_n (pc' := 20) hE 0 rfl rfl dX9_size_19 rfl ?_
    exact hE.iret (⟨rfl, by rw [lfr_eq (n := e) (by omega) hall hc10]⟩) (Nat.zero_le _) (Nat.zero_le _) dX9_size_20
  · refine g_iinc (pc' := 16) hE (nI (e + 1)) [(2, .int (nI (e + 1))), (0, .ref mo), (1, .int (nI p))] 0 rfl dX9_size_13 rfl (g_incN _ 1) (by decide) rfl ?_
    refine g_goto (tgt := 2) hE dX9_size_16 rfl ?_
    exact ih2 _ (by have : e < lfr f_letters p := Nat.lt_of_le_of_ne he (fun z => hc10 (by rw [z]; exact hL.2.2)); omega) (e + 1) rfl (Nat.lt_of_le_of_ne he (fun z => hc10 (by rw [z]; exact hL.2.2))) (lt_s hall hc10)
