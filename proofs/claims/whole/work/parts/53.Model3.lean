set_option maxHeartbeats 4000000 in
set_option maxRecDepth 100000 in
theorem qX9_isTold (l : Launch) (D : va_G) (T : Nat → ClassId) (mo r_tape r_output r_draft r_letters r_name r_kind r_vary r_flag r_rest r_more r_one r_two r_begin r_partName r_partType r_partNumber r_nextName r_nextKind r_nextVary r_nextFlag r_nextRest r_nextMore r_nextOne r_nextTwo r_nextBegin r_nextPartName r_nextPartType r_nextPartNumber r_apart r_leader r_number r_way r_seen r_told r_toldAt v_thrown v_taped v_written v_error v_stands v_many v_nextMany v_nextParts v_classes v_stringsAt v_stringsEnd v_drafted v_tolds v_stringsSize : Nat) (f_tape : Nat → Nat) (a : Nat) (hb : ∀ i, f_tape i < 256) (ha : a + 12 ≤ 8192) (ha1 : f_tape (a + 7) % 32 = 1 → a + 16 ≤ 8192) (hnm : v_nextMany ≤ 200) (hnp : v_nextParts ≤ 600) : Con l D T yX9_isTold cX9_isTold 10 (some .boolean) 1 0 0 [.ref mo, .int (nI a)] [(mo, .inr (8, [.int (nI v_thrown), .ref r_tape, .int (nI v_taped), .ref r_output, .ref r_draft, .int (nI v_written), .int (nI v_error), .int (nI v_stands), .int (nI v_many), .ref r_letters, .ref r_name, .ref r_kind, .ref r_vary, .ref r_flag, .ref r_rest, .ref r_more, .ref r_one, .ref r_two, .ref r_begin, .ref r_partName, .ref r_partType, .ref r_partNumber, .int (nI v_nextMany), .int (nI v_nextParts), .ref r_nextName, .ref r_nextKind, .ref r_nextVary, .ref r_nextFlag, .ref r_nextRest, .ref r_nextMore, .ref r_nextOne, .ref r_nextTwo, .ref r_nextBegin, .ref r_nextPartName, .ref r_nextPartType, .ref r_nextPartNumber, .ref r_apart, .ref r_leader, .ref r_number, .int (nI v_classes), .int (nI v_stringsAt), .int (nI v_stringsEnd), .ref r_way, .ref r_seen, .int (nI v_drafted), .ref r_told, .ref r_toldAt, .int (nI v_tolds), .int (nI v_stringsSize)])), (r_tape, .inl (T 0, 8192, .inl (fun z9 => nI (f_tape z9))))] (fun r w1 => w1 = [(mo, .inr (8, [.int (nI v_thrown), .ref r_tape, .int (nI v_taped), .ref r_output, .ref r_draft, .int (nI v_written), .int (nI v_error), .int (nI v_stands), .int (nI v_many), .ref r_letters, .ref r_name, .ref r_kind, .ref r_vary, .ref r_flag, .ref r_rest, .ref r_more, .ref r_one, .ref r_two, .ref r_begin, .ref r_partName, .ref r_partType, .ref r_partNumber, .int (nI v_nextMany), .int (nI v_nextParts), .ref r_nextName, .ref r_nextKind, .ref r_nextVary, .ref r_nextFlag, .ref r_nextRest, .ref r_nextMore, .ref r_nextOne, .ref r_nextTwo, .ref r_nextBegin, .ref r_nextPartName, .ref r_nextPartType, .ref r_nextPartNumber, .ref r_apart, .ref r_leader, .ref r_number, .int (nI v_classes), .int (nI v_stringsAt), .int (nI v_stringsEnd), .ref r_way, .ref r_seen, .int (nI v_drafted), .ref r_told, .ref r_toldAt, .int (nI v_tolds), .int (nI v_stringsSize)])), (r_tape, .inl (T 0, 8192, .inl (fun z9 => nI (f_tape z9))))] ∧ ∃ y : Bool, r = some (.int (bI y)) ∧ (y = true ↔ Told f_tape a v_nextMany v_nextParts)) := by
  refine Con.of (by decide) (Nat.le_of_ble_eq_true rfl) ?_
  intro E hE
  have b6 := hb (a + 6)
  have b7 := hb (a + 7)
  have b12 := hb (a + 12)
  have b13 := hb (a + 13)
  have b14 := hb (a + 14)
  have b15 := hb (a + 15)
  have hv9 := num_lt hb (a + 4) 2
  have hr9 := num4_lt hb (a + 8)
  have hand : f_tape (a + 7) &&& 96 ≤ f_tape (a + 7) := Nat.and_le_left
  refine g_lv (lv' := [(0, .ref mo), (1, .int (nI a))]) [0, 1] rfl ?_
  refine g_aload_n (pc' := 1) hE 0 rfl rfl dX9_isTold_0 rfl ?_
  refine g_get (pc' := 4) hE gcX9 0 rfl 1 (by decide) rfl kX9_7 dX9_isTold_1 rfl ?_
  refine g_iload_n (pc' := 5) hE 1 rfl rfl dX9_isTold_4 rfl ?_
  refine g_bipush (pc' := 7) hE (nI 7) (by decide) dX9_isTold_5 rfl ?_
  refine g_iadd (pc' := 8) hE dX9_isTold_7 rfl ?_
  refine g_eqi (show _ = nI (a + 7) from nI_add _ _) ?_
  refine g_iald (pc' := 9) hE 1 rfl (by omega) (by omega) dX9_isTold_8 rfl ?_
  refine g_bipush (pc' := 11) hE (nI 31) (by decide) dX9_isTold_9 rfl ?_
  refine g_iand (pc' := 12) hE dX9_isTold_11 rfl ?_
  refine g_eqi (show _ = nI (f_tape (a + 7) % 32) from pk_andN (by omega) 5 rfl) ?_
  refine g_istore_n (pc' := 13) hE [(2, .int (nI (f_tape (a + 7) % 32))), (0, .ref mo), (1, .int (nI a))] dX9_isTold_12 rfl rfl (by decide) rfl ?_
  refine g_aload_n (pc' := 14) hE 1 rfl rfl dX9_isTold_13 rfl ?_
  refine g_iload_n (pc' := 15) hE 2 rfl rfl dX9_isTold_14 rfl ?_
  refine g_iconst (pc' := 16) hE (nI 4) (by decide) dX9_isTold_15 rfl ?_
  refine g_iadd (pc' := 17) hE dX9_isTold_16 rfl ?_
  refine g_eqi (show _ = nI (a + 4) from nI_add _ _) ?_
  refine g_iconst (pc' := 18) hE (nI 2) (by decide) dX9_isTold_17 rfl ?_
  refine g_callV (pc' := 21) (As := [.int (nI (a + 4)), .int (nI 2)]) (rest := []) hE (qX9_get l D T mo r_tape r_output r_draft r_letters r_name r_kind r_vary r_flag r_rest r_more r_one r_two r_begin r_partName r_partType r_partNumber r_nextName r_nextKind r_nextVary r_nextFlag r_nextRest r_nextMore r_nextOne r_nextTwo r_nextBegin r_nextPartName r_nextPartType r_nextPartNumber r_apart r_leader r_number r_way r_seen r_told r_toldAt v_thrown v_taped v_written v_error v_stands v_many v_nextMany v_nextParts v_classes v_stringsAt v_stringsEnd v_drafted v_tolds v_stringsSize f_tape (a + 4) 2 hb (by omega) (by decide)) mX9_get kX9_134 iX9_get sX9_get (by decide) rfl (by decide) 0 rfl rfl [0, 1] rfl (by decide) rfl (Nat.le_of_ble_eq_true rfl) dX9_isTold_18 rfl (gBackR [0, 1] rfl ?_)
  rintro _ rfl
  refine g_st (st' := [.long (lN (num f_tape (a + 4) 2))]) rfl ?_
  refine g_l2i (pc' := 22) hE (nI (num f_tape (a + 4) 2)) (lN_i _) dX9_isTold_21 rfl ?_
  refine g_istore_n (pc' := 23) hE [(3, .int (nI (num f_tape (a + 4) 2))), (2, .int (nI (f_tape (a + 7) % 32))), (0, .ref mo), (1, .int (nI a))] dX9_isTold_22 rfl rfl (by decide) rfl ?_
  refine g_aload_n (pc' := 24) hE 2 rfl rfl dX9_isTold_23 rfl ?_
  refine g_iload_n (pc' := 25) hE 3 rfl rfl dX9_isTold_24 rfl ?_
  refine g_bipush (pc' := 27) hE (nI 8) (by decide) dX9_isTold_25 rfl ?_
  refine g_iadd (pc' := 28) hE dX9_isTold_27 rfl ?_
  refine g_eqi (show _ = nI (a + 8) from nI_add _ _) ?_
  refine g_iconst (pc' := 29) hE (nI 4) (by decide) dX9_isTold_28 rfl ?_
  refine g_callV (pc' := 32) (As := [.int (nI (a + 8)), .int (nI 4)]) (rest := []) hE (qX9_get l D T mo r_tape r_output r_draft r_letters r_name r_kind r_vary r_flag r_rest r_more r_one r_two r_begin r_partName r_partType r_partNumber r_nextName r_nextKind r_nextVary r_nextFlag r_nextRest r_nextMore r_nextOne r_nextTwo r_nextBegin r_nextPartName r_nextPartType r_nextPartNumber r_apart r_leader r_number r_way r_seen r_told r_toldAt v_thrown v_taped v_written v_error v_stands v_many v_nextMany v_nextParts v_classes v_stringsAt v_stringsEnd v_drafted v_tolds v_stringsSize f_tape (a + 8) 4 hb (by omega) (by decide)) mX9_get kX9_134 iX9_get sX9_get (by decide) rfl (by decide) 0 rfl rfl [0, 1] rfl (by decide) rfl (Nat.le_of_ble_eq_true rfl) dX9_isTold_29 rfl (gBackR [0, 1] rfl ?_)
  rintro _ rfl
  refine g_st (st' := [.long (lN (num f_tape (a + 8) 4))]) rfl ?_
  refine g_lstore (pc' := 34) hE [(4, .long (lN (num f_tape (a + 8) 4))), (3, .int (nI (num f_tape (a + 4) 2))), (2, .int (nI (f_tape (a + 7) % 32))), (0, .ref mo), (1, .int (nI a))] dX9_isTold_32 rfl (by decide) rfl ?_
  refine g_aload_n (pc' := 35) hE 3 rfl rfl dX9_isTold_34 rfl ?_
  refine g_get (pc' := 38) hE gcX9 0 rfl 22 (by decide) rfl kX9_125 dX9_isTold_35 rfl ?_
  refine g_sipush (pc' := 41) hE (nI 200) (by decide) dX9_isTold_38 rfl ?_
  refine g_icmpN_eq (pc' := 44) (tgt := 82) hE (by omega) (by omega) dX9_isTold_41 rfl rfl (fun hc41 => ?_) (fun hc41 => ?_)
  · refine g_iconst (pc' := 83) hE (nI 0) (by decide) dX9_isTold_82 rfl ?_
    exact hE.zret (by first | rfl | exact bI_nar _ | decide) (⟨rfl, false, rfl, ⟨fun y => (by cases y), fun y => by obtain ⟨y1, y2, y3, y4, -⟩ := y; omega⟩⟩) (Nat.zero_le _) (Nat.zero_le _) dX9_isTold_83
  · refine g_aload_n (pc' := 45) hE 3 rfl rfl dX9_isTold_44 rfl ?_
    refine g_get (pc' := 48) hE gcX9 0 rfl 1 (by decide) rfl kX9_7 dX9_isTold_45 rfl ?_
    refine g_iload_n (pc' := 49) hE 4 rfl rfl dX9_isTold_48 rfl ?_
    refine g_bipush (pc' := 51) hE (nI 6) (by decide) dX9_isTold_49 rfl ?_
    refine g_iadd (pc' := 52) hE dX9_isTold_51 rfl ?_
    refine g_eqi (show _ = nI (a + 6) from nI_add _ _) ?_
    refine g_iald (pc' := 53) hE 1 rfl (by omega) (by omega) dX9_isTold_52 rfl ?_
    refine g_ifN_ne (pc' := 56) (tgt := 82) hE (by omega) dX9_isTold_53 rfl rfl (fun hc53 => ?_) (fun hc53 => ?_)
    · refine g_iconst (pc' := 83) hE (nI 0) (by decide) dX9_isTold_82 rfl ?_
      exact hE.zret (by first | rfl | exact bI_nar _ | decide) (⟨rfl, false, rfl, ⟨fun y => (by cases y), fun y => by obtain ⟨y1, y2, y3, y4, -⟩ := y; omega⟩⟩) (Nat.zero_le _) (Nat.zero_le _) dX9_isTold_83
    · refine g_aload_n (pc' := 57) hE 3 rfl rfl dX9_isTold_56 rfl ?_
      refine g_get (pc' := 60) hE gcX9 0 rfl 1 (by decide) rfl kX9_7 dX9_isTold_57 rfl ?_
      refine g_iload_n (pc' := 61) hE 4 rfl rfl dX9_isTold_60 rfl ?_
      refine g_bipush (pc' := 63) hE (nI 7) (by decide) dX9_isTold_61 rfl ?_
      refine g_iadd (pc' := 64) hE dX9_isTold_63 rfl ?_
      refine g_eqi (show _ = nI (a + 7) from nI_add _ _) ?_
      refine g_iald (pc' := 65) hE 1 rfl (by omega) (by omega) dX9_isTold_64 rfl ?_
      refine g_bipush (pc' := 67) hE (nI 96) (by decide) dX9_isTold_65 rfl ?_
      refine g_iand (pc' := 68) hE dX9_isTold_67 rfl ?_
      refine g_eqi (show _ = nI (f_tape (a + 7) &&& 96) from nx_and _ _) ?_
      refine g_ifN_ne (pc' := 71) (tgt := 82) hE (by omega) dX9_isTold_68 rfl rfl (fun hc68 => ?_) (fun hc68 => ?_)
      · refine g_iconst (pc' := 83) hE (nI 0) (by decide) dX9_isTold_82 rfl ?_
        exact hE.zret (by first | rfl | exact bI_nar _ | decide) (⟨rfl, false, rfl, ⟨fun y => (by cases y), fun y => by obtain ⟨y1, y2, y3, y4, -⟩ := y; omega⟩⟩) (Nat.zero_le _) (Nat.zero_le _) dX9_isTold_83
      · refine g_iload_n (pc' := 72) hE 2 rfl rfl dX9_isTold_71 rfl ?_
        refine g_iconst (pc' := 73) hE (nI 1) (by decide) dX9_isTold_72 rfl ?_
        refine g_icmpN_lt (pc' := 76) (tgt := 82) hE (by omega) (by omega) dX9_isTold_73 rfl rfl (fun hc73 => ?_) (fun hc73 => ?_)
        · refine g_iconst (pc' := 83) hE (nI 0) (by decide) dX9_isTold_82 rfl ?_
          exact hE.zret (by first | rfl | exact bI_nar _ | decide) (⟨rfl, false, rfl, ⟨fun y => (by cases y), fun y => by obtain ⟨y1, y2, y3, y4, -⟩ := y; omega⟩⟩) (Nat.zero_le _) (Nat.zero_le _) dX9_isTold_83
        · refine g_iload_n (pc' := 77) hE 2 rfl rfl dX9_isTold_76 rfl ?_
          refine g_bipush (pc' := 79) hE (nI 13) (by decide) dX9_isTold_77 rfl ?_
          refine g_icmpN_le (pc' := 82) (tgt := 84) hE (by omega) (by omega) dX9_isTold_79 rfl rfl (fun hc79 => ?_) (fun hc79 => ?_)
          · have hJ299 : ∀ (z : Bool), (z = true ↔ partsK (f_tape (a + 7) % 32)) → (num f_tape (a + 4) 2 = 0 ∨ partsK (f_tape (a + 7) % 32) ∨ f_tape (a + 7) % 32 = 12 ∧ num f_tape (a + 4) 2 ≤ 2) → (f_tape (a + 7) ≤ 127 ∨ 4 ≤ f_tape (a + 7) % 32 ∧ f_tape (a + 7) % 32 ≤ 7) → ((f_tape (a + 7) % 32 = 3 ∨ f_tape (a + 7) % 32 = 7) → num f_tape (a + 8) 4 = 0) → (f_tape (a + 7) % 32 = 6 → powB (num f_tape (a + 8) 4) 8 = true) → (f_tape (a + 7) % 32 = 1 → powB (num f_tape (a + 8) 4) 16 = true ∧ f_tape (a + 13) = 0 ∧ f_tape (a + 15) < 16 ∧ 0 < f_tape (a + 12) ∧ f_tape (a + 12) + f_tape (a + 14) ≤ 8 * num f_tape (a + 8) 4) → G l E D 10 0 0 [(mo, .inr (8, [.int (nI v_thrown), .ref r_tape, .int (nI v_taped), .ref r_output, .ref r_draft, .int (nI v_written), .int (nI v_error), .int (nI v_stands), .int (nI v_many), .ref r_letters, .ref r_name, .ref r_kind, .ref r_vary, .ref r_flag, .ref r_rest, .ref r_more, .ref r_one, .ref r_two, .ref r_begin, .ref r_partName, .ref r_partType, .ref r_partNumber, .int (nI v_nextMany), .int (nI v_nextParts), .ref r_nextName, .ref r_nextKind, .ref r_nextVary, .ref r_nextFlag, .ref r_nextRest, .ref r_nextMore, .ref r_nextOne, .ref r_nextTwo, .ref r_nextBegin, .ref r_nextPartName, .ref r_nextPartType, .ref r_nextPartNumber, .ref r_apart, .ref r_leader, .ref r_number, .int (nI v_classes), .int (nI v_stringsAt), .int (nI v_stringsEnd), .ref r_way, .ref r_seen, .int (nI v_drafted), .ref r_told, .ref r_toldAt, .int (nI v_tolds), .int (nI v_stringsSize)])), (r_tape, .inl (T 0, 8192, .inl (fun z9 => nI (f_tape z9))))] [(6, .int (bI z)), (4, .long (lN (num f_tape (a + 8) 4))), (3, .int (nI (num f_tape (a + 4) 2))), (2, .int (nI (f_tape (a + 7) % 32))), (0, .ref mo), (1, .int (nI a))] 299 [] := by
              intro z hz h5 h6 h7 h8 h9
              refine g_iload (pc' := 301) hE 0 rfl dX9_isTold_299 rfl ?_
              refine g_ifB_eq (pc' := 304) (tgt := 316) hE dX9_isTold_301 rfl rfl (fun hc301 => ?_) (fun hc301 => ?_)
              · refine g_iconst (pc' := 317) hE (nI 1) (by decide) dX9_isTold_316 rfl ?_
                refine g_goto (tgt := 321) hE dX9_isTold_317 rfl ?_
                exact hE.zret (by first | rfl | exact bI_nar _ | decide) (⟨rfl, true, rfl, ⟨fun _ => ⟨by omega, by omega, by omega, by omega, h5, h6, h7, h8, h9, fun y => by first | omega | (rw [hz.mpr y] at hc301; cases hc301)⟩, fun _ => rfl⟩⟩) (Nat.zero_le _) (Nat.zero_le _) dX9_isTold_321
              · refine g_aload_n (pc' := 305) hE 4 rfl rfl dX9_isTold_304 rfl ?_
                refine g_get (pc' := 308) hE gcX9 0 rfl 23 (by decide) rfl kX9_128 dX9_isTold_305 rfl ?_
                refine g_iload_n (pc' := 309) hE 2 rfl rfl dX9_isTold_308 rfl ?_
                refine g_iadd (pc' := 310) hE dX9_isTold_309 rfl ?_
                refine g_eqi (show _ = nI (v_nextParts + (num f_tape (a + 4) 2)) from nI_add _ _) ?_
                refine g_sipush (pc' := 313) hE (nI 600) (by decide) dX9_isTold_310 rfl ?_
                refine g_icmpN_gt (pc' := 316) (tgt := 320) hE (by omega) (by omega) dX9_isTold_313 rfl rfl (fun hc313 => ?_) (fun hc313 => ?_)
                · refine g_iconst (pc' := 321) hE (nI 0) (by decide) dX9_isTold_320 rfl ?_
                  exact hE.zret (by first | rfl | exact bI_nar _ | decide) (⟨rfl, false, rfl, ⟨fun y => (by cases y), fun y => by have := y.2.2.2.2.2.2.2.2.2 (hz.mp hc301); omega⟩⟩) (Nat.zero_le _) (Nat.zero_le _) dX9_isTold_321
                · refine g_iconst (pc' := 317) hE (nI 1) (by decide) dX9_isTold_316 rfl ?_
                  refine g_goto (tgt := 321) hE dX9_isTold_317 rfl ?_
                  exact hE.zret (by first | rfl | exact bI_nar _ | decide) (⟨rfl, true, rfl, ⟨fun _ => ⟨by omega, by omega, by omega, by omega, h5, h6, h7, h8, h9, fun y => by first | omega | (rw [hz.mpr y] at hc301; cases hc301)⟩, fun _ => rfl⟩⟩) (Nat.zero_le _) (Nat.zero_le _) dX9_isTold_321
            have hJ201 : ∀ (z : Bool), (z = true ↔ partsK (f_tape (a + 7) % 32)) → (num f_tape (a + 4) 2 = 0 ∨ partsK (f_tape (a + 7) % 32) ∨ f_tape (a + 7) % 32 = 12 ∧ num f_tape (a + 4) 2 ≤ 2) → (f_tape (a + 7) ≤ 127 ∨ 4 ≤ f_tape (a + 7) % 32 ∧ f_tape (a + 7) % 32 ≤ 7) → ((f_tape (a + 7) % 32 = 3 ∨ f_tape (a + 7) % 32 = 7) → num f_tape (a + 8) 4 = 0) → (f_tape (a + 7) % 32 = 6 → powB (num f_tape (a + 8) 4) 8 = true) → G l E D 10 0 0 [(mo, .inr (8, [.int (nI v_thrown), .ref r_tape, .int (nI v_taped), .ref r_output, .ref r_draft, .int (nI v_written), .int (nI v_error), .int (nI v_stands), .int (nI v_many), .ref r_letters, .ref r_name, .ref r_kind, .ref r_vary, .ref r_flag, .ref r_rest, .ref r_more, .ref r_one, .ref r_two, .ref r_begin, .ref r_partName, .ref r_partType, .ref r_partNumber, .int (nI v_nextMany), .int (nI v_nextParts), .ref r_nextName, .ref r_nextKind, .ref r_nextVary, .ref r_nextFlag, .ref r_nextRest, .ref r_nextMore, .ref r_nextOne, .ref r_nextTwo, .ref r_nextBegin, .ref r_nextPartName, .ref r_nextPartType, .ref r_nextPartNumber, .ref r_apart, .ref r_leader, .ref r_number, .int (nI v_classes), .int (nI v_stringsAt), .int (nI v_stringsEnd), .ref r_way, .ref r_seen, .int (nI v_drafted), .ref r_told, .ref r_toldAt, .int (nI v_tolds), .int (nI v_stringsSize)])), (r_tape, .inl (T 0, 8192, .inl (fun z9 => nI (f_tape z9))))] [(6, .int (bI z)), (4, .long (lN (num f_tape (a + 8) 4))), (3, .int (nI (num f_tape (a + 4) 2))), (2, .int (nI (f_tape (a + 7) % 32))), (0, .ref mo), (1, .int (nI a))] 201 [] := by
              intro z hz h5 h6 h7 h8
              refine g_iload_n (pc' := 202) hE 3 rfl rfl dX9_isTold_201 rfl ?_
              refine g_iconst (pc' := 203) hE (nI 1) (by decide) dX9_isTold_202 rfl ?_
              refine g_icmpN_ne (pc' := 206) (tgt := 299) hE (by omega) (by omega) dX9_isTold_203 rfl rfl (fun hc203 => ?_) (fun hc203 => ?_)
              · exact hJ299 z hz h5 h6 h7 h8 (fun y => by first | exact absurd y hc203 | exact ⟨hc235, by omega, by omega, by omega, by omega⟩)
              · have ha16 := ha1 hc203
                refine g_aload_n (pc' := 207) hE 4 rfl rfl dX9_isTold_206 rfl ?_
                refine g_get (pc' := 210) hE gcX9 0 rfl 1 (by decide) rfl kX9_7 dX9_isTold_207 rfl ?_
                refine g_iload_n (pc' := 211) hE 5 rfl rfl dX9_isTold_210 rfl ?_
                refine g_bipush (pc' := 213) hE (nI 12) (by decide) dX9_isTold_211 rfl ?_
                refine g_iadd (pc' := 214) hE dX9_isTold_213 rfl ?_
                refine g_eqi (show _ = nI (a + 12) from nI_add _ _) ?_
                refine g_iald (pc' := 215) hE 1 rfl (by omega) (by omega) dX9_isTold_214 rfl ?_
                refine g_istore (pc' := 217) hE [(7, .int (nI (f_tape (a + 12)))), (6, .int (bI z)), (4, .long (lN (num f_tape (a + 8) 4))), (3, .int (nI (num f_tape (a + 4) 2))), (2, .int (nI (f_tape (a + 7) % 32))), (0, .ref mo), (1, .int (nI a))] dX9_isTold_215 rfl (by decide) rfl ?_
                refine g_aload_n (pc' := 218) hE 5 rfl rfl dX9_isTold_217 rfl ?_
                refine g_get (pc' := 221) hE gcX9 0 rfl 1 (by decide) rfl kX9_7 dX9_isTold_218 rfl ?_
                refine g_iload_n (pc' := 222) hE 6 rfl rfl dX9_isTold_221 rfl ?_
                refine g_bipush (pc' := 224) hE (nI 14) (by decide) dX9_isTold_222 rfl ?_
                refine g_iadd (pc' := 225) hE dX9_isTold_224 rfl ?_
                refine g_eqi (show _ = nI (a + 14) from nI_add _ _) ?_
                refine g_iald (pc' := 226) hE 1 rfl (by omega) (by omega) dX9_isTold_225 rfl ?_
                refine g_istore (pc' := 228) hE [(8, .int (nI (f_tape (a + 14)))), (7, .int (nI (f_tape (a + 12)))), (6, .int (bI z)), (4, .long (lN (num f_tape (a + 8) 4))), (3, .int (nI (num f_tape (a + 4) 2))), (2, .int (nI (f_tape (a + 7) % 32))), (0, .ref mo), (1, .int (nI a))] dX9_isTold_226 rfl (by decide) rfl ?_
                refine g_lload (pc' := 230) hE 3 rfl dX9_isTold_228 rfl ?_
                refine g_bipush (pc' := 232) hE (nI 16) (by decide) dX9_isTold_230 rfl ?_
                refine g_callS (pc' := 235) (As := [.long (lN (num f_tape (a + 8) 4)), .int (nI 16)]) (rest := []) hE (qX9_isPower l D T (num f_tape (a + 8) 4) 16 hr9 (by decide)) mX9_isPower kX9_178 iX9_isPower (by decide) rfl (by decide) [] rfl (by decide) rfl (Nat.le_of_ble_eq_true rfl) dX9_isTold_232 rfl (gBackR [] rfl ?_)
                rintro _ rfl
                refine g_st (st' := [.int (bI (powB (num f_tape (a + 8) 4) 16))]) rfl ?_
                refine g_ifB_eq (pc' := 238) (tgt := 289) hE dX9_isTold_235 rfl rfl (fun hc235 => ?_) (fun hc235 => ?_)
                · refine g_iconst (pc' := 290) hE (nI 0) (by decide) dX9_isTold_289 rfl ?_
                  refine g_istore (pc' := 292) hE [(9, .int (nI 0)), (8, .int (nI (f_tape (a + 14)))), (7, .int (nI (f_tape (a + 12)))), (6, .int (bI z)), (4, .long (lN (num f_tape (a + 8) 4))), (3, .int (nI (num f_tape (a + 4) 2))), (2, .int (nI (f_tape (a + 7) % 32))), (0, .ref mo), (1, .int (nI a))] dX9_isTold_290 rfl (by decide) rfl ?_
                  refine g_iload (pc' := 294) hE 0 rfl dX9_isTold_292 rfl ?_
                  refine g_ifN_ne (pc' := 297) (tgt := 299) hE (by omega) dX9_isTold_294 rfl rfl (fun hc294 => ?_) (fun hc294 => ?_)
                  · first | omega | exact absurd rfl hc294
                  refine g_iconst (pc' := 298) hE (nI 0) (by decide) dX9_isTold_297 rfl ?_
                  exact hE.zret (by first | rfl | exact bI_nar _ | decide) (⟨rfl, false, rfl, ⟨fun y => (by cases y), fun y => by obtain ⟨-, -, -, -, -, -, -, -, y9, -⟩ := y; obtain ⟨w1, w2, w3, w4, w5⟩ := y9 hc203; first | omega | (rw [w1] at hc235; cases hc235)⟩⟩) (Nat.zero_le _) (Nat.zero_le _) dX9_isTold_298
                · refine g_aload_n (pc' := 239) hE 6 rfl rfl dX9_isTold_238 rfl ?_
                  refine g_get (pc' := 242) hE gcX9 0 rfl 1 (by decide) rfl kX9_7 dX9_isTold_239 rfl ?_
                  refine g_iload_n (pc' := 243) hE 7 rfl rfl dX9_isTold_242 rfl ?_
                  refine g_bipush (pc' := 245) hE (nI 13) (by decide) dX9_isTold_243 rfl ?_
                  refine g_iadd (pc' := 246) hE dX9_isTold_245 rfl ?_
                  refine g_eqi (show _ = nI (a + 13) from nI_add _ _) ?_
                  refine g_iald (pc' := 247) hE 1 rfl (by omega) (by omega) dX9_isTold_246 rfl ?_
                  refine g_ifN_ne (pc' := 250) (tgt := 289) hE (by omega) dX9_isTold_247 rfl rfl (fun hc247 => ?_) (fun hc247 => ?_)
                  · refine g_iconst (pc' := 290) hE (nI 0) (by decide) dX9_isTold_289 rfl ?_
                    refine g_istore (pc' := 292) hE [(9, .int (nI 0)), (8, .int (nI (f_tape (a + 14)))), (7, .int (nI (f_tape (a + 12)))), (6, .int (bI z)), (4, .long (lN (num f_tape (a + 8) 4))), (3, .int (nI (num f_tape (a + 4) 2))), (2, .int (nI (f_tape (a + 7) % 32))), (0, .ref mo), (1, .int (nI a))] dX9_isTold_290 rfl (by decide) rfl ?_
                    refine g_iload (pc' := 294) hE 0 rfl dX9_isTold_292 rfl ?_
                    refine g_ifN_ne (pc' := 297) (tgt := 299) hE (by omega) dX9_isTold_294 rfl rfl (fun hc294 => ?_) (fun hc294 => ?_)
                    · first | omega | exact absurd rfl hc294
                    refine g_iconst (pc' := 298) hE (nI 0) (by decide) dX9_isTold_297 rfl ?_
                    exact hE.zret (by first | rfl | exact bI_nar _ | decide) (⟨rfl, false, rfl, ⟨fun y => (by cases y), fun y => by obtain ⟨-, -, -, -, -, -, -, -, y9, -⟩ := y; obtain ⟨w1, w2, w3, w4, w5⟩ := y9 hc203; first | omega | (rw [w1] at hc235; cases hc235)⟩⟩) (Nat.zero_le _) (Nat.zero_le _) dX9_isTold_298
                  · refine g_aload_n (pc' := 251) hE 6 rfl rfl dX9_isTold_250 rfl ?_
                    refine g_get (pc' := 254) hE gcX9 0 rfl 1 (by decide) rfl kX9_7 dX9_isTold_251 rfl ?_
                    refine g_iload_n (pc' := 255) hE 7 rfl rfl dX9_isTold_254 rfl ?_
                    refine g_bipush (pc' := 257) hE (nI 15) (by decide) dX9_isTold_255 rfl ?_
                    refine g_iadd (pc' := 258) hE dX9_isTold_257 rfl ?_
                    refine g_eqi (show _ = nI (a + 15) from nI_add _ _) ?_
                    refine g_iald (pc' := 259) hE 1 rfl (by omega) (by omega) dX9_isTold_258 rfl ?_
                    refine g_bipush (pc' := 261) hE (nI 16) (by decide) dX9_isTold_259 rfl ?_
                    refine g_icmpN_ge (pc' := 264) (tgt := 289) hE (by omega) (by omega) dX9_isTold_261 rfl rfl (fun hc261 => ?_) (fun hc261 => ?_)
                    · refine g_iconst (pc' := 290) hE (nI 0) (by decide) dX9_isTold_289 rfl ?_
                      refine g_istore (pc' := 292) hE [(9, .int (nI 0)), (8, .int (nI (f_tape (a + 14)))), (7, .int (nI (f_tape (a + 12)))), (6, .int (bI z)), (4, .long (lN (num f_tape (a + 8) 4))), (3, .int (nI (num f_tape (a + 4) 2))), (2, .int (nI (f_tape (a + 7) % 32))), (0, .ref mo), (1, .int (nI a))] dX9_isTold_290 rfl (by decide) rfl ?_
                      refine g_iload (pc' := 294) hE 0 rfl dX9_isTold_292 rfl ?_
                      refine g_ifN_ne (pc' := 297) (tgt := 299) hE (by omega) dX9_isTold_294 rfl rfl (fun hc294 => ?_) (fun hc294 => ?_)
                      · first | omega | exact absurd rfl hc294
                      refine g_iconst (pc' := 298) hE (nI 0) (by decide) dX9_isTold_297 rfl ?_
                      exact hE.zret (by first | rfl | exact bI_nar _ | decide) (⟨rfl, false, rfl, ⟨fun y => (by cases y), fun y => by obtain ⟨-, -, -, -, -, -, -, -, y9, -⟩ := y; obtain ⟨w1, w2, w3, w4, w5⟩ := y9 hc203; first | omega | (rw [w1] at hc235; cases hc235)⟩⟩) (Nat.zero_le _) (Nat.zero_le _) dX9_isTold_298
                    · refine g_iload (pc' := 266) hE 1 rfl dX9_isTold_264 rfl ?_
                      refine g_ifN_le (pc' := 269) (tgt := 289) hE (by omega) dX9_isTold_266 rfl rfl (fun hc266 => ?_) (fun hc266 => ?_)
                      · refine g_iconst (pc' := 290) hE (nI 0) (by decide) dX9_isTold_289 rfl ?_
                        refine g_istore (pc' := 292) hE [(9, .int (nI 0)), (8, .int (nI (f_tape (a + 14)))), (7, .int (nI (f_tape (a + 12)))), (6, .int (bI z)), (4, .long (lN (num f_tape (a + 8) 4))), (3, .int (nI (num f_tape (a + 4) 2))), (2, .int (nI (f_tape (a + 7) % 32))), (0, .ref mo), (1, .int (nI a))] dX9_isTold_290 rfl (by decide) rfl ?_
                        refine g_iload (pc' := 294) hE 0 rfl dX9_isTold_292 rfl ?_
                        refine g_ifN_ne (pc' := 297) (tgt := 299) hE (by omega) dX9_isTold_294 rfl rfl (fun hc294 => ?_) (fun hc294 => ?_)
                        · first | omega | exact absurd rfl hc294
                        refine g_iconst (pc' := 298) hE (nI 0) (by decide) dX9_isTold_297 rfl ?_
                        exact hE.zret (by first | rfl | exact bI_nar _ | decide) (⟨rfl, false, rfl, ⟨fun y => (by cases y), fun y => by obtain ⟨-, -, -, -, -, -, -, -, y9, -⟩ := y; obtain ⟨w1, w2, w3, w4, w5⟩ := y9 hc203; first | omega | (rw [w1] at hc235; cases hc235)⟩⟩) (Nat.zero_le _) (Nat.zero_le _) dX9_isTold_298
                      · refine g_iload (pc' := 271) hE 1 rfl dX9_isTold_269 rfl ?_
                        refine g_iload (pc' := 273) hE 0 rfl dX9_isTold_271 rfl ?_
                        refine g_iadd (pc' := 274) hE dX9_isTold_273 rfl ?_
                        refine g_eqi (show _ = nI (f_tape (a + 12) + (f_tape (a + 14))) from nI_add _ _) ?_
                        refine g_i2l (pc' := 275) hE (lN (f_tape (a + 12) + (f_tape (a + 14)))) (nI_l (by omega)) dX9_isTold_274 rfl ?_
                        refine g_ldc2 (pc' := 278) hE (v := lN 8) kX9_168 dX9_isTold_275 rfl ?_
                        refine g_lload (pc' := 280) hE 3 rfl dX9_isTold_278 rfl ?_
                        refine g_lmul (pc' := 281) hE dX9_isTold_280 rfl ?_
                        refine g_eql (show _ = lN (8 * (num f_tape (a + 8) 4)) from lN_mul _ _) ?_
                        refine g_lcmp (pc' := 282) hE dX9_isTold_281 rfl ?_
                        refine g_ifcN_gt (pc' := 285) (tgt := 289) hE (by omega) (by omega) dX9_isTold_282 rfl rfl (fun hc282 => ?_) (fun hc282 => ?_)
                        · refine g_iconst (pc' := 290) hE (nI 0) (by decide) dX9_isTold_289 rfl ?_
                          refine g_istore (pc' := 292) hE [(9, .int (nI 0)), (8, .int (nI (f_tape (a + 14)))), (7, .int (nI (f_tape (a + 12)))), (6, .int (bI z)), (4, .long (lN (num f_tape (a + 8) 4))), (3, .int (nI (num f_tape (a + 4) 2))), (2, .int (nI (f_tape (a + 7) % 32))), (0, .ref mo), (1, .int (nI a))] dX9_isTold_290 rfl (by decide) rfl ?_
                          refine g_iload (pc' := 294) hE 0 rfl dX9_isTold_292 rfl ?_
                          refine g_ifN_ne (pc' := 297) (tgt := 299) hE (by omega) dX9_isTold_294 rfl rfl (fun hc294 => ?_) (fun hc294 => ?_)
                          · first | omega | exact absurd rfl hc294
                          refine g_iconst (pc' := 298) hE (nI 0) (by decide) dX9_isTold_297 rfl ?_
                          exact hE.zret (by first | rfl | exact bI_nar _ | decide) (⟨rfl, false, rfl, ⟨fun y => (by cases y), fun y => by obtain ⟨-, -, -, -, -, -, -, -, y9, -⟩ := y; obtain ⟨w1, w2, w3, w4, w5⟩ := y9 hc203; first | omega | (rw [w1] at hc235; cases hc235)⟩⟩) (Nat.zero_le _) (Nat.zero_le _) dX9_isTold_298
                        · refine g_iconst (pc' := 286) hE (nI 1) (by decide) dX9_isTold_285 rfl ?_
                          refine g_goto (tgt := 290) hE dX9_isTold_286 rfl ?_
                          refine g_istore (pc' := 292) hE [(9, .int (nI 1)), (8, .int (nI (f_tape (a + 14)))), (7, .int (nI (f_tape (a + 12)))), (6, .int (bI z)), (4, .long (lN (num f_tape (a + 8) 4))), (3, .int (nI (num f_tape (a + 4) 2))), (2, .int (nI (f_tape (a + 7) % 32))), (0, .ref mo), (1, .int (nI a))] dX9_isTold_290 rfl (by decide) rfl ?_
                          refine g_iload (pc' := 294) hE 0 rfl dX9_isTold_292 rfl ?_
                          refine g_ifN_ne (pc' := 297) (tgt := 299) hE (by omega) dX9_isTold_294 rfl rfl (fun hc294 => ?_) (fun hc294 => ?_)
                          rotate_left
                          · first | omega | exact absurd rfl hc294
                          refine g_lv [3, 4, 5, 6, 7, 8] (lv' := [(6, .int (bI z)), (4, .long (lN (num f_tape (a + 8) 4))), (3, .int (nI (num f_tape (a + 4) 2))), (2, .int (nI (f_tape (a + 7) % 32))), (0, .ref mo), (1, .int (nI a))]) rfl ?_
                          exact hJ299 z hz h5 h6 h7 h8 (fun y => by first | exact absurd y hc203 | exact ⟨hc235, by omega, by omega, by omega, by omega⟩)
            have hJ165 : ∀ (z : Bool), (z = true ↔ partsK (f_tape (a + 7) % 32)) → (num f_tape (a + 4) 2 = 0 ∨ partsK (f_tape (a + 7) % 32) ∨ f_tape (a + 7) % 32 = 12 ∧ num f_tape (a + 4) 2 ≤ 2) → (f_tape (a + 7) ≤ 127 ∨ 4 ≤ f_tape (a + 7) % 32 ∧ f_tape (a + 7) % 32 ≤ 7) → G l E D 10 0 0 [(mo, .inr (8, [.int (nI v_thrown), .ref r_tape, .int (nI v_taped), .ref r_output, .ref r_draft, .int (nI v_written), .int (nI v_error), .int (nI v_stands), .int (nI v_many), .ref r_letters, .ref r_name, .ref r_kind, .ref r_vary, .ref r_flag, .ref r_rest, .ref r_more, .ref r_one, .ref r_two, .ref r_begin, .ref r_partName, .ref r_partType, .ref r_partNumber, .int (nI v_nextMany), .int (nI v_nextParts), .ref r_nextName, .ref r_nextKind, .ref r_nextVary, .ref r_nextFlag, .ref r_nextRest, .ref r_nextMore, .ref r_nextOne, .ref r_nextTwo, .ref r_nextBegin, .ref r_nextPartName, .ref r_nextPartType, .ref r_nextPartNumber, .ref r_apart, .ref r_leader, .ref r_number, .int (nI v_classes), .int (nI v_stringsAt), .int (nI v_stringsEnd), .ref r_way, .ref r_seen, .int (nI v_drafted), .ref r_told, .ref r_toldAt, .int (nI v_tolds), .int (nI v_stringsSize)])), (r_tape, .inl (T 0, 8192, .inl (fun z9 => nI (f_tape z9))))] [(6, .int (bI z)), (4, .long (lN (num f_tape (a + 8) 4))), (3, .int (nI (num f_tape (a + 4) 2))), (2, .int (nI (f_tape (a + 7) % 32))), (0, .ref mo), (1, .int (nI a))] 165 [] := by
              intro z hz h5 h6
              refine g_iload_n (pc' := 166) hE 3 rfl rfl dX9_isTold_165 rfl ?_
              refine g_iconst (pc' := 167) hE (nI 3) (by decide) dX9_isTold_166 rfl ?_
              refine g_icmpN_eq (pc' := 170) (tgt := 176) hE (by omega) (by omega) dX9_isTold_167 rfl rfl (fun hc167 => ?_) (fun hc167 => ?_)
              · refine g_lload (pc' := 178) hE 1 rfl dX9_isTold_176 rfl ?_
                refine g_lconst (pc' := 179) hE (lN 0) (by decide) dX9_isTold_178 rfl ?_
                refine g_lcmp (pc' := 180) hE dX9_isTold_179 rfl ?_
                refine g_ifcN_ne (pc' := 183) (tgt := 199) hE (by omega) (by omega) dX9_isTold_180 rfl rfl (fun hc180 => ?_) (fun hc180 => ?_)
                · refine g_iconst (pc' := 200) hE (nI 0) (by decide) dX9_isTold_199 rfl ?_
                  exact hE.zret (by first | rfl | exact bI_nar _ | decide) (⟨rfl, false, rfl, ⟨fun y => (by cases y), fun y => by obtain ⟨-, -, -, -, -, -, y7, y8, -⟩ := y; first | exact absurd (y7 (by omega)) hc180 | (rw [y8 (by omega)] at hc196; cases hc196)⟩⟩) (Nat.zero_le _) (Nat.zero_le _) dX9_isTold_200
                · refine g_iload_n (pc' := 184) hE 3 rfl rfl dX9_isTold_183 rfl ?_
                  refine g_bipush (pc' := 186) hE (nI 6) (by decide) dX9_isTold_184 rfl ?_
                  refine g_icmpN_ne (pc' := 189) (tgt := 201) hE (by omega) (by omega) dX9_isTold_186 rfl rfl (fun hc186 => ?_) (fun hc186 => ?_)
                  · exact hJ201 z hz h5 h6 (fun y => by first | omega | exact hc180) (fun y => by first | exact absurd y hc186 | exact hc196)
                  · refine g_lload (pc' := 191) hE 1 rfl dX9_isTold_189 rfl ?_
                    refine g_bipush (pc' := 193) hE (nI 8) (by decide) dX9_isTold_191 rfl ?_
                    refine g_callS (pc' := 196) (As := [.long (lN (num f_tape (a + 8) 4)), .int (nI 8)]) (rest := []) hE (qX9_isPower l D T (num f_tape (a + 8) 4) 8 hr9 (by decide)) mX9_isPower kX9_178 iX9_isPower (by decide) rfl (by decide) [] rfl (by decide) rfl (Nat.le_of_ble_eq_true rfl) dX9_isTold_193 rfl (gBackR [] rfl ?_)
                    rintro _ rfl
                    refine g_st (st' := [.int (bI (powB (num f_tape (a + 8) 4) 8))]) rfl ?_
                    refine g_ifB_ne (pc' := 199) (tgt := 201) hE dX9_isTold_196 rfl rfl (fun hc196 => ?_) (fun hc196 => ?_)
                    · exact hJ201 z hz h5 h6 (fun y => by first | omega | exact hc180) (fun y => by first | exact absurd y hc186 | exact hc196)
                    · refine g_iconst (pc' := 200) hE (nI 0) (by decide) dX9_isTold_199 rfl ?_
                      exact hE.zret (by first | rfl | exact bI_nar _ | decide) (⟨rfl, false, rfl, ⟨fun y => (by cases y), fun y => by obtain ⟨-, -, -, -, -, -, y7, y8, -⟩ := y; first | exact absurd (y7 (by omega)) hc180 | (rw [y8 (by omega)] at hc196; cases hc196)⟩⟩) (Nat.zero_le _) (Nat.zero_le _) dX9_isTold_200
              · refine g_iload_n (pc' := 171) hE 3 rfl rfl dX9_isTold_170 rfl ?_
                refine g_bipush (pc' := 173) hE (nI 7) (by decide) dX9_isTold_171 rfl ?_
                refine g_icmpN_ne (pc' := 176) (tgt := 183) hE (by omega) (by omega) dX9_isTold_173 rfl rfl (fun hc173 => ?_) (fun hc173 => ?_)
                · refine g_iload_n (pc' := 184) hE 3 rfl rfl dX9_isTold_183 rfl ?_
                  refine g_bipush (pc' := 186) hE (nI 6) (by decide) dX9_isTold_184 rfl ?_
                  refine g_icmpN_ne (pc' := 189) (tgt := 201) hE (by omega) (by omega) dX9_isTold_186 rfl rfl (fun hc186 => ?_) (fun hc186 => ?_)
                  · exact hJ201 z hz h5 h6 (fun y => by first | omega | exact hc180) (fun y => by first | exact absurd y hc186 | exact hc196)
                  · refine g_lload (pc' := 191) hE 1 rfl dX9_isTold_189 rfl ?_
                    refine g_bipush (pc' := 193) hE (nI 8) (by decide) dX9_isTold_191 rfl ?_
                    refine g_callS (pc' := 196) (As := [.long (lN (num f_tape (a + 8) 4)), .int (nI 8)]) (rest := []) hE (qX9_isPower l D T (num f_tape (a + 8) 4) 8 hr9 (by decide)) mX9_isPower kX9_178 iX9_isPower (by decide) rfl (by decide) [] rfl (by decide) rfl (Nat.le_of_ble_eq_true rfl) dX9_isTold_193 rfl (gBackR [] rfl ?_)
                    rintro _ rfl
                    refine g_st (st' := [.int (bI (powB (num f_tape (a + 8) 4) 8))]) rfl ?_
                    refine g_ifB_ne (pc' := 199) (tgt := 201) hE dX9_isTold_196 rfl rfl (fun hc196 => ?_) (fun hc196 => ?_)
                    · exact hJ201 z hz h5 h6 (fun y => by first | omega | exact hc180) (fun y => by first | exact absurd y hc186 | exact hc196)
                    · refine g_iconst (pc' := 200) hE (nI 0) (by decide) dX9_isTold_199 rfl ?_
                      exact hE.zret (by first | rfl | exact bI_nar _ | decide) (⟨rfl, false, rfl, ⟨fun y => (by cases y), fun y => by obtain ⟨-, -, -, -, -, -, y7, y8, -⟩ := y; first | exact absurd (y7 (by omega)) hc180 | (rw [y8 (by omega)] at hc196; cases hc196)⟩⟩) (Nat.zero_le _) (Nat.zero_le _) dX9_isTold_200
                · refine g_lload (pc' := 178) hE 1 rfl dX9_isTold_176 rfl ?_
                  refine g_lconst (pc' := 179) hE (lN 0) (by decide) dX9_isTold_178 rfl ?_
                  refine g_lcmp (pc' := 180) hE dX9_isTold_179 rfl ?_
                  refine g_ifcN_ne (pc' := 183) (tgt := 199) hE (by omega) (by omega) dX9_isTold_180 rfl rfl (fun hc180 => ?_) (fun hc180 => ?_)
                  · refine g_iconst (pc' := 200) hE (nI 0) (by decide) dX9_isTold_199 rfl ?_
                    exact hE.zret (by first | rfl | exact bI_nar _ | decide) (⟨rfl, false, rfl, ⟨fun y => (by cases y), fun y => by obtain ⟨-, -, -, -, -, -, y7, y8, -⟩ := y; first | exact absurd (y7 (by omega)) hc180 | (rw [y8 (by omega)] at hc196; cases hc196)⟩⟩) (Nat.zero_le _) (Nat.zero_le _) dX9_isTold_200
                  · refine g_iload_n (pc' := 184) hE 3 rfl rfl dX9_isTold_183 rfl ?_
                    refine g_bipush (pc' := 186) hE (nI 6) (by decide) dX9_isTold_184 rfl ?_
                    refine g_icmpN_ne (pc' := 189) (tgt := 201) hE (by omega) (by omega) dX9_isTold_186 rfl rfl (fun hc186 => ?_) (fun hc186 => ?_)
                    · exact hJ201 z hz h5 h6 (fun y => by first | omega | exact hc180) (fun y => by first | exact absurd y hc186 | exact hc196)
                    · refine g_lload (pc' := 191) hE 1 rfl dX9_isTold_189 rfl ?_
                      refine g_bipush (pc' := 193) hE (nI 8) (by decide) dX9_isTold_191 rfl ?_
                      refine g_callS (pc' := 196) (As := [.long (lN (num f_tape (a + 8) 4)), .int (nI 8)]) (rest := []) hE (qX9_isPower l D T (num f_tape (a + 8) 4) 8 hr9 (by decide)) mX9_isPower kX9_178 iX9_isPower (by decide) rfl (by decide) [] rfl (by decide) rfl (Nat.le_of_ble_eq_true rfl) dX9_isTold_193 rfl (gBackR [] rfl ?_)
                      rintro _ rfl
                      refine g_st (st' := [.int (bI (powB (num f_tape (a + 8) 4) 8))]) rfl ?_
                      refine g_ifB_ne (pc' := 199) (tgt := 201) hE dX9_isTold_196 rfl rfl (fun hc196 => ?_) (fun hc196 => ?_)
                      · exact hJ201 z hz h5 h6 (fun y => by first | omega | exact hc180) (fun y => by first | exact absurd y hc186 | exact hc196)
                      · refine g_iconst (pc' := 200) hE (nI 0) (by decide) dX9_isTold_199 rfl ?_
                        exact hE.zret (by first | rfl | exact bI_nar _ | decide) (⟨rfl, false, rfl, ⟨fun y => (by cases y), fun y => by obtain ⟨-, -, -, -, -, -, y7, y8, -⟩ := y; first | exact absurd (y7 (by omega)) hc180 | (rw [y8 (by omega)] at hc196; cases hc196)⟩⟩) (Nat.zero_le _) (Nat.zero_le _) dX9_isTold_200
            have hJ135 : ∀ (z : Bool), (z = true ↔ partsK (f_tape (a + 7) % 32)) → (num f_tape (a + 4) 2 = 0 ∨ partsK (f_tape (a + 7) % 32) ∨ f_tape (a + 7) % 32 = 12 ∧ num f_tape (a + 4) 2 ≤ 2) → G l E D 10 0 0 [(mo, .inr (8, [.int (nI v_thrown), .ref r_tape, .int (nI v_taped), .ref r_output, .ref r_draft, .int (nI v_written), .int (nI v_error), .int (nI v_stands), .int (nI v_many), .ref r_letters, .ref r_name, .ref r_kind, .ref r_vary, .ref r_flag, .ref r_rest, .ref r_more, .ref r_one, .ref r_two, .ref r_begin, .ref r_partName, .ref r_partType, .ref r_partNumber, .int (nI v_nextMany), .int (nI v_nextParts), .ref r_nextName, .ref r_nextKind, .ref r_nextVary, .ref r_nextFlag, .ref r_nextRest, .ref r_nextMore, .ref r_nextOne, .ref r_nextTwo, .ref r_nextBegin, .ref r_nextPartName, .ref r_nextPartType, .ref r_nextPartNumber, .ref r_apart, .ref r_leader, .ref r_number, .int (nI v_classes), .int (nI v_stringsAt), .int (nI v_stringsEnd), .ref r_way, .ref r_seen, .int (nI v_drafted), .ref r_told, .ref r_toldAt, .int (nI v_tolds), .int (nI v_stringsSize)])), (r_tape, .inl (T 0, 8192, .inl (fun z9 => nI (f_tape z9))))] [(6, .int (bI z)), (4, .long (lN (num f_tape (a + 8) 4))), (3, .int (nI (num f_tape (a + 4) 2))), (2, .int (nI (f_tape (a + 7) % 32))), (0, .ref mo), (1, .int (nI a))] 135 [] := by
              intro z hz h5
              refine g_aload_n (pc' := 136) hE 4 rfl rfl dX9_isTold_135 rfl ?_
              refine g_get (pc' := 139) hE gcX9 0 rfl 1 (by decide) rfl kX9_7 dX9_isTold_136 rfl ?_
              refine g_iload_n (pc' := 140) hE 5 rfl rfl dX9_isTold_139 rfl ?_
              refine g_bipush (pc' := 142) hE (nI 7) (by decide) dX9_isTold_140 rfl ?_
              refine g_iadd (pc' := 143) hE dX9_isTold_142 rfl ?_
              refine g_eqi (show _ = nI (a + 7) from nI_add _ _) ?_
              refine g_iald (pc' := 144) hE 1 rfl (by omega) (by omega) dX9_isTold_143 rfl ?_
              refine g_bipush (pc' := 146) hE (nI 127) (by decide) dX9_isTold_144 rfl ?_
              refine g_icmpN_le (pc' := 149) (tgt := 165) hE (by omega) (by omega) dX9_isTold_146 rfl rfl (fun hc146 => ?_) (fun hc146 => ?_)
              · exact hJ165 z hz h5 (by omega)
              · refine g_iload_n (pc' := 150) hE 3 rfl rfl dX9_isTold_149 rfl ?_
                refine g_i2l (pc' := 151) hE (lN (f_tape (a + 7) % 32)) (nI_l (by omega)) dX9_isTold_150 rfl ?_
                refine g_ldc2 (pc' := 154) hE (v := lN 4) kX9_166 dX9_isTold_151 rfl ?_
                refine g_ldc2 (pc' := 157) hE (v := lN 7) kX9_172 dX9_isTold_154 rfl ?_
                refine g_callS (pc' := 160) (As := [.long (lN (f_tape (a + 7) % 32)), .long (lN 4), .long (lN 7)]) (rest := []) hE (qX9_in l D T (lN (f_tape (a + 7) % 32)) (lN 4) (lN 7)) mX9_in kX9_174 iX9_in (by decide) rfl (by decide) [] rfl (by decide) rfl (Nat.le_of_ble_eq_true rfl) dX9_isTold_157 rfl (gBackR [] rfl ?_)
                rintro _ rfl
                refine g_st (st' := [.int (bI (inB (lN (f_tape (a + 7) % 32)) (lN 4) (lN 7)))]) rfl ?_
                refine g_ifB_ne (pc' := 163) (tgt := 165) hE dX9_isTold_160 rfl rfl (fun hc160 => ?_) (fun hc160 => ?_)
                · rw [inB_N (by omega) (by decide) (by decide)] at hc160
                  have hc160 := of_decide_eq_true hc160
                  exact hJ165 z hz h5 (by omega)
                · rw [inB_N (by omega) (by decide) (by decide)] at hc160
                  have hc160 := of_decide_eq_false hc160
                  refine g_iconst (pc' := 164) hE (nI 0) (by decide) dX9_isTold_163 rfl ?_
                  exact hE.zret (by first | rfl | exact bI_nar _ | decide) (⟨rfl, false, rfl, ⟨fun y => (by cases y), fun y => by obtain ⟨-, -, -, -, -, y6, -⟩ := y; omega⟩⟩) (Nat.zero_le _) (Nat.zero_le _) dX9_isTold_164
            have hJ111 : ∀ (z : Bool), (z = true ↔ partsK (f_tape (a + 7) % 32)) → G l E D 10 0 0 [(mo, .inr (8, [.int (nI v_thrown), .ref r_tape, .int (nI v_taped), .ref r_output, .ref r_draft, .int (nI v_written), .int (nI v_error), .int (nI v_stands), .int (nI v_many), .ref r_letters, .ref r_name, .ref r_kind, .ref r_vary, .ref r_flag, .ref r_rest, .ref r_more, .ref r_one, .ref r_two, .ref r_begin, .ref r_partName, .ref r_partType, .ref r_partNumber, .int (nI v_nextMany), .int (nI v_nextParts), .ref r_nextName, .ref r_nextKind, .ref r_nextVary, .ref r_nextFlag, .ref r_nextRest, .ref r_nextMore, .ref r_nextOne, .ref r_nextTwo, .ref r_nextBegin, .ref r_nextPartName, .ref r_nextPartType, .ref r_nextPartNumber, .ref r_apart, .ref r_leader, .ref r_number, .int (nI v_classes), .int (nI v_stringsAt), .int (nI v_stringsEnd), .ref r_way, .ref r_seen, .int (nI v_drafted), .ref r_told, .ref r_toldAt, .int (nI v_tolds), .int (nI v_stringsSize)])), (r_tape, .inl (T 0, 8192, .inl (fun z9 => nI (f_tape z9))))] [(4, .long (lN (num f_tape (a + 8) 4))), (3, .int (nI (num f_tape (a + 4) 2))), (2, .int (nI (f_tape (a + 7) % 32))), (0, .ref mo), (1, .int (nI a))] 111 [.int (bI z)] := by
              intro z hz
              refine g_istore (pc' := 113) hE [(6, .int (bI z)), (4, .long (lN (num f_tape (a + 8) 4))), (3, .int (nI (num f_tape (a + 4) 2))), (2, .int (nI (f_tape (a + 7) % 32))), (0, .ref mo), (1, .int (nI a))] dX9_isTold_111 rfl (by decide) rfl ?_
              refine g_iload_n (pc' := 114) hE 2 rfl rfl dX9_isTold_113 rfl ?_
              refine g_ifN_le (pc' := 117) (tgt := 135) hE (by omega) dX9_isTold_114 rfl rfl (fun hc114 => ?_) (fun hc114 => ?_)
              · exact hJ135 z hz (by first | exact Or.inl (by omega) | exact Or.inr (Or.inl (hz.mp hc119)) | exact Or.inr (Or.inr ⟨by omega, by omega⟩))
              · refine g_iload (pc' := 119) hE 0 rfl dX9_isTold_117 rfl ?_
                refine g_ifB_ne (pc' := 122) (tgt := 135) hE dX9_isTold_119 rfl rfl (fun hc119 => ?_) (fun hc119 => ?_)
                · exact hJ135 z hz (by first | exact Or.inl (by omega) | exact Or.inr (Or.inl (hz.mp hc119)) | exact Or.inr (Or.inr ⟨by omega, by omega⟩))
                · refine g_iload_n (pc' := 123) hE 3 rfl rfl dX9_isTold_122 rfl ?_
                  refine g_bipush (pc' := 125) hE (nI 12) (by decide) dX9_isTold_123 rfl ?_
                  refine g_icmpN_ne (pc' := 128) (tgt := 133) hE (by omega) (by omega) dX9_isTold_125 rfl rfl (fun hc125 => ?_) (fun hc125 => ?_)
                  · refine g_iconst (pc' := 134) hE (nI 0) (by decide) dX9_isTold_133 rfl ?_
                    exact hE.zret (by first | rfl | exact bI_nar _ | decide) (⟨rfl, false, rfl, ⟨fun y => (by cases y), fun y => by obtain ⟨-, -, -, -, y5, -⟩ := y; rcases y5 with w | w | w; omega; (rw [hz.mpr w] at hc119; cases hc119); omega⟩⟩) (Nat.zero_le _) (Nat.zero_le _) dX9_isTold_134
                  · refine g_iload_n (pc' := 129) hE 2 rfl rfl dX9_isTold_128 rfl ?_
                    refine g_iconst (pc' := 130) hE (nI 2) (by decide) dX9_isTold_129 rfl ?_
                    refine g_icmpN_le (pc' := 133) (tgt := 135) hE (by omega) (by omega) dX9_isTold_130 rfl rfl (fun hc130 => ?_) (fun hc130 => ?_)
                    · exact hJ135 z hz (by first | exact Or.inl (by omega) | exact Or.inr (Or.inl (hz.mp hc119)) | exact Or.inr (Or.inr ⟨by omega, by omega⟩))
                    · refine g_iconst (pc' := 134) hE (nI 0) (by decide) dX9_isTold_133 rfl ?_
                      exact hE.zret (by first | rfl | exact bI_nar _ | decide) (⟨rfl, false, rfl, ⟨fun y => (by cases y), fun y => by obtain ⟨-, -, -, -, y5, -⟩ := y; rcases y5 with w | w | w; omega; (rw [hz.mpr w] at hc119; cases hc119); omega⟩⟩) (Nat.zero_le _) (Nat.zero_le _) dX9_isTold_134
            refine g_iload_n (pc' := 85) hE 2 rfl rfl dX9_isTold_84 rfl ?_
            refine g_iconst (pc' := 86) hE (nI 4) (by decide) dX9_isTold_85 rfl ?_
            refine g_icmpN_eq (pc' := 89) (tgt := 106) hE (by omega) (by omega) dX9_isTold_86 rfl rfl (fun hc86 => ?_) (fun hc86 => ?_)
            · refine g_iconst (pc' := 107) hE (nI 1) (by decide) dX9_isTold_106 rfl ?_
              refine g_goto (tgt := 111) hE dX9_isTold_107 rfl ?_
              refine g_st (st' := [.int (bI true)]) rfl ?_
              exact hJ111 true (⟨fun _ => by unfold partsK; omega, fun _ => rfl⟩)
            · refine g_iload_n (pc' := 90) hE 2 rfl rfl dX9_isTold_89 rfl ?_
              refine g_iconst (pc' := 91) hE (nI 5) (by decide) dX9_isTold_90 rfl ?_
              refine g_icmpN_eq (pc' := 94) (tgt := 106) hE (by omega) (by omega) dX9_isTold_91 rfl rfl (fun hc91 => ?_) (fun hc91 => ?_)
              · refine g_iconst (pc' := 107) hE (nI 1) (by decide) dX9_isTold_106 rfl ?_
                refine g_goto (tgt := 111) hE dX9_isTold_107 rfl ?_
                refine g_st (st' := [.int (bI true)]) rfl ?_
                exact hJ111 true (⟨fun _ => by unfold partsK; omega, fun _ => rfl⟩)
              · refine g_iload_n (pc' := 95) hE 2 rfl rfl dX9_isTold_94 rfl ?_
                refine g_bipush (pc' := 97) hE (nI 6) (by decide) dX9_isTold_95 rfl ?_
                refine g_icmpN_eq (pc' := 100) (tgt := 106) hE (by omega) (by omega) dX9_isTold_97 rfl rfl (fun hc97 => ?_) (fun hc97 => ?_)
                · refine g_iconst (pc' := 107) hE (nI 1) (by decide) dX9_isTold_106 rfl ?_
                  refine g_goto (tgt := 111) hE dX9_isTold_107 rfl ?_
                  refine g_st (st' := [.int (bI true)]) rfl ?_
                  exact hJ111 true (⟨fun _ => by unfold partsK; omega, fun _ => rfl⟩)
                · refine g_iload_n (pc' := 101) hE 2 rfl rfl dX9_isTold_100 rfl ?_
                  refine g_bipush (pc' := 103) hE (nI 13) (by decide) dX9_isTold_101 rfl ?_
                  refine g_icmpN_ne (pc' := 106) (tgt := 110) hE (by omega) (by omega) dX9_isTold_103 rfl rfl (fun hc103 => ?_) (fun hc103 => ?_)
                  · refine g_iconst (pc' := 111) hE (nI 0) (by decide) dX9_isTold_110 rfl ?_
                    refine g_st (st' := [.int (bI false)]) rfl ?_
                    exact hJ111 false (⟨fun y => (by cases y), fun y => by unfold partsK at y; omega⟩)
                  · refine g_iconst (pc' := 107) hE (nI 1) (by decide) dX9_isTold_106 rfl ?_
                    refine g_goto (tgt := 111) hE dX9_isTold_107 rfl ?_
                    refine g_st (st' := [.int (bI true)]) rfl ?_
                    exact hJ111 true (⟨fun _ => by unfold partsK; omega, fun _ => rfl⟩)
          · refine g_iconst (pc' := 83) hE (nI 0) (by decide) dX9_isTold_82 rfl ?_
            exact hE.zret (by first | rfl | exact bI_nar _ | decide) (⟨rfl, false, rfl, ⟨fun y => (by cases y), fun y => by obtain ⟨y1, y2, y3, y4, -⟩ := y; omega⟩⟩) (Nat.zero_le _) (Nat.zero_le _) dX9_isTold_83
