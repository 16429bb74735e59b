set_option maxHeartbeats 4000000 in
set_option maxRecDepth 100000 in
theorem qX9_refer3 (l : Launch) (D : va_G) (T : Nat → ClassId) (mo r_tape r_output r_draft r_letters r_name r_kind r_vary r_flag r_rest r_more r_one r_two r_begin r_partName r_partType r_partNumber r_nextName r_nextKind r_nextVary r_nextFlag r_nextRest r_nextMore r_nextOne r_nextTwo r_nextBegin r_nextPartName r_nextPartType r_nextPartNumber r_apart r_leader r_number r_way r_seen r_told r_toldAt v_thrown v_taped v_written v_error v_stands v_many v_nextMany v_nextParts v_classes v_stringsAt v_stringsEnd v_drafted v_tolds v_stringsSize : Nat) (f_kind : Nat → Nat) (f_one : Nat → Nat) (f_two : Nat → Nat) (f_begin : Nat → Nat) (f_rest : Nat → Nat) (f_partType : Nat → Nat) (i j : Nat) (hi : i ≤ 201) (hj : j < 2 ^ 20) (hk : f_kind i = 3) : Con l D T yX9_refer cX9_refer 3 (some .int) 0 0 0 [.ref mo, .int (nI i), .int (nI j)] [(mo, .inr (8, [.int (nI v_thrown), .ref r_tape, .int (nI v_taped), .ref r_output, .ref r_draft, .int (nI v_written), .int (nI v_error), .int (nI v_stands), .int (nI v_many), .ref r_letters, .ref r_name, .ref r_kind, .ref r_vary, .ref r_flag, .ref r_rest, .ref r_more, .ref r_one, .ref r_two, .ref r_begin, .ref r_partName, .ref r_partType, .ref r_partNumber, .int (nI v_nextMany), .int (nI v_nextParts), .ref r_nextName, .ref r_nextKind, .ref r_nextVary, .ref r_nextFlag, .ref r_nextRest, .ref r_nextMore, .ref r_nextOne, .ref r_nextTwo, .ref r_nextBegin, .ref r_nextPartName, .ref r_nextPartType, .ref r_nextPartNumber, .ref r_apart, .ref r_leader, .ref r_number, .int (nI v_classes), .int (nI v_stringsAt), .int (nI v_stringsEnd), .ref r_way, .ref r_seen, .int (nI v_drafted), .ref r_told, .ref r_toldAt, .int (nI v_tolds), .int (nI v_stringsSize)])), (r_kind, .inl (T 0, 202, .inl (fun z9 => nI (f_kind z9)))), (r_one, .inl (T 1, 202, .inr (.inl (fun z9 => lN (f_one z9))))), (r_two, .inl (T 1, 202, .inr (.inl (fun z9 => lN (f_two z9))))), (r_begin, .inl (T 0, 203, .inl (fun z9 => nI (f_begin z9)))), (r_rest, .inl (T 1, 202, .inr (.inl (fun z9 => lN (f_rest z9))))), (r_partType, .inl (T 1, 601, .inr (.inl (fun z9 => lN (f_partType z9)))))] (fun v w1 => w1 = [(mo, .inr (8, [.int (nI v_thrown), .ref r_tape, .int (nI v_taped), .ref r_output, .ref r_draft, .int (nI v_written), .int (nI v_error), .int (nI v_stands), .int (nI v_many), .ref r_letters, .ref r_name, .ref r_kind, .ref r_vary, .ref r_flag, .ref r_rest, .ref r_more, .ref r_one, .ref r_two, .ref r_begin, .ref r_partName, .ref r_partType, .ref r_partNumber, .int (nI v_nextMany), .int (nI v_nextParts), .ref r_nextName, .ref r_nextKind, .ref r_nextVary, .ref r_nextFlag, .ref r_nextRest, .ref r_nextMore, .ref r_nextOne, .ref r_nextTwo, .ref r_nextBegin, .ref r_nextPartName, .ref r_nextPartType, .ref r_nextPartNumber, .ref r_apart, .ref r_leader, .ref r_number, .int (nI v_classes), .int (nI v_stringsAt), .int (nI v_stringsEnd), .ref r_way, .ref r_seen, .int (nI v_drafted), .ref r_told, .ref r_toldAt, .int (nI v_tolds), .int (nI v_stringsSize)])), (r_kind, .inl (T 0, 202, .inl (fun z9 => nI (f_kind z9)))), (r_one, .inl (T 1, 202, .inr (.inl (fun z9 => lN (f_one z9))))), (r_two, .inl (T 1, 202, .inr (.inl (fun z9 => lN (f_two z9))))), (r_begin, .inl (T 0, 203, .inl (fun z9 => nI (f_begin z9)))), (r_rest, .inl (T 1, 202, .inr (.inl (fun z9 => lN (f_rest z9))))), (r_partType, .inl (T 1, 601, .inr (.inl (fun z9 => lN (f_partType z9)))))] ∧ v = some (.int (nI (mrf f_kind f_begin f_one f_two f_rest f_partType i j)))) := by
  refine Con.of (by decide) (Nat.le_of_ble_eq_true rfl) ?_
  intro E hE
  refine g_lv (lv' := [(0, .ref mo), (1, .int (nI i)), (2, .int (nI j))]) [0, 1, 2] rfl ?_
  refine g_aload_n (pc' := 1) hE 0 rfl rfl dX9_refer_0 rfl ?_
  refine g_get (pc' := 4) hE gcX9 0 rfl 11 (by decide) rfl kX9_25 dX9_refer_1 rfl ?_
  refine g_iload_n (pc' := 5) hE 1 rfl rfl dX9_refer_4 rfl ?_
  refine g_iald (pc' := 6) hE 1 rfl (by omega) (by omega) dX9_refer_5 rfl ?_
  refine g_iconst (pc' := 7) hE (nI 3) (by decide) dX9_refer_6 rfl ?_
  refine g_icmpN_ne (pc' := 10) (tgt := 31) hE (by omega) (by omega) dX9_refer_7 rfl rfl (fun hc7 => ?_) (fun hc7 => ?_)
  · omega
  refine g_iload_n (pc' := 11) hE 2 rfl rfl dX9_refer_10 rfl ?_
  refine g_ifN_ne (pc' := 14) (tgt := 23) hE (by omega) dX9_refer_11 rfl rfl (fun hc11 => ?_) (fun hc11 => ?_)
  · refine g_aload_n (pc' := 24) hE 0 rfl rfl dX9_refer_23 rfl ?_
    refine g_get (pc' := 27) hE gcX9 0 rfl 17 (by decide) rfl kX9_44 dX9_refer_24 rfl ?_
    refine g_iload_n (pc' := 28) hE 1 rfl rfl dX9_refer_27 rfl ?_
    refine g_lald (pc' := 29) hE 3 rfl (by omega) (by omega) dX9_refer_28 rfl ?_
    refine g_l2i (pc' := 30) hE (nI (f_two i)) (lN_i _) dX9_refer_29 rfl ?_
    exact hE.iret (⟨rfl, by unfold mrf; rw [if_pos hk]; first | rw [if_pos (by omega)] | rw [if_neg (by omega)]⟩) (Nat.zero_le _) (Nat.zero_le _) dX9_refer_30
  · refine g_aload_n (pc' := 15) hE 0 rfl rfl dX9_refer_14 rfl ?_
    refine g_get (pc' := 18) hE gcX9 0 rfl 16 (by decide) rfl kX9_41 dX9_refer_15 rfl ?_
    refine g_iload_n (pc' := 19) hE 1 rfl rfl dX9_refer_18 rfl ?_
    refine g_lald (pc' := 20) hE 2 rfl (by omega) (by omega) dX9_refer_19 rfl ?_
    refine g_goto (tgt := 29) hE dX9_refer_20 rfl ?_
    refine g_l2i (pc' := 30) hE (nI (f_one i)) (lN_i _) dX9_refer_29 rfl ?_
    exact hE.iret (⟨rfl, by unfold mrf; rw [if_pos hk]; first | rw [if_pos (by omega)] | rw [if_neg (by omega)]⟩) (Nat.zero_le _) (Nat.zero_le _) dX9_refer_30

set_option maxRecDepth 100000 in
theorem qX9_referencesT (l : Launch) (D : va_G) (T : Nat → ClassId) (mo r_tape r_output r_draft r_letters r_name r_kind r_vary r_flag r_rest r_more r_one r_two r_begin r_partName r_partType r_partNumber r_nextName r_nextKind r_nextVary r_nextFlag r_nextRest r_nextMore r_nextOne r_nextTwo r_nextBegin r_nextPartName r_nextPartType r_nextPartNumber r_apart r_leader r_number r_way r_seen r_told r_toldAt v_thrown v_taped v_written v_error v_stands v_many v_nextMany v_nextParts v_classes v_stringsAt v_stringsEnd v_drafted v_tolds v_stringsSize : Nat) (t : Nat → Nat) (sg v_S : Nat) (f_letters : Nat → Nat) (f_name : Nat → Nat) (f_kind : Nat → Nat) (f_vary : Nat → Nat) (f_flag : Nat → Nat) (f_rest : Nat → Nat) (f_more : Nat → Nat) (f_one : Nat → Nat) (f_two : Nat → Nat) (f_begin : Nat → Nat) (f_partName : Nat → Nat) (f_partType : Nat → Nat) (f_partNumber : Nat → Nat) (i : Nat) (hS : MS t sg v_S v_many f_letters f_name f_kind f_vary f_flag f_rest f_more f_one f_two f_begin f_partName f_partType f_partNumber) (h1 : 1 ≤ i) (h2 : i ≤ v_many) : Con l D T yX9_references cX9_references 3 (some .int) 1 0 0 [.ref mo, .int (nI i)] [(mo, .inr (8, [.int (nI v_thrown), .ref r_tape, .int (nI v_taped), .ref r_output, .ref r_draft, .int (nI v_written), .int (nI v_error), .int (nI v_stands), .int (nI v_many), .ref r_letters, .ref r_name, .ref r_kind, .ref r_vary, .ref r_flag, .ref r_rest, .ref r_more, .ref r_one, .ref r_two, .ref r_begin, .ref r_partName, .ref r_partType, .ref r_partNumber, .int (nI v_nextMany), .int (nI v_nextParts), .ref r_nextName, .ref r_nextKind, .ref r_nextVary, .ref r_nextFlag, .ref r_nextRest, .ref r_nextMore, .ref r_nextOne, .ref r_nextTwo, .ref r_nextBegin, .ref r_nextPartName, .ref r_nextPartType, .ref r_nextPartNumber, .ref r_apart, .ref r_leader, .ref r_number, .int (nI v_classes), .int (nI v_stringsAt), .int (nI v_stringsEnd), .ref r_way, .ref r_seen, .int (nI v_drafted), .ref r_told, .ref r_toldAt, .int (nI v_tolds), .int (nI v_stringsSize)])), (r_kind, .inl (T 0, 202, .inl (fun z9 => nI (f_kind z9)))), (r_begin, .inl (T 0, 203, .inl (fun z9 => nI (f_begin z9))))] (fun v w1 => w1 = [(mo, .inr (8, [.int (nI v_thrown), .ref r_tape, .int (nI v_taped), .ref r_output, .ref r_draft, .int (nI v_written), .int (nI v_error), .int (nI v_stands), .int (nI v_many), .ref r_letters, .ref r_name, .ref r_kind, .ref r_vary, .ref r_flag, .ref r_rest, .ref r_more, .ref r_one, .ref r_two, .ref r_begin, .ref r_partName, .ref r_partType, .ref r_partNumber, .int (nI v_nextMany), .int (nI v_nextParts), .ref r_nextName, .ref r_nextKind, .ref r_nextVary, .ref r_nextFlag, .ref r_nextRest, .ref r_nextMore, .ref r_nextOne, .ref r_nextTwo, .ref r_nextBegin, .ref r_nextPartName, .ref r_nextPartType, .ref r_nextPartNumber, .ref r_apart, .ref r_leader, .ref r_number, .int (nI v_classes), .int (nI v_stringsAt), .int (nI v_stringsEnd), .ref r_way, .ref r_seen, .int (nI v_drafted), .ref r_told, .ref r_toldAt, .int (nI v_tolds), .int (nI v_stringsSize)])), (r_kind, .inl (T 0, 202, .inl (fun z9 => nI (f_kind z9)))), (r_begin, .inl (T 0, 203, .inl (fun z9 => nI (f_begin z9))))] ∧ v = some (.int (nI (nrT t i)))) := by
  have hN := hS.1.1.1
  obtain ⟨-, -, ⟨-, k2, k3⟩, -, -, -, -, -, -, ⟨b1, b2, b3⟩, ⟨g1, -⟩, -⟩ := hS.at h1 h2
  have h := qX9_references l D T mo r_tape r_output r_draft r_letters r_name r_kind r_vary r_flag r_rest r_more r_one r_two r_begin r_partName r_partType r_partNumber r_nextName r_nextKind r_nextVary r_nextFlag r_nextRest r_nextMore r_nextOne r_nextTwo r_nextBegin r_nextPartName r_nextPartType r_nextPartNumber r_apart r_leader r_number r_way r_seen r_told r_toldAt v_thrown v_taped v_written v_error v_stands v_many v_nextMany v_nextParts v_classes v_stringsAt v_stringsEnd v_drafted v_tolds v_stringsSize f_kind f_begin i (by omega) (by omega) (by omega) b3
  rw [g1] at h
  exact h
set_option maxRecDepth 100000 in
theorem qX9_referT (l : Launch) (D : va_G) (T : Nat → ClassId) (mo r_tape r_output r_draft r_letters r_name r_kind r_vary r_flag r_rest r_more r_one r_two r_begin r_partName r_partType r_partNumber r_nextName r_nextKind r_nextVary r_nextFlag r_nextRest r_nextMore r_nextOne r_nextTwo r_nextBegin r_nextPartName r_nextPartType r_nextPartNumber r_apart r_leader r_number r_way r_seen r_told r_toldAt v_thrown v_taped v_written v_error v_stands v_many v_nextMany v_nextParts v_classes v_stringsAt v_stringsEnd v_drafted v_tolds v_stringsSize : Nat) (t : Nat → Nat) (sg v_S : Nat) (f_letters : Nat → Nat) (f_name : Nat → Nat) (f_kind : Nat → Nat) (f_vary : Nat → Nat) (f_flag : Nat → Nat) (f_rest : Nat → Nat) (f_more : Nat → Nat) (f_one : Nat → Nat) (f_two : Nat → Nat) (f_begin : Nat → Nat) (f_partName : Nat → Nat) (f_partType : Nat → Nat) (f_partNumber : Nat → Nat) (i j : Nat) (hS : MS t sg v_S v_many f_letters f_name f_kind f_vary f_flag f_rest f_more f_one f_two f_begin f_partName f_partType f_partNumber) (h1 : 1 ≤ i) (h2 : i ≤ v_many) (h3 : j < nrT t i) : Con l D T yX9_refer cX9_refer 3 (some .int) 0 0 0 [.ref mo, .int (nI i), .int (nI j)] [(mo, .inr (8, [.int (nI v_thrown), .ref r_tape, .int (nI v_taped), .ref r_output, .ref r_draft, .int (nI v_written), .int (nI v_error), .int (nI v_stands), .int (nI v_many), .ref r_letters, .ref r_name, .ref r_kind, .ref r_vary, .ref r_flag, .ref r_rest, .ref r_more, .ref r_one, .ref r_two, .ref r_begin, .ref r_partName, .ref r_partType, .ref r_partNumber, .int (nI v_nextMany), .int (nI v_nextParts), .ref r_nextName, .ref r_nextKind, .ref r_nextVary, .ref r_nextFlag, .ref r_nextRest, .ref r_nextMore, .ref r_nextOne, .ref r_nextTwo, .ref r_nextBegin, .ref r_nextPartName, .ref r_nextPartType, .ref r_nextPartNumber, .ref r_apart, .ref r_leader, .ref r_number, .int (nI v_classes), .int (nI v_stringsAt), .int (nI v_stringsEnd), .ref r_way, .ref r_seen, .int (nI v_drafted), .ref r_told, .ref r_toldAt, .int (nI v_tolds), .int (nI v_stringsSize)])), (r_kind, .inl (T 0, 202, .inl (fun z9 => nI (f_kind z9)))), (r_one, .inl (T 1, 202, .inr (.inl (fun z9 => lN (f_one z9))))), (r_two, .inl (T 1, 202, .inr (.inl (fun z9 => lN (f_two z9))))), (r_begin, .inl (T 0, 203, .inl (fun z9 => nI (f_begin z9)))), (r_rest, .inl (T 1, 202, .inr (.inl (fun z9 => lN (f_rest z9))))), (r_partType, .inl (T 1, 601, .inr (.inl (fun z9 => lN (f_partType z9)))))] (fun v w1 => w1 = [(mo, .inr (8, [.int (nI v_thrown), .ref r_tape, .int (nI v_taped), .ref r_output, .ref r_draft, .int (nI v_written), .int (nI v_error), .int (nI v_stands), .int (nI v_many), .ref r_letters, .ref r_name, .ref r_kind, .ref r_vary, .ref r_flag, .ref r_rest, .ref r_more, .ref r_one, .ref r_two, .ref r_begin, .ref r_partName, .ref r_partType, .ref r_partNumber, .int (nI v_nextMany), .int (nI v_nextParts), .ref r_nextName, .ref r_nextKind, .ref r_nextVary, .ref r_nextFlag, .ref r_nextRest, .ref r_nextMore, .ref r_nextOne, .ref r_nextTwo, .ref r_nextBegin, .ref r_nextPartName, .ref r_nextPartType, .ref r_nextPartNumber, .ref r_apart, .ref r_leader, .ref r_number, .int (nI v_classes), .int (nI v_stringsAt), .int (nI v_stringsEnd), .ref r_way, .ref r_seen, .int (nI v_drafted), .ref r_told, .ref r_toldAt, .int (nI v_tolds), .int (nI v_stringsSize)])), (r_kind, .inl (T 0, 202, .inl (fun z9 => nI (f_kind z9)))), (r_one, .inl (T 1, 202, .inr (.inl (fun z9 => lN (f_one z9))))), (r_two, .inl (T 1, 202, .inr (.inl (fun z9 => lN (f_two z9))))), (r_begin, .inl (T 0, 203, .inl (fun z9 => nI (f_begin z9)))), (r_rest, .inl (T 1, 202, .inr (.inl (fun z9 => lN (f_rest z9))))), (r_partType, .inl (T 1, 601, .inr (.inl (fun z9 => lN (f_partType z9)))))] ∧ v = some (.int (nI (rfT t i j)))) := by
  have hN := hS.1.1.1
  have hr := hS.nr h1 h2
  obtain ⟨-, -, ⟨-, k2, k3⟩, -, -, -, -, -, -, ⟨b1, b2, b3⟩, ⟨-, g2⟩, -⟩ := hS.at h1 h2
  rw [← g2 j h3]
  rcases (hS.rf h1 h2 h3).2 with h | h
  · exact qX9_refer3 l D T mo r_tape r_output r_draft r_letters r_name r_kind r_vary r_flag r_rest r_more r_one r_two r_begin r_partName r_partType r_partNumber r_nextName r_nextKind r_nextVary r_nextFlag r_nextRest r_nextMore r_nextOne r_nextTwo r_nextBegin r_nextPartName r_nextPartType r_nextPartNumber r_apart r_leader r_number r_way r_seen r_told r_toldAt v_thrown v_taped v_written v_error v_stands v_many v_nextMany v_nextParts v_classes v_stringsAt v_stringsEnd v_drafted v_tolds v_stringsSize f_kind f_one f_two f_begin f_rest f_partType i j (by omega) (by omega) h
  · exact qX9_refer l D T mo r_tape r_output r_draft r_letters r_name r_kind r_vary r_flag r_rest r_more r_one r_two r_begin r_partName r_partType r_partNumber r_nextName r_nextKind r_nextVary r_nextFlag r_nextRest r_nextMore r_nextOne r_nextTwo r_nextBegin r_nextPartName r_nextPartType r_nextPartNumber r_apart r_leader r_number r_way r_seen r_told r_toldAt v_thrown v_taped v_written v_error v_stands v_many v_nextMany v_nextParts v_classes v_stringsAt v_stringsEnd v_drafted v_tolds v_stringsSize f_kind f_one f_two f_begin f_rest f_partType i j (by omega) (by omega) h

set_option maxHeartbeats 4000000 in
set_option maxRecDepth 100000 in
theorem qX9_areLabels (l : Launch) (D : va_G) (T : Nat → ClassId) (mo r_tape r_output r_draft r_letters r_name r_kind r_vary r_flag r_rest r_more r_one r_two r_begin r_partName r_partType r_partNumber r_nextName r_nextKind r_nextVary r_nextFlag r_nextRest r_nextMore r_nextOne r_nextTwo r_nextBegin r_nextPartName r_nextPartType r_nextPartNumber r_apart r_leader r_number r_way r_seen r_told r_toldAt v_thrown v_taped v_written v_error v_stands v_many v_nextMany v_nextParts v_classes v_stringsAt v_stringsEnd v_drafted v_tolds v_stringsSize : Nat) (t : Nat → Nat) (sg v_S : Nat) (f_letters : Nat → Nat) (f_name : Nat → Nat) (f_kind : Nat → Nat) (f_vary : Nat → Nat) (f_flag : Nat → Nat) (f_rest : Nat → Nat) (f_more : Nat → Nat) (f_one : Nat → Nat) (f_two : Nat → Nat) (f_begin : Nat → Nat) (f_partName : Nat → Nat) (f_partType : Nat → Nat) (f_partNumber : Nat → Nat) (i j : Nat) (hS : MS t sg v_S v_many f_letters f_name f_kind f_vary f_flag f_rest f_more f_one f_two f_begin f_partName f_partType f_partNumber) (h1i : 1 ≤ i) (h2i : i ≤ v_many) (h1j : 1 ≤ j) (h2j : j ≤ v_many) : Con l D T yX9_areLabels cX9_areLabels 5 (some .boolean) 1 0 0 [.ref mo, .int (nI i), .int (nI j)] [(mo, .inr (8, [.int (nI v_thrown), .ref r_tape, .int (nI v_taped), .ref r_output, .ref r_draft, .int (nI v_written), .int (nI v_error), .int (nI v_stands), .int (nI v_many), .ref r_letters, .ref r_name, .ref r_kind, .ref r_vary, .ref r_flag, .ref r_rest, .ref r_more, .ref r_one, .ref r_two, .ref r_begin, .ref r_partName, .ref r_partType, .ref r_partNumber, .int (nI v_nextMany), .int (nI v_nextParts), .ref r_nextName, .ref r_nextKind, .ref r_nextVary, .ref r_nextFlag, .ref r_nextRest, .ref r_nextMore, .ref r_nextOne, .ref r_nextTwo, .ref r_nextBegin, .ref r_nextPartName, .ref r_nextPartType, .ref r_nextPartNumber, .ref r_apart, .ref r_leader, .ref r_number, .int (nI v_classes), .int (nI v_stringsAt), .int (nI v_stringsEnd), .ref r_way, .ref r_seen, .int (nI v_drafted), .ref r_told, .ref r_toldAt, .int (nI v_tolds), .int (nI v_stringsSize)])), (r_letters, .inl (T 0, 8192, .inl (fun z9 => nI (f_letters z9)))), (r_name, .inl (T 0, 202, .inl (fun z9 => nI (f_name z9)))), (r_kind, .inl (T 0, 202, .inl (fun z9 => nI (f_kind z9)))), (r_vary, .inl (T 0, 202, .inl (fun z9 => nI (f_vary z9)))), (r_flag, .inl (T 0, 202, .inl (fun z9 => nI (f_flag z9)))), (r_rest, .inl (T 1, 202, .inr (.inl (fun z9 => lN (f_rest z9))))), (r_more, .inl (T 1, 202, .inr (.inl (fun z9 => lN (f_more z9))))), (r_begin, .inl (T 0, 203, .inl (fun z9 => nI (f_begin z9)))), (r_partName, .inl (T 0, 601, .inl (fun z9 => nI (f_partName z9)))), (r_partNumber, .inl (T 1, 601, .inr (.inl (fun z9 => lN (f_partNumber z9)))))] (fun v w1 => w1 = [(mo, .inr (8, [.int (nI v_thrown), .ref r_tape, .int (nI v_taped), .ref r_output, .ref r_draft, .int (nI v_written), .int (nI v_error), .int (nI v_stands), .int (nI v_many), .ref r_letters, .ref r_name, .ref r_kind, .ref r_vary, .ref r_flag, .ref r_rest, .ref r_more, .ref r_one, .ref r_two, .ref r_begin, .ref r_partName, .ref r_partType, .ref r_partNumber, .int (nI v_nextMany), .int (nI v_nextParts), .ref r_nextName, .ref r_nextKind, .ref r_nextVary, .ref r_nextFlag, .ref r_nextRest, .ref r_nextMore, .ref r_nextOne, .ref r_nextTwo, .ref r_nextBegin, .ref r_nextPartName, .ref r_nextPartType, .ref r_nextPartNumber, .ref r_apart, .ref r_leader, .ref r_number, .int (nI v_classes), .int (nI v_stringsAt), .int (nI v_stringsEnd), .ref r_way, .ref r_seen, .int (nI v_drafted), .ref r_told, .ref r_toldAt, .int (nI v_tolds), .int (nI v_stringsSize)])), (r_letters, .inl (T 0, 8192, .inl (fun z9 => nI (f_letters z9)))), (r_name, .inl (T 0, 202, .inl (fun z9 => nI (f_name z9)))), (r_kind, .inl (T 0, 202, .inl (fun z9 => nI (f_kind z9)))), (r_vary, .inl (T 0, 202, .inl (fun z9 => nI (f_vary z9)))), (r_flag, .inl (T 0, 202, .inl (fun z9 => nI (f_flag z9)))), (r_rest, .inl (T 1, 202, .inr (.inl (fun z9 => lN (f_rest z9))))), (r_more, .inl (T 1, 202, .inr (.inl (fun z9 => lN (f_more z9))))), (r_begin, .inl (T 0, 203, .inl (fun z9 => nI (f_begin z9)))), (r_partName, .inl (T 0, 601, .inl (fun z9 => nI (f_partName z9)))), (r_partNumber, .inl (T 1, 601, .inr (.inl (fun z9 => lN (f_partNumber z9)))))] ∧ ∃ z : Bool, v = some (.int (bI z)) ∧ (z = true ↔ lab t sg i j)) := by
  refine Con.of (by decide) (Nat.le_of_ble_eq_true rfl) ?_
  intro E hE
  have hN := hS.1.1.1
  have hS8 := hS.1.2.2.2.1
  obtain ⟨ai, ⟨ni1, ni2⟩, ⟨ki1, ki2, ki3⟩, ⟨vi1, vi2⟩, ⟨fi1, fi2⟩, ⟨ri1, ri2⟩, ⟨mi1, mi2⟩, ⟨oi1, oi2⟩, ⟨ti1, ti2⟩, ⟨bi1, bi2, bi3⟩, ⟨gi1, gi2⟩, pi⟩ := hS.at h1i h2i
  obtain ⟨aj, ⟨nj1, nj2⟩, ⟨kj1, kj2, kj3⟩, ⟨vj1, vj2⟩, ⟨fj1, fj2⟩, ⟨rj1, rj2⟩, ⟨mj1, mj2⟩, ⟨oj1, oj2⟩, ⟨tj1, tj2⟩, ⟨bj1, bj2, bj3⟩, ⟨gj1, gj2⟩, pj⟩ := hS.at h1j h2j
  have hic := MS_ic hS h1i h2i h1j h2j
  have hlb := MS_lab hS h1i h2i h1j h2j
  refine g_lv (lv' := [(0, .ref mo), (1, .int (nI i)), (2, .int (nI j))]) [0, 1, 2] rfl ?_
  have hJ66 : ∀ (z : Bool), (z = true ↔ (f_kind i = f_kind j ∧ f_vary i = f_vary j ∧ f_flag i = f_flag j ∧ f_more i = f_more j)) → G l E D 5 0 0 [(mo, .inr (8, [.int (nI v_thrown), .ref r_tape, .int (nI v_taped), .ref r_output, .ref r_draft, .int (nI v_written), .int (nI v_error), .int (nI v_stands), .int (nI v_many), .ref r_letters, .ref r_name, .ref r_kind, .ref r_vary, .ref r_flag, .ref r_rest, .ref r_more, .ref r_one, .ref r_two, .ref r_begin, .ref r_partName, .ref r_partType, .ref r_partNumber, .int (nI v_nextMany), .int (nI v_nextParts), .ref r_nextName, .ref r_nextKind, .ref r_nextVary, .ref r_nextFlag, .ref r_nextRest, .ref r_nextMore, .ref r_nextOne, .ref r_nextTwo, .ref r_nextBegin, .ref r_nextPartName, .ref r_nextPartType, .ref r_nextPartNumber, .ref r_apart, .ref r_leader, .ref r_number, .int (nI v_classes), .int (nI v_stringsAt), .int (nI v_stringsEnd), .ref r_way, .ref r_seen, .int (nI v_drafted), .ref r_told, .ref r_toldAt, .int (nI v_tolds), .int (nI v_stringsSize)])), (r_letters, .inl (T 0, 8192, .inl (fun z9 => nI (f_letters z9)))), (r_name, .inl (T 0, 202, .inl (fun z9 => nI (f_name z9)))), (r_kind, .inl (T 0, 202, .inl (fun z9 => nI (f_kind z9)))), (r_vary, .inl (T 0, 202, .inl (fun z9 => nI (f_vary z9)))), (r_flag, .inl (T 0, 202, .inl (fun z9 => nI (f_flag z9)))), (r_rest, .inl (T 1, 202, .inr (.inl (fun z9 => lN (f_rest z9))))), (r_more, .inl (T 1, 202, .inr (.inl (fun z9 => lN (f_more z9))))), (r_begin, .inl (T 0, 203, .inl (fun z9 => nI (f_begin z9)))), (r_partName, .inl (T 0, 601, .inl (fun z9 => nI (f_partName z9)))), (r_partNumber, .inl (T 1, 601, .inr (.inl (fun z9 => lN (f_partNumber z9)))))] [(0, .ref mo), (1, .int (nI i)), (2, .int (nI j))] 66 [.int (bI z)] := by
    intro z hz
    refine g_istore_n (pc' := 67) hE [(3, .int (bI z)), (0, .ref mo), (1, .int (nI i)), (2, .int (nI j))] dX9_areLabels_66 rfl rfl (by decide) rfl ?_
    refine g_iload_n (pc' := 68) hE 0 rfl rfl dX9_areLabels_67 rfl ?_
    refine g_ifB_eq (pc' := 71) (tgt := 90) hE dX9_areLabels_68 rfl rfl (fun hc68 => ?_) (fun hc68 => ?_)
    · refine g_iconst (pc' := 91) hE (nI 0) (by decide) dX9_areLabels_90 rfl ?_
      exact hE.zret (by first | rfl | exact bI_nar _ | decide) (⟨rfl, false, rfl, ⟨fun y => (by cases y), fun y => by rw [hz.mpr (hlb.mp y).1] at hc68; cases hc68⟩⟩) (Nat.zero_le _) (Nat.zero_le _) dX9_areLabels_91
    · refine g_aload_n (pc' := 72) hE 1 rfl rfl dX9_areLabels_71 rfl ?_
      refine g_aload_n (pc' := 73) hE 1 rfl rfl dX9_areLabels_72 rfl ?_
      refine g_get (pc' := 76) hE gcX9 0 rfl 10 (by decide) rfl kX9_22 dX9_areLabels_73 rfl ?_
      refine g_iload_n (pc' := 77) hE 2 rfl rfl dX9_areLabels_76 rfl ?_
      refine g_iald (pc' := 78) hE 2 rfl (by omega) (by omega) dX9_areLabels_77 rfl ?_
      refine g_aload_n (pc' := 79) hE 1 rfl rfl dX9_areLabels_78 rfl ?_
      refine g_get (pc' := 82) hE gcX9 0 rfl 10 (by decide) rfl kX9_22 dX9_areLabels_79 rfl ?_
      refine g_iload_n (pc' := 83) hE 3 rfl rfl dX9_areLabels_82 rfl ?_
      refine g_iald (pc' := 84) hE 2 rfl (by omega) (by omega) dX9_areLabels_83 rfl ?_
      refine g_callV (pc' := 87) (As := [.int (nI (f_name i)), .int (nI (f_name j))]) (rest := []) hE (qX9_areNames l D T mo r_tape r_output r_draft r_letters r_name r_kind r_vary r_flag r_rest r_more r_one r_two r_begin r_partName r_partType r_partNumber r_nextName r_nextKind r_nextVary r_nextFlag r_nextRest r_nextMore r_nextOne r_nextTwo r_nextBegin r_nextPartName r_nextPartType r_nextPartNumber r_apart r_leader r_number r_way r_seen r_told r_toldAt v_thrown v_taped v_written v_error v_stands v_many v_nextMany v_nextParts v_classes v_stringsAt v_stringsEnd v_drafted v_tolds v_stringsSize f_letters v_S (f_name i) (f_name j) hS.2.1.2 (by omega) hS.z (by omega) (by omega) (fun j _ _ => hS.2.1.2 j)) mX9_areNames kX9_215 iX9_areNames sX9_areNames (by decide) rfl (by decide) 0 rfl rfl [0, 1] rfl (by decide) rfl (Nat.le_of_ble_eq_true rfl) dX9_areLabels_84 rfl (gBackR [0, 1] rfl ?_)
      rintro _ ⟨zn, rfl, hzn⟩
      refine g_st (st' := [.int (bI zn)]) rfl ?_
      refine g_ifB_ne (pc' := 90) (tgt := 92) hE dX9_areLabels_87 rfl rfl (fun hc87 => ?_) (fun hc87 => ?_)
      · have hJ122 : (trB (f_kind i) = true ∨ f_rest i = f_rest j) → G l E D 5 0 0 [(mo, .inr (8, [.int (nI v_thrown), .ref r_tape, .int (nI v_taped), .ref r_output, .ref r_draft, .int (nI v_written), .int (nI v_error), .int (nI v_stands), .int (nI v_many), .ref r_letters, .ref r_name, .ref r_kind, .ref r_vary, .ref r_flag, .ref r_rest, .ref r_more, .ref r_one, .ref r_two, .ref r_begin, .ref r_partName, .ref r_partType, .ref r_partNumber, .int (nI v_nextMany), .int (nI v_nextParts), .ref r_nextName, .ref r_nextKind, .ref r_nextVary, .ref r_nextFlag, .ref r_nextRest, .ref r_nextMore, .ref r_nextOne, .ref r_nextTwo, .ref r_nextBegin, .ref r_nextPartName, .ref r_nextPartType, .ref r_nextPartNumber, .ref r_apart, .ref r_leader, .ref r_number, .int (nI v_classes), .int (nI v_stringsAt), .int (nI v_stringsEnd), .ref r_way, .ref r_seen, .int (nI v_drafted), .ref r_told, .ref r_toldAt, .int (nI v_tolds), .int (nI v_stringsSize)])), (r_letters, .inl (T 0, 8192, .inl (fun z9 => nI (f_letters z9)))), (r_name, .inl (T 0, 202, .inl (fun z9 => nI (f_name z9)))), (r_kind, .inl (T 0, 202, .inl (fun z9 => nI (f_kind z9)))), (r_vary, .inl (T 0, 202, .inl (fun z9 => nI (f_vary z9)))), (r_flag, .inl (T 0, 202, .inl (fun z9 => nI (f_flag z9)))), (r_rest, .inl (T 1, 202, .inr (.inl (fun z9 => lN (f_rest z9))))), (r_more, .inl (T 1, 202, .inr (.inl (fun z9 => lN (f_more z9))))), (r_begin, .inl (T 0, 203, .inl (fun z9 => nI (f_begin z9)))), (r_partName, .inl (T 0, 601, .inl (fun z9 => nI (f_partName z9)))), (r_partNumber, .inl (T 1, 601, .inr (.inl (fun z9 => lN (f_partNumber z9)))))] [(3, .int (bI z)), (0, .ref mo), (1, .int (nI i)), (2, .int (nI j))] 122 [] := by
          intro  hr
          refine g_iconst (pc' := 123) hE (nI 0) (by decide) dX9_areLabels_122 rfl ?_
          refine g_istore (pc' := 125) hE [(4, .int (nI 0)), (3, .int (bI z)), (0, .ref mo), (1, .int (nI i)), (2, .int (nI j))] dX9_areLabels_123 rfl (by decide) rfl ?_
          refine (show ∀ (d125 : Nat) (p : Nat) (zl : Bool), f_begin (i + 1) - f_begin i - p = d125 → (p ≤ f_begin (i + 1) - f_begin i) → (zl = true ↔ ∀ q, q < p → (f_partNumber (f_begin i + q) = f_partNumber (f_begin j + q) ∧ seqn f_letters (f_partName (f_begin i + q)) (f_partName (f_begin j + q)))) → G l E D 5 0 0 [(mo, .inr (8, [.int (nI v_thrown), .ref r_tape, .int (nI v_taped), .ref r_output, .ref r_draft, .int (nI v_written), .int (nI v_error), .int (nI v_stands), .int (nI v_many), .ref r_letters, .ref r_name, .ref r_kind, .ref r_vary, .ref r_flag, .ref r_rest, .ref r_more, .ref r_one, .ref r_two, .ref r_begin, .ref r_partName, .ref r_partType, .ref r_partNumber, .int (nI v_nextMany), .int (nI v_nextParts), .ref r_nextName, .ref r_nextKind, .ref r_nextVary, .ref r_nextFlag, .ref r_nextRest, .ref r_nextMore, .ref r_nextOne, .ref r_nextTwo, .ref r_nextBegin, .ref r_nextPartName, .ref r_nextPartType, .ref r_nextPartNumber, .ref r_apart, .ref r_leader, .ref r_number, .int (nI v_classes), .int (nI v_stringsAt), .int (nI v_stringsEnd), .ref r_way, .ref r_seen, .int (nI v_drafted), .ref r_told, .ref r_toldAt, .int (nI v_tolds), .int (nI v_stringsSize)])), (r_letters, .inl (T 0, 8192, .inl (fun z9 => nI (f_letters z9)))), (r_name, .inl (T 0, 202, .inl (fun z9 => nI (f_name z9)))), (r_kind, .inl (T 0, 202, .inl (fun z9 => nI (f_kind z9)))), (r_vary, .inl (T 0, 202, .inl (fun z9 => nI (f_vary z9)))), (r_flag, .inl (T 0, 202, .inl (fun z9 => nI (f_flag z9)))), (r_rest, .inl (T 1, 202, .inr (.inl (fun z9 => lN (f_rest z9))))), (r_more, .inl (T 1, 202, .inr (.inl (fun z9 => lN (f_more z9))))), (r_begin, .inl (T 0, 203, .inl (fun z9 => nI (f_begin z9)))), (r_partName, .inl (T 0, 601, .inl (fun z9 => nI (f_partName z9)))), (r_partNumber, .inl (T 1, 601, .inr (.inl (fun z9 => lN (f_partNumber z9)))))] [(4, .int (nI p)), (3, .int (bI zl)), (0, .ref mo), (1, .int (nI i)), (2, .int (nI j))] 125 [] from ?_) _ 0 z rfl (by omega) (⟨fun _ q hq => absurd hq (by omega), fun _ => by first | exact hc68 | simpa using hc68⟩)
          intro d125
          induction d125 using Nat.strongRecOn with
          | _ d125 ih125 =>
          intro p zl hd125 hp hzl
          refine g_iload (pc' := 127) hE 0 rfl dX9_areLabels_125 rfl ?_
          refine g_aload_n (pc' := 128) hE 2 rfl rfl dX9_areLabels_127 rfl ?_
          refine g_get (pc' := 131) hE gcX9 0 rfl 18 (by decide) rfl kX9_47 dX9_areLabels_128 rfl ?_
          refine g_iload_n (pc' := 132) hE 3 rfl rfl dX9_areLabels_131 rfl ?_
          refine g_iconst (pc' := 133) hE (nI 1) (by decide) dX9_areLabels_132 rfl ?_
          refine g_iadd (pc' := 134) hE dX9_areLabels_133 rfl ?_
          refine g_eqi (show _ = nI (i + 1) from nI_add _ _) ?_
          refine g_iald (pc' := 135) hE 8 rfl (by omega) (by omega) dX9_areLabels_134 rfl ?_
          refine g_aload_n (pc' := 136) hE 2 rfl rfl dX9_areLabels_135 rfl ?_
          refine g_get (pc' := 139) hE gcX9 0 rfl 18 (by decide) rfl kX9_47 dX9_areLabels_136 rfl ?_
          refine g_iload_n (pc' := 140) hE 3 rfl rfl dX9_areLabels_139 rfl ?_
          refine g_iald (pc' := 141) hE 8 rfl (by omega) (by omega) dX9_areLabels_140 rfl ?_
          refine g_isub (pc' := 142) hE dX9_areLabels_141 rfl ?_
          refine g_eqi (show _ = nI (f_begin (i + 1) - (f_begin i)) from pk_sub (by omega)) ?_
          refine g_icmpN_ge (pc' := 145) (tgt := 228) hE (by omega) (by omega) dX9_areLabels_142 rfl rfl (fun hc142 => ?_) (fun hc142 => ?_)
          · refine g_iload_n (pc' := 229) hE 1 rfl rfl dX9_areLabels_228 rfl ?_
            exact hE.zret (by first | rfl | exact bI_nar _ | decide) (⟨rfl, zl, rfl, ⟨fun y => hlb.mpr ⟨hz.mp hc68, hzn.mp hc87, hr, fun q hq => hzl.mp y q (by first | omega | (rw [y] at hc146; cases hc146))⟩, fun y => hzl.mpr (fun q hq => (hlb.mp y).2.2.2 q (by omega))⟩⟩) (Nat.zero_le _) (Nat.zero_le _) dX9_areLabels_229
          · refine g_iload_n (pc' := 146) hE 1 rfl rfl dX9_areLabels_145 rfl ?_
            refine g_ifB_eq (pc' := 149) (tgt := 228) hE dX9_areLabels_146 rfl rfl (fun hc146 => ?_) (fun hc146 => ?_)
            · refine g_iload_n (pc' := 229) hE 1 rfl rfl dX9_areLabels_228 rfl ?_
              exact hE.zret (by first | rfl | exact bI_nar _ | decide) (⟨rfl, zl, rfl, ⟨fun y => hlb.mpr ⟨hz.mp hc68, hzn.mp hc87, hr, fun q hq => hzl.mp y q (by first | omega | (rw [y] at hc146; cases hc146))⟩, fun y => hzl.mpr (fun q hq => (hlb.mp y).2.2.2 q (by omega))⟩⟩) (Nat.zero_le _) (Nat.zero_le _) dX9_areLabels_229
            · have hJ221 : ∀ (z2 : Bool), (z2 = true ↔ (f_partNumber (f_begin i + p) = f_partNumber (f_begin j + p) ∧ seqn f_letters (f_partName (f_begin i + p)) (f_partName (f_begin j + p)))) → G l E D 5 0 0 [(mo, .inr (8, [.int (nI v_thrown), .ref r_tape, .int (nI v_taped), .ref r_output, .ref r_draft, .int (nI v_written), .int (nI v_error), .int (nI v_stands), .int (nI v_many), .ref r_letters, .ref r_name, .ref r_kind, .ref r_vary, .ref r_flag, .ref r_rest, .ref r_more, .ref r_one, .ref r_two, .ref r_begin, .ref r_partName, .ref r_partType, .ref r_partNumber, .int (nI v_nextMany), .int (nI v_nextParts), .ref r_nextName, .ref r_nextKind, .ref r_nextVary, .ref r_nextFlag, .ref r_nextRest, .ref r_nextMore, .ref r_nextOne, .ref r_nextTwo, .ref r_nextBegin, .ref r_nextPartName, .ref r_nextPartType, .ref r_nextPartNumber, .ref r_apart, .ref r_leader, .ref r_number, .int (nI v_classes), .int (nI v_stringsAt), .int (nI v_stringsEnd), .ref r_way, .ref r_seen, .int (nI v_drafted), .ref r_told, .ref r_toldAt, .int (nI v_tolds), .int (nI v_stringsSize)])), (r_letters, .inl (T 0, 8192, .inl (fun z9 => nI (f_letters z9)))), (r_name, .inl (T 0, 202, .inl (fun z9 => nI (f_name z9)))), (r_kind, .inl (T 0, 202, .inl (fun z9 => nI (f_kind z9)))), (r_vary, .inl (T 0, 202, .inl (fun z9 => nI (f_vary z9)))), (r_flag, .inl (T 0, 202, .inl (fun z9 => nI (f_flag z9)))), (r_rest, .inl (T 1, 202, .inr (.inl (fun z9 => lN (f_rest z9))))), (r_more, .inl (T 1, 202, .inr (.inl (fun z9 => lN (f_more z9))))), (r_begin, .inl (T 0, 203, .inl (fun z9 => nI (f_begin z9)))), (r_partName, .inl (T 0, 601, .inl (fun z9 => nI (f_partName z9)))), (r_partNumber, .inl (T 1, 601, .inr (.inl (fun z9 => lN (f_partNumber z9)))))] [(4, .int (nI p)), (3, .int (bI zl)), (0, .ref mo), (1, .int (nI i)), (2, .int (nI j))] 221 [.int (bI z2)] := by
                intro z2 hz2
                refine g_istore_n (pc' := 222) hE [(3, .int (bI z2)), (4, .int (nI p)), (0, .ref mo), (1, .int (nI i)), (2, .int (nI j))] dX9_areLabels_221 rfl rfl (by decide) rfl ?_
                refine g_iinc (pc' := 225) hE (nI (p + 1)) [(4, .int (nI (p + 1))), (3, .int (bI z2)), (0, .ref mo), (1, .int (nI i)), (2, .int (nI j))] 1 rfl dX9_areLabels_222 rfl (g_incN _ 1) (by decide) rfl ?_
                refine g_goto (tgt := 125) hE dX9_areLabels_225 rfl ?_
                exact ih125 _ (by omega) (p + 1) z2 rfl (by omega) (⟨fun y => lt_s (hzl.mp hc146) (hz2.mp y), fun y => hz2.mpr (y p (by omega))⟩)
              have hcc := hic (hz.mp hc68).1 (hz.mp hc68).2.1
              obtain ⟨⟨-, q2⟩, -, -, q4⟩ := pi p (by omega)
              obtain ⟨⟨-, q6⟩, -, -, q8⟩ := pj p (by omega)
              refine g_aload_n (pc' := 150) hE 2 rfl rfl dX9_areLabels_149 rfl ?_
              refine g_get (pc' := 153) hE gcX9 0 rfl 21 (by decide) rfl kX9_56 dX9_areLabels_150 rfl ?_
              refine g_aload_n (pc' := 154) hE 2 rfl rfl dX9_areLabels_153 rfl ?_
              refine g_get (pc' := 157) hE gcX9 0 rfl 18 (by decide) rfl kX9_47 dX9_areLabels_154 rfl ?_
              refine g_iload_n (pc' := 158) hE 3 rfl rfl dX9_areLabels_157 rfl ?_
              refine g_iald (pc' := 159) hE 8 rfl (by omega) (by omega) dX9_areLabels_158 rfl ?_
              refine g_iload (pc' := 161) hE 0 rfl dX9_areLabels_159 rfl ?_
              refine g_iadd (pc' := 162) hE dX9_areLabels_161 rfl ?_
              refine g_eqi (show _ = nI (f_begin i + p) from nI_add _ _) ?_
              refine g_lald (pc' := 163) hE 10 rfl (by omega) (by omega) dX9_areLabels_162 rfl ?_
              refine g_aload_n (pc' := 164) hE 2 rfl rfl dX9_areLabels_163 rfl ?_
              refine g_get (pc' := 167) hE gcX9 0 rfl 21 (by decide) rfl kX9_56 dX9_areLabels_164 rfl ?_
              refine g_aload_n (pc' := 168) hE 2 rfl rfl dX9_areLabels_167 rfl ?_
              refine g_get (pc' := 171) hE gcX9 0 rfl 18 (by decide) rfl kX9_47 dX9_areLabels_168 rfl ?_
              refine g_iload_n (pc' := 172) hE 4 rfl rfl dX9_areLabels_171 rfl ?_
              refine g_iald (pc' := 173) hE 8 rfl (by omega) (by omega) dX9_areLabels_172 rfl ?_
              refine g_iload (pc' := 175) hE 0 rfl dX9_areLabels_173 rfl ?_
              refine g_iadd (pc' := 176) hE dX9_areLabels_175 rfl ?_
              refine g_eqi (show _ = nI (f_begin j + p) from nI_add _ _) ?_
              refine g_lald (pc' := 177) hE 10 rfl (by omega) (by omega) dX9_areLabels_176 rfl ?_
              refine g_lcmp (pc' := 178) hE dX9_areLabels_177 rfl ?_
              refine g_ifcN_ne (pc' := 181) (tgt := 220) hE (by omega) (by omega) dX9_areLabels_178 rfl rfl (fun hc178 => ?_) (fun hc178 => ?_)
              · refine g_iconst (pc' := 221) hE (nI 0) (by decide) dX9_areLabels_220 rfl ?_
                refine g_st (st' := [.int (bI false)]) rfl ?_
                exact hJ221 false (⟨fun y => (by cases y), fun y => by first | omega | (rw [hzp.mpr y.2] at hc213; cases hc213)⟩)
              · refine g_aload_n (pc' := 182) hE 2 rfl rfl dX9_areLabels_181 rfl ?_
                refine g_aload_n (pc' := 183) hE 2 rfl rfl dX9_areLabels_182 rfl ?_
                refine g_get (pc' := 186) hE gcX9 0 rfl 19 (by decide) rfl kX9_50 dX9_areLabels_183 rfl ?_
                refine g_aload_n (pc' := 187) hE 2 rfl rfl dX9_areLabels_186 rfl ?_
                refine g_get (pc' := 190) hE gcX9 0 rfl 18 (by decide) rfl kX9_47 dX9_areLabels_187 rfl ?_
                refine g_iload_n (pc' := 191) hE 3 rfl rfl dX9_areLabels_190 rfl ?_
                refine g_iald (pc' := 192) hE 8 rfl (by omega) (by omega) dX9_areLabels_191 rfl ?_
                refine g_iload (pc' := 194) hE 0 rfl dX9_areLabels_192 rfl ?_
                refine g_iadd (pc' := 195) hE dX9_areLabels_194 rfl ?_
                refine g_eqi (show _ = nI (f_begin i + p) from nI_add _ _) ?_
                refine g_iald (pc' := 196) hE 9 rfl (by omega) (by omega) dX9_areLabels_195 rfl ?_
                refine g_aload_n (pc' := 197) hE 2 rfl rfl dX9_areLabels_196 rfl ?_
                refine g_get (pc' := 200) hE gcX9 0 rfl 19 (by decide) rfl kX9_50 dX9_areLabels_197 rfl ?_
                refine g_aload_n (pc' := 201) hE 2 rfl rfl dX9_areLabels_200 rfl ?_
                refine g_get (pc' := 204) hE gcX9 0 rfl 18 (by decide) rfl kX9_47 dX9_areLabels_201 rfl ?_
                refine g_iload_n (pc' := 205) hE 4 rfl rfl dX9_areLabels_204 rfl ?_
                refine g_iald (pc' := 206) hE 8 rfl (by omega) (by omega) dX9_areLabels_205 rfl ?_
                refine g_iload (pc' := 208) hE 0 rfl dX9_areLabels_206 rfl ?_
                refine g_iadd (pc' := 209) hE dX9_areLabels_208 rfl ?_
                refine g_eqi (show _ = nI (f_begin j + p) from nI_add _ _) ?_
                refine g_iald (pc' := 210) hE 9 rfl (by omega) (by omega) dX9_areLabels_209 rfl ?_
                refine g_callV (pc' := 213) (As := [.int (nI (f_partName (f_begin i + p))), .int (nI (f_partName (f_begin j + p)))]) (rest := []) hE (qX9_areNames l D T mo r_tape r_output r_draft r_letters r_name r_kind r_vary r_flag r_rest r_more r_one r_two r_begin r_partName r_partType r_partNumber r_nextName r_nextKind r_nextVary r_nextFlag r_nextRest r_nextMore r_nextOne r_nextTwo r_nextBegin r_nextPartName r_nextPartType r_nextPartNumber r_apart r_leader r_number r_way r_seen r_told r_toldAt v_thrown v_taped v_written v_error v_stands v_many v_nextMany v_nextParts v_classes v_stringsAt v_stringsEnd v_drafted v_tolds v_stringsSize f_letters v_S (f_partName (f_begin i + p)) (f_partName (f_begin j + p)) hS.2.1.2 (by omega) hS.z (by omega) (by omega) (fun j _ _ => hS.2.1.2 j)) mX9_areNames kX9_215 iX9_areNames sX9_areNames (by decide) rfl (by decide) 0 rfl rfl [0, 1] rfl (by decide) rfl (Nat.le_of_ble_eq_true rfl) dX9_areLabels_210 rfl (gBackR [0, 1] rfl ?_)
                rintro _ ⟨zp, rfl, hzp⟩
                refine g_st (st' := [.int (bI zp)]) rfl ?_
                refine g_ifB_eq (pc' := 216) (tgt := 220) hE dX9_areLabels_213 rfl rfl (fun hc213 => ?_) (fun hc213 => ?_)
                · refine g_iconst (pc' := 221) hE (nI 0) (by decide) dX9_areLabels_220 rfl ?_
                  refine g_st (st' := [.int (bI false)]) rfl ?_
                  exact hJ221 false (⟨fun y => (by cases y), fun y => by first | omega | (rw [hzp.mpr y.2] at hc213; cases hc213)⟩)
                · refine g_iconst (pc' := 217) hE (nI 1) (by decide) dX9_areLabels_216 rfl ?_
                  refine g_goto (tgt := 221) hE dX9_areLabels_217 rfl ?_
                  refine g_st (st' := [.int (bI true)]) rfl ?_
                  exact hJ221 true (⟨fun _ => ⟨by omega, hzp.mp hc213⟩, fun _ => rfl⟩)
        refine g_aload_n (pc' := 93) hE 1 rfl rfl dX9_areLabels_92 rfl ?_
        refine g_get (pc' := 96) hE gcX9 0 rfl 11 (by decide) rfl kX9_25 dX9_areLabels_93 rfl ?_
        refine g_iload_n (pc' := 97) hE 2 rfl rfl dX9_areLabels_96 rfl ?_
        refine g_iald (pc' := 98) hE 3 rfl (by omega) (by omega) dX9_areLabels_97 rfl ?_
        refine g_callS (pc' := 101) (As := [.int (nI (f_kind i))]) (rest := []) hE (qX9_tellsRest l D T (f_kind i) (by omega)) mX9_tellsRest kX9_190 iX9_tellsRest (by decide) rfl (by decide) [] rfl (by decide) rfl (Nat.le_of_ble_eq_true rfl) dX9_areLabels_98 rfl (gBackR [] rfl ?_)
        rintro _ rfl
        refine g_st (st' := [.int (bI (trB (f_kind i)))]) rfl ?_
        refine g_ifB_ne (pc' := 104) (tgt := 122) hE dX9_areLabels_101 rfl rfl (fun hc101 => ?_) (fun hc101 => ?_)
        · exact hJ122  (Or.inl hc101)
        · refine g_aload_n (pc' := 105) hE 1 rfl rfl dX9_areLabels_104 rfl ?_
          refine g_get (pc' := 108) hE gcX9 0 rfl 14 (by decide) rfl kX9_34 dX9_areLabels_105 rfl ?_
          refine g_iload_n (pc' := 109) hE 2 rfl rfl dX9_areLabels_108 rfl ?_
          refine g_lald (pc' := 110) hE 6 rfl (by omega) (by omega) dX9_areLabels_109 rfl ?_
          refine g_aload_n (pc' := 111) hE 1 rfl rfl dX9_areLabels_110 rfl ?_
          refine g_get (pc' := 114) hE gcX9 0 rfl 14 (by decide) rfl kX9_34 dX9_areLabels_111 rfl ?_
          refine g_iload_n (pc' := 115) hE 3 rfl rfl dX9_areLabels_114 rfl ?_
          refine g_lald (pc' := 116) hE 6 rfl (by omega) (by omega) dX9_areLabels_115 rfl ?_
          refine g_lcmp (pc' := 117) hE dX9_areLabels_116 rfl ?_
          refine g_ifcN_eq (pc' := 120) (tgt := 122) hE (by omega) (by omega) dX9_areLabels_117 rfl rfl (fun hc117 => ?_) (fun hc117 => ?_)
          · exact hJ122  (Or.inr (by omega))
          · refine g_iconst (pc' := 121) hE (nI 0) (by decide) dX9_areLabels_120 rfl ?_
            exact hE.zret (by first | rfl | exact bI_nar _ | decide) (⟨rfl, false, rfl, ⟨fun y => (by cases y), fun y => by rcases (hlb.mp y).2.2.1 with g | g; (rw [g] at hc101; cases hc101); omega⟩⟩) (Nat.zero_le _) (Nat.zero_le _) dX9_areLabels_121
      · refine g_iconst (pc' := 91) hE (nI 0) (by decide) dX9_areLabels_90 rfl ?_
        exact hE.zret (by first | rfl | exact bI_nar _ | decide) (⟨rfl, false, rfl, ⟨fun y => (by cases y), fun y => by rw [hzn.mpr (hlb.mp y).2.1] at hc87; cases hc87⟩⟩) (Nat.zero_le _) (Nat.zero_le _) dX9_areLabels_91
  refine g_aload_n (pc' := 1) hE 0 rfl rfl dX9_areLabels_0 rfl ?_
  refine g_get (pc' := 4) hE gcX9 0 rfl 11 (by decide) rfl kX9_25 dX9_areLabels_1 rfl ?_
  refine g_iload_n (pc' := 5) hE 1 rfl rfl dX9_areLabels_4 rfl ?_
  refine g_iald (pc' := 6) hE 3 rfl (by omega) (by omega) dX9_areLabels_5 rfl ?_
  refine g_aload_n (pc' := 7) hE 0 rfl rfl dX9_areLabels_6 rfl ?_
  refine g_get (pc' := 10) hE gcX9 0 rfl 11 (by decide) rfl kX9_25 dX9_areLabels_7 rfl ?_
  refine g_iload_n (pc' := 11) hE 2 rfl rfl dX9_areLabels_10 rfl ?_
  refine g_iald (pc' := 12) hE 3 rfl (by omega) (by omega) dX9_areLabels_11 rfl ?_
  refine g_icmpN_ne (pc' := 15) (tgt := 65) hE (by omega) (by omega) dX9_areLabels_12 rfl rfl (fun hc12 => ?_) (fun hc12 => ?_)
  · refine g_iconst (pc' := 66) hE (nI 0) (by decide) dX9_areLabels_65 rfl ?_
    refine g_st (st' := [.int (bI false)]) rfl ?_
    exact hJ66 false (⟨fun y => (by cases y), fun y => by omega⟩)
  · refine g_aload_n (pc' := 16) hE 0 rfl rfl dX9_areLabels_15 rfl ?_
    refine g_get (pc' := 19) hE gcX9 0 rfl 12 (by decide) rfl kX9_28 dX9_areLabels_16 rfl ?_
    refine g_iload_n (pc' := 20) hE 1 rfl rfl dX9_areLabels_19 rfl ?_
    refine g_iald (pc' := 21) hE 4 rfl (by omega) (by omega) dX9_areLabels_20 rfl ?_
    refine g_aload_n (pc' := 22) hE 0 rfl rfl dX9_areLabels_21 rfl ?_
    refine g_get (pc' := 25) hE gcX9 0 rfl 12 (by decide) rfl kX9_28 dX9_areLabels_22 rfl ?_
    refine g_iload_n (pc' := 26) hE 2 rfl rfl dX9_areLabels_25 rfl ?_
    refine g_iald (pc' := 27) hE 4 rfl (by omega) (by omega) dX9_areLabels_26 rfl ?_
    refine g_icmpN_ne (pc' := 30) (tgt := 65) hE (by omega) (by omega) dX9_areLabels_27 rfl rfl (fun hc27 => ?_) (fun hc27 => ?_)
    · refine g_iconst (pc' := 66) hE (nI 0) (by decide) dX9_areLabels_65 rfl ?_
      refine g_st (st' := [.int (bI false)]) rfl ?_
      exact hJ66 false (⟨fun y => (by cases y), fun y => by omega⟩)
    · refine g_aload_n (pc' := 31) hE 0 rfl rfl dX9_areLabels_30 rfl ?_
      refine g_get (pc' := 34) hE gcX9 0 rfl 13 (by decide) rfl kX9_31 dX9_areLabels_31 rfl ?_
      refine g_iload_n (pc' := 35) hE 1 rfl rfl dX9_areLabels_34 rfl ?_
      refine g_iald (pc' := 36) hE 5 rfl (by omega) (by omega) dX9_areLabels_35 rfl ?_
      refine g_aload_n (pc' := 37) hE 0 rfl rfl dX9_areLabels_36 rfl ?_
      refine g_get (pc' := 40) hE gcX9 0 rfl 13 (by decide) rfl kX9_31 dX9_areLabels_37 rfl ?_
      refine g_iload_n (pc' := 41) hE 2 rfl rfl dX9_areLabels_40 rfl ?_
      refine g_iald (pc' := 42) hE 5 rfl (by omega) (by omega) dX9_areLabels_41 rfl ?_
      refine g_icmpN_ne (pc' := 45) (tgt := 65) hE (by omega) (by omega) dX9_areLabels_42 rfl rfl (fun hc42 => ?_) (fun hc42 => ?_)
      · refine g_iconst (pc' := 66) hE (nI 0) (by decide) dX9_areLabels_65 rfl ?_
        refine g_st (st' := [.int (bI false)]) rfl ?_
        exact hJ66 false (⟨fun y => (by cases y), fun y => by omega⟩)
      · refine g_aload_n (pc' := 46) hE 0 rfl rfl dX9_areLabels_45 rfl ?_
        refine g_get (pc' := 49) hE gcX9 0 rfl 15 (by decide) rfl kX9_38 dX9_areLabels_46 rfl ?_
        refine g_iload_n (pc' := 50) hE 1 rfl rfl dX9_areLabels_49 rfl ?_
        refine g_lald (pc' := 51) hE 7 rfl (by omega) (by omega) dX9_areLabels_50 rfl ?_
        refine g_aload_n (pc' := 52) hE 0 rfl rfl dX9_areLabels_51 rfl ?_
        refine g_get (pc' := 55) hE gcX9 0 rfl 15 (by decide) rfl kX9_38 dX9_areLabels_52 rfl ?_
        refine g_iload_n (pc' := 56) hE 2 rfl rfl dX9_areLabels_55 rfl ?_
        refine g_lald (pc' := 57) hE 7 rfl (by omega) (by omega) dX9_areLabels_56 rfl ?_
        refine g_lcmp (pc' := 58) hE dX9_areLabels_57 rfl ?_
        refine g_ifcN_ne (pc' := 61) (tgt := 65) hE (by omega) (by omega) dX9_areLabels_58 rfl rfl (fun hc58 => ?_) (fun hc58 => ?_)
        · refine g_iconst (pc' := 66) hE (nI 0) (by decide) dX9_areLabels_65 rfl ?_
          refine g_st (st' := [.int (bI false)]) rfl ?_
          exact hJ66 false (⟨fun y => (by cases y), fun y => by omega⟩)
        · refine g_iconst (pc' := 62) hE (nI 1) (by decide) dX9_areLabels_61 rfl ?_
          refine g_goto (tgt := 66) hE dX9_areLabels_62 rfl ?_
          refine g_st (st' := [.int (bI true)]) rfl ?_
          exact hJ66 true (⟨fun _ => by omega, fun _ => rfl⟩)

set_option maxHeartbeats 4000000 in
set_option maxRecDepth 100000 in
theorem qX9_tellsApart (l : Launch) (D : va_G) (T : Nat → ClassId) (mo r_tape r_output r_draft r_letters r_name r_kind r_vary r_flag r_rest r_more r_one r_two r_begin r_partName r_partType r_partNumber r_nextName r_nextKind r_nextVary r_nextFlag r_nextRest r_nextMore r_nextOne r_nextTwo r_nextBegin r_nextPartName r_nextPartType r_nextPartNumber r_apart r_leader r_number r_way r_seen r_told r_toldAt v_thrown v_taped v_written v_error v_stands v_many v_nextMany v_nextParts v_classes v_stringsAt v_stringsEnd v_drafted v_tolds v_stringsSize : Nat) (t : Nat → Nat) (sg v_S : Nat) (f_letters : Nat → Nat) (f_name : Nat → Nat) (f_kind : Nat → Nat) (f_vary : Nat → Nat) (f_flag : Nat → Nat) (f_rest : Nat → Nat) (f_more : Nat → Nat) (f_one : Nat → Nat) (f_two : Nat → Nat) (f_begin : Nat → Nat) (f_partName : Nat → Nat) (f_partType : Nat → Nat) (f_partNumber : Nat → Nat) (f_apart : Nat → Nat) (d : Nat) (dn : Nat → Nat → Prop) (i j : Nat) (hS : MS t sg v_S v_many f_letters f_name f_kind f_vary f_flag f_rest f_more f_one f_two f_begin f_partName f_partType f_partNumber) (hA : AM t sg v_many d dn f_apart) (hd : 1 ≤ d ∧ d < 2 ^ 20) (h1i : 1 ≤ i) (h2i : i ≤ v_many) (h1j : 1 ≤ j) (h2j : j ≤ v_many) : Con l D T yX9_tellsApart cX9_tellsApart 7 (some .boolean) 2 0 0 [.ref mo, .int (nI i), .int (nI j), .int (nI (d + 1))] [(mo, .inr (8, [.int (nI v_thrown), .ref r_tape, .int (nI v_taped), .ref r_output, .ref r_draft, .int (nI v_written), .int (nI v_error), .int (nI v_stands), .int (nI v_many), .ref r_letters, .ref r_name, .ref r_kind, .ref r_vary, .ref r_flag, .ref r_rest, .ref r_more, .ref r_one, .ref r_two, .ref r_begin, .ref r_partName, .ref r_partType, .ref r_partNumber, .int (nI v_nextMany), .int (nI v_nextParts), .ref r_nextName, .ref r_nextKind, .ref r_nextVary, .ref r_nextFlag, .ref r_nextRest, .ref r_nextMore, .ref r_nextOne, .ref r_nextTwo, .ref r_nextBegin, .ref r_nextPartName, .ref r_nextPartType, .ref r_nextPartNumber, .ref r_apart, .ref r_leader, .ref r_number, .int (nI v_classes), .int (nI v_stringsAt), .int (nI v_stringsEnd), .ref r_way, .ref r_seen, .int (nI v_drafted), .ref r_told, .ref r_toldAt, .int (nI v_tolds), .int (nI v_stringsSize)])), (r_kind, .inl (T 0, 202, .inl (fun z9 => nI (f_kind z9)))), (r_one, .inl (T 1, 202, .inr (.inl (fun z9 => lN (f_one z9))))), (r_two, .inl (T 1, 202, .inr (.inl (fun z9 => lN (f_two z9))))), (r_begin, .inl (T 0, 203, .inl (fun z9 => nI (f_begin z9)))), (r_rest, .inl (T 1, 202, .inr (.inl (fun z9 => lN (f_rest z9))))), (r_partType, .inl (T 1, 601, .inr (.inl (fun z9 => lN (f_partType z9))))), (r_apart, .inl (T 0, 40804, .inl (fun z9 => nI (f_apart z9))))] (fun v w1 => ∃ (z : Bool) (M : Nat → Nat), v = some (.int (bI z)) ∧ w1 = [(mo, .inr (8, [.int (nI v_thrown), .ref r_tape, .int (nI v_taped), .ref r_output, .ref r_draft, .int (nI v_written), .int (nI v_error), .int (nI v_stands), .int (nI v_many), .ref r_letters, .ref r_name, .ref r_kind, .ref r_vary, .ref r_flag, .ref r_rest, .ref r_more, .ref r_one, .ref r_two, .ref r_begin, .ref r_partName, .ref r_partType, .ref r_partNumber, .int (nI v_nextMany), .int (nI v_nextParts), .ref r_nextName, .ref r_nextKind, .ref r_nextVary, .ref r_nextFlag, .ref r_nextRest, .ref r_nextMore, .ref r_nextOne, .ref r_nextTwo, .ref r_nextBegin, .ref r_nextPartName, .ref r_nextPartType, .ref r_nextPartNumber, .ref r_apart, .ref r_leader, .ref r_number, .int (nI v_classes), .int (nI v_stringsAt), .int (nI v_stringsEnd), .ref r_way, .ref r_seen, .int (nI v_drafted), .ref r_told, .ref r_toldAt, .int (nI v_tolds), .int (nI v_stringsSize)])), (r_kind, .inl (T 0, 202, .inl (fun z9 => nI (f_kind z9)))), (r_one, .inl (T 1, 202, .inr (.inl (fun z9 => lN (f_one z9))))), (r_two, .inl (T 1, 202, .inr (.inl (fun z9 => lN (f_two z9))))), (r_begin, .inl (T 0, 203, .inl (fun z9 => nI (f_begin z9)))), (r_rest, .inl (T 1, 202, .inr (.inl (fun z9 => lN (f_rest z9))))), (r_partType, .inl (T 1, 601, .inr (.inl (fun z9 => lN (f_partType z9))))), (r_apart, .inl (T 0, 40804, .inl (fun z9 => nI (M z9))))] ∧ AM t sg v_many d (dnS dn i j) M ∧ zc M ≤ zc f_apart ∧ (z = true → zc M < zc f_apart) ∧ (z = false → M = f_apart)) := by
  refine Con.of (by decide) (Nat.le_of_ble_eq_true rfl) ?_
  intro E hE
  have hN := hS.1.1.1
  have hS8 := hS.1.2.2.2.1
  have hnr := hS.nr h1i h2i
  have hle := hA.le h2i h2j
  refine g_lv (lv' := [(0, .ref mo), (1, .int (nI i)), (2, .int (nI j)), (3, .int (nI (d + 1)))]) [0, 1, 2, 3] rfl ?_
  refine g_aload_n (pc' := 1) hE 0 rfl rfl dX9_tellsApart_0 rfl ?_
  refine g_iload_n (pc' := 2) hE 1 rfl rfl dX9_tellsApart_1 rfl ?_
  refine g_iload_n (pc' := 3) hE 2 rfl rfl dX9_tellsApart_2 rfl ?_
  refine g_callV (pc' := 6) (As := [.int (nI i), .int (nI j)]) (rest := []) hE (qX9_depth l D T mo r_tape r_output r_draft r_letters r_name r_kind r_vary r_flag r_rest r_more r_one r_two r_begin r_partName r_partType r_partNumber r_nextName r_nextKind r_nextVary r_nextFlag r_nextRest r_nextMore r_nextOne r_nextTwo r_nextBegin r_nextPartName r_nextPartType r_nextPartNumber r_apart r_leader r_number r_way r_seen r_told r_toldAt v_thrown v_taped v_written v_error v_stands v_many v_nextMany v_nextParts v_classes v_stringsAt v_stringsEnd v_drafted v_tolds v_stringsSize f_apart i j (by omega) (by omega)) mX9_depth kX9_212 iX9_depth sX9_depth (by decide) rfl (by decide) 0 rfl rfl [0, 7] rfl (by decide) rfl (Nat.le_of_ble_eq_true rfl) dX9_tellsApart_3 rfl (gBackR [0, 7] rfl ?_)
  rintro _ rfl
  refine g_st (st' := [.int (nI (f_apart (202 * i + j)))]) rfl ?_
  refine g_ifN_le (pc' := 9) (tgt := 11) hE (by omega) dX9_tellsApart_6 rfl rfl (fun hc6 => ?_) (fun hc6 => ?_)
  · have h0 : f_apart (202 * i + j) = 0 := by omega
    have hnj := (alk_nr hd.1 (by omega) (hA.z h2i h2j h0)).1
    refine g_iconst (pc' := 12) hE (nI 0) (by decide) dX9_tellsApart_11 rfl ?_
    refine g_istore (pc' := 14) hE [(4, .int (nI 0)), (0, .ref mo), (1, .int (nI i)), (2, .int (nI j)), (3, .int (nI (d + 1)))] dX9_tellsApart_12 rfl (by decide) rfl ?_
    refine g_iconst (pc' := 15) hE (nI 0) (by decide) dX9_tellsApart_14 rfl ?_
    refine g_istore (pc' := 17) hE [(5, .int (nI 0)), (4, .int (nI 0)), (0, .ref mo), (1, .int (nI i)), (2, .int (nI j)), (3, .int (nI (d + 1)))] dX9_tellsApart_15 rfl (by decide) rfl ?_
    refine (show ∀ (d17 : Nat) (k : Nat) (z : Bool), nrT t i - k = d17 → (k ≤ nrT t i) → (z = true → ∃ q, q < nrT t i ∧ (0 < f_apart (202 * rfT t i q + rfT t j q) ∧ f_apart (202 * rfT t i q + rfT t j q) < d + 1)) → (z = false → ∀ q, q < k → ¬ (0 < f_apart (202 * rfT t i q + rfT t j q) ∧ f_apart (202 * rfT t i q + rfT t j q) < d + 1)) → G l E D 7 0 0 [(mo, .inr (8, [.int (nI v_thrown), .ref r_tape, .int (nI v_taped), .ref r_output, .ref r_draft, .int (nI v_written), .int (nI v_error), .int (nI v_stands), .int (nI v_many), .ref r_letters, .ref r_name, .ref r_kind, .ref r_vary, .ref r_flag, .ref r_rest, .ref r_more, .ref r_one, .ref r_two, .ref r_begin, .ref r_partName, .ref r_partType, .ref r_partNumber, .int (nI v_nextMany), .int (nI v_nextParts), .ref r_nextName, .ref r_nextKind, .ref r_nextVary, .ref r_nextFlag, .ref r_nextRest, .ref r_nextMore, .ref r_nextOne, .ref r_nextTwo, .ref r_nextBegin, .ref r_nextPartName, .ref r_nextPartType, .ref r_nextPartNumber, .ref r_apart, .ref r_leader, .ref r_number, .int (nI v_classes), .int (nI v_stringsAt), .int (nI v_stringsEnd), .ref r_way, .ref r_seen, .int (nI v_drafted), .ref r_told, .ref r_toldAt, .int (nI v_tolds), .int (nI v_stringsSize)])), (r_kind, .inl (T 0, 202, .inl (fun z9 => nI (f_kind z9)))), (r_one, .inl (T 1, 202, .inr (.inl (fun z9 => lN (f_one z9))))), (r_two, .inl (T 1, 202, .inr (.inl (fun z9 => lN (f_two z9))))), (r_begin, .inl (T 0, 203, .inl (fun z9 => nI (f_begin z9)))), (r_rest, .inl (T 1, 202, .inr (.inl (fun z9 => lN (f_rest z9))))), (r_partType, .inl (T 1, 601, .inr (.inl (fun z9 => lN (f_partType z9))))), (r_apart, .inl (T 0, 40804, .inl (fun z9 => nI (f_apart z9))))] [(5, .int (nI k)), (4, .int (bI z)), (0, .ref mo), (1, .int (nI i)), (2, .int (nI j)), (3, .int (nI (d + 1)))] 17 [] from ?_) _ 0 false rfl (by omega) (fun y => (by cases y)) (fun _ q hq => absurd hq (by omega))
    intro d17
    induction d17 using Nat.strongRecOn with
    | _ d17 ih17 =>
    intro k z hd17 hk hy hn
    refine g_iload (pc' := 19) hE 0 rfl dX9_tellsApart_17 rfl ?_
    refine g_aload_n (pc' := 20) hE 2 rfl rfl dX9_tellsApart_19 rfl ?_
    refine g_iload_n (pc' := 21) hE 3 rfl rfl dX9_tellsApart_20 rfl ?_
    refine g_callV (pc' := 24) (As := [.int (nI i)]) (rest := [.int (nI k)]) hE (qX9_referencesT l D T mo r_tape r_output r_draft r_letters r_name r_kind r_vary r_flag r_rest r_more r_one r_two r_begin r_partName r_partType r_partNumber r_nextName r_nextKind r_nextVary r_nextFlag r_nextRest r_nextMore r_nextOne r_nextTwo r_nextBegin r_nextPartName r_nextPartType r_nextPartNumber r_apart r_leader r_number r_way r_seen r_told r_toldAt v_thrown v_taped v_written v_error v_stands v_many v_nextMany v_nextParts v_classes v_stringsAt v_stringsEnd v_drafted v_tolds v_stringsSize t sg v_S f_letters f_name f_kind f_vary f_flag f_rest f_more f_one f_two f_begin f_partName f_partType f_partNumber i hS (by omega) (by omega)) mX9_references kX9_226 iX9_references sX9_references (by decide) rfl (by decide) 0 rfl rfl [0, 1, 4] rfl (by decide) rfl (Nat.le_of_ble_eq_true rfl) dX9_tellsApart_21 rfl (gBackR [0, 1, 4] rfl ?_)
    rintro _ rfl
    refine g_st (st' := [.int (nI (nrT t i)), .int (nI k)]) rfl ?_
    refine g_icmpN_ge (pc' := 27) (tgt := 76) hE (by omega) (by omega) dX9_tellsApart_24 rfl rfl (fun hc24 => ?_) (fun hc24 => ?_)
    · refine g_aload_n (pc' := 77) hE 2 rfl rfl dX9_tellsApart_76 rfl ?_
      refine g_get (pc' := 80) hE gcX9 0 rfl 36 (by decide) rfl kX9_96 dX9_tellsApart_77 rfl ?_
      refine g_sipush (pc' := 83) hE (nI 202) (by decide) dX9_tellsApart_80 rfl ?_
      refine g_iload_n (pc' := 84) hE 3 rfl rfl dX9_tellsApart_83 rfl ?_
      refine g_imul (pc' := 85) hE dX9_tellsApart_84 rfl ?_
      refine g_eqi (show _ = nI (202 * i) from pk_mul _ _) ?_
      refine g_iload_n (pc' := 86) hE 4 rfl rfl dX9_tellsApart_85 rfl ?_
      refine g_iadd (pc' := 87) hE dX9_tellsApart_86 rfl ?_
      refine g_eqi (show _ = nI (202 * i + j) from nI_add _ _) ?_
      refine g_iload (pc' := 89) hE 1 rfl dX9_tellsApart_87 rfl ?_
      refine g_ifB_eq (pc' := 92) (tgt := 96) hE dX9_tellsApart_89 rfl rfl (fun hc89 => ?_) (fun hc89 => ?_)
      · refine g_iconst (pc' := 97) hE (nI 0) (by decide) dX9_tellsApart_96 rfl ?_
        refine g_iast (pc' := 98) hE 7 [(mo, .inr (8, [.int (nI v_thrown), .ref r_tape, .int (nI v_taped), .ref r_output, .ref r_draft, .int (nI v_written), .int (nI v_error), .int (nI v_stands), .int (nI v_many), .ref r_letters, .ref r_name, .ref r_kind, .ref r_vary, .ref r_flag, .ref r_rest, .ref r_more, .ref r_one, .ref r_two, .ref r_begin, .ref r_partName, .ref r_partType, .ref r_partNumber, .int (nI v_nextMany), .int (nI v_nextParts), .ref r_nextName, .ref r_nextKind, .ref r_nextVary, .ref r_nextFlag, .ref r_nextRest, .ref r_nextMore, .ref r_nextOne, .ref r_nextTwo, .ref r_nextBegin, .ref r_nextPartName, .ref r_nextPartType, .ref r_nextPartNumber, .ref r_apart, .ref r_leader, .ref r_number, .int (nI v_classes), .int (nI v_stringsAt), .int (nI v_stringsEnd), .ref r_way, .ref r_seen, .int (nI v_drafted), .ref r_told, .ref r_toldAt, .int (nI v_tolds), .int (nI v_stringsSize)])), (r_kind, .inl (T 0, 202, .inl (fun z9 => nI (f_kind z9)))), (r_one, .inl (T 1, 202, .inr (.inl (fun z9 => lN (f_one z9))))), (r_two, .inl (T 1, 202, .inr (.inl (fun z9 => lN (f_two z9))))), (r_begin, .inl (T 0, 203, .inl (fun z9 => nI (f_begin z9)))), (r_rest, .inl (T 1, 202, .inr (.inl (fun z9 => lN (f_rest z9))))), (r_partType, .inl (T 1, 601, .inr (.inl (fun z9 => lN (f_partType z9))))), (r_apart, .inl (T 0, 40804, .inl (fun z9 => nI ((gu f_apart (202 * i + j) 0) z9))))] rfl (by omega) (by omega) (gu_I _ _ _) rfl dX9_tellsApart_97 rfl ?_
        refine g_aload_n (pc' := 99) hE 2 rfl rfl dX9_tellsApart_98 rfl ?_
        refine g_get (pc' := 102) hE gcX9 0 rfl 36 (by decide) rfl kX9_96 dX9_tellsApart_99 rfl ?_
        refine g_sipush (pc' := 105) hE (nI 202) (by decide) dX9_tellsApart_102 rfl ?_
        refine g_iload_n (pc' := 106) hE 4 rfl rfl dX9_tellsApart_105 rfl ?_
        refine g_imul (pc' := 107) hE dX9_tellsApart_106 rfl ?_
        refine g_eqi (show _ = nI (202 * j) from pk_mul _ _) ?_
        refine g_iload_n (pc' := 108) hE 3 rfl rfl dX9_tellsApart_107 rfl ?_
        refine g_iadd (pc' := 109) hE dX9_tellsApart_108 rfl ?_
        refine g_eqi (show _ = nI (202 * j + i) from nI_add _ _) ?_
        refine g_iload (pc' := 111) hE 1 rfl dX9_tellsApart_109 rfl ?_
        refine g_ifB_eq (pc' := 114) (tgt := 118) hE dX9_tellsApart_111 rfl rfl (fun hc111 => ?_) (fun hc111 => ?_)
        rotate_left
        · (rw [hc89] at hc111; cases hc111)
        refine g_iconst (pc' := 119) hE (nI 0) (by decide) dX9_tellsApart_118 rfl ?_
        refine g_iast (pc' := 120) hE 7 [(mo, .inr (8, [.int (nI v_thrown), .ref r_tape, .int (nI v_taped), .ref r_output, .ref r_draft, .int (nI v_written), .int (nI v_error), .int (nI v_stands), .int (nI v_many), .ref r_letters, .ref r_name, .ref r_kind, .ref r_vary, .ref r_flag, .ref r_rest, .ref r_more, .ref r_one, .ref r_two, .ref r_begin, .ref r_partName, .ref r_partType, .ref r_partNumber, .int (nI v_nextMany), .int (nI v_nextParts), .ref r_nextName, .ref r_nextKind, .ref r_nextVary, .ref r_nextFlag, .ref r_nextRest, .ref r_nextMore, .ref r_nextOne, .ref r_nextTwo, .ref r_nextBegin, .ref r_nextPartName, .ref r_nextPartType, .ref r_nextPartNumber, .ref r_apart, .ref r_leader, .ref r_number, .int (nI v_classes), .int (nI v_stringsAt), .int (nI v_stringsEnd), .ref r_way, .ref r_seen, .int (nI v_drafted), .ref r_told, .ref r_toldAt, .int (nI v_tolds), .int (nI v_stringsSize)])), (r_kind, .inl (T 0, 202, .inl (fun z9 => nI (f_kind z9)))), (r_one, .inl (T 1, 202, .inr (.inl (fun z9 => lN (f_one z9))))), (r_two, .inl (T 1, 202, .inr (.inl (fun z9 => lN (f_two z9))))), (r_begin, .inl (T 0, 203, .inl (fun z9 => nI (f_begin z9)))), (r_rest, .inl (T 1, 202, .inr (.inl (fun z9 => lN (f_rest z9))))), (r_partType, .inl (T 1, 601, .inr (.inl (fun z9 => lN (f_partType z9))))), (r_apart, .inl (T 0, 40804, .inl (fun z9 => nI ((gu (gu f_apart (202 * i + j) 0) (202 * j + i) 0) z9))))] rfl (by omega) (by omega) (gu_I _ _ _) rfl dX9_tellsApart_119 rfl ?_
        refine g_iload (pc' := 122) hE 1 rfl dX9_tellsApart_120 rfl ?_
        exact hE.zret (by first | rfl | exact bI_nar _ | decide) (⟨z, f_apart, rfl, by rw [gu_same h0, gu_same (by rw [← hA.1 _ _ h2i h2j]; exact h0)], hA.stay h2i h2j hS.1.2.1 hd.1 (by omega) h0 (fun q hq => hn hc89 q (by first | omega | (rw [hc89] at hc29; cases hc29))), Nat.le_refl _, fun y => (by rw [hc89] at y; cases y), fun _ => rfl⟩) (Nat.zero_le _) (Nat.zero_le _) dX9_tellsApart_122
      · refine g_iload_n (pc' := 93) hE 5 rfl rfl dX9_tellsApart_92 rfl ?_
        refine g_goto (tgt := 97) hE dX9_tellsApart_93 rfl ?_
        refine g_iast (pc' := 98) hE 7 [(mo, .inr (8, [.int (nI v_thrown), .ref r_tape, .int (nI v_taped), .ref r_output, .ref r_draft, .int (nI v_written), .int (nI v_error), .int (nI v_stands), .int (nI v_many), .ref r_letters, .ref r_name, .ref r_kind, .ref r_vary, .ref r_flag, .ref r_rest, .ref r_more, .ref r_one, .ref r_two, .ref r_begin, .ref r_partName, .ref r_partType, .ref r_partNumber, .int (nI v_nextMany), .int (nI v_nextParts), .ref r_nextName, .ref r_nextKind, .ref r_nextVary, .ref r_nextFlag, .ref r_nextRest, .ref r_nextMore, .ref r_nextOne, .ref r_nextTwo, .ref r_nextBegin, .ref r_nextPartName, .ref r_nextPartType, .ref r_nextPartNumber, .ref r_apart, .ref r_leader, .ref r_number, .int (nI v_classes), .int (nI v_stringsAt), .int (nI v_stringsEnd), .ref r_way, .ref r_seen, .int (nI v_drafted), .ref r_told, .ref r_toldAt, .int (nI v_tolds), .int (nI v_stringsSize)])), (r_kind, .inl (T 0, 202, .inl (fun z9 => nI (f_kind z9)))), (r_one, .inl (T 1, 202, .inr (.inl (fun z9 => lN (f_one z9))))), (r_two, .inl (T 1, 202, .inr (.inl (fun z9 => lN (f_two z9))))), (r_begin, .inl (T 0, 203, .inl (fun z9 => nI (f_begin z9)))), (r_rest, .inl (T 1, 202, .inr (.inl (fun z9 => lN (f_rest z9))))), (r_partType, .inl (T 1, 601, .inr (.inl (fun z9 => lN (f_partType z9))))), (r_apart, .inl (T 0, 40804, .inl (fun z9 => nI ((gu f_apart (202 * i + j) (d + 1)) z9))))] rfl (by omega) (by omega) (gu_I _ _ _) rfl dX9_tellsApart_97 rfl ?_
        refine g_aload_n (pc' := 99) hE 2 rfl rfl dX9_tellsApart_98 rfl ?_
        refine g_get (pc' := 102) hE gcX9 0 rfl 36 (by decide) rfl kX9_96 dX9_tellsApart_99 rfl ?_
        refine g_sipush (pc' := 105) hE (nI 202) (by decide) dX9_tellsApart_102 rfl ?_
        refine g_iload_n (pc' := 106) hE 4 rfl rfl dX9_tellsApart_105 rfl ?_
        refine g_imul (pc' := 107) hE dX9_tellsApart_106 rfl ?_
        refine g_eqi (show _ = nI (202 * j) from pk_mul _ _) ?_
        refine g_iload_n (pc' := 108) hE 3 rfl rfl dX9_tellsApart_107 rfl ?_
        refine g_iadd (pc' := 109) hE dX9_tellsApart_108 rfl ?_
        refine g_eqi (show _ = nI (202 * j + i) from nI_add _ _) ?_
        refine g_iload (pc' := 111) hE 1 rfl dX9_tellsApart_109 rfl ?_
        refine g_ifB_eq (pc' := 114) (tgt := 118) hE dX9_tellsApart_111 rfl rfl (fun hc111 => ?_) (fun hc111 => ?_)
        · (rw [hc89] at hc111; cases hc111)
        refine g_iload_n (pc' := 115) hE 5 rfl rfl dX9_tellsApart_114 rfl ?_
        refine g_goto (tgt := 119) hE dX9_tellsApart_115 rfl ?_
        refine g_iast (pc' := 120) hE 7 [(mo, .inr (8, [.int (nI v_thrown), .ref r_tape, .int (nI v_taped), .ref r_output, .ref r_draft, .int (nI v_written), .int (nI v_error), .int (nI v_stands), .int (nI v_many), .ref r_letters, .ref r_name, .ref r_kind, .ref r_vary, .ref r_flag, .ref r_rest, .ref r_more, .ref r_one, .ref r_two, .ref r_begin, .ref r_partName, .ref r_partType, .ref r_partNumber, .int (nI v_nextMany), .int (nI v_nextParts), .ref r_nextName, .ref r_nextKind, .ref r_nextVary, .ref r_nextFlag, .ref r_nextRest, .ref r_nextMore, .ref r_nextOne, .ref r_nextTwo, .ref r_nextBegin, .ref r_nextPartName, .ref r_nextPartType, .ref r_nextPartNumber, .ref r_apart, .ref r_leader, .ref r_number, .int (nI v_classes), .int (nI v_stringsAt), .int (nI v_stringsEnd), .ref r_way, .ref r_seen, .int (nI v_drafted), .ref r_told, .ref r_toldAt, .int (nI v_tolds), .int (nI v_stringsSize)])), (r_kind, .inl (T 0, 202, .inl (fun z9 => nI (f_kind z9)))), (r_one, .inl (T 1, 202, .inr (.inl (fun z9 => lN (f_one z9))))), (r_two, .inl (T 1, 202, .inr (.inl (fun z9 => lN (f_two z9))))), (r_begin, .inl (T 0, 203, .inl (fun z9 => nI (f_begin z9)))), (r_rest, .inl (T 1, 202, .inr (.inl (fun z9 => lN (f_rest z9))))), (r_partType, .inl (T 1, 601, .inr (.inl (fun z9 => lN (f_partType z9))))), (r_apart, .inl (T 0, 40804, .inl (fun z9 => nI ((gu (gu f_apart (202 * i + j) (d + 1)) (202 * j + i) (d + 1)) z9))))] rfl (by omega) (by omega) (gu_I _ _ _) rfl dX9_tellsApart_119 rfl ?_
        refine g_iload (pc' := 122) hE 1 rfl dX9_tellsApart_120 rfl ?_
        exact hE.zret (by first | rfl | exact bI_nar _ | decide) (⟨z, _, rfl, rfl, by obtain ⟨x, g1, g2⟩ := hy hc89; exact hA.tell h2i h2j hN hS.1.2.1 hd.1 (by omega) h0 g1 g2, Nat.le_trans (zc_gu (by omega)) (zc_gu (by omega)), fun _ => Nat.lt_of_le_of_lt (zc_gu (by omega)) (zc_lt (by omega) h0 (by omega)), fun y => (by rw [hc89] at y; cases y)⟩) (Nat.zero_le _) (Nat.zero_le _) dX9_tellsApart_122
    · refine g_iload (pc' := 29) hE 1 rfl dX9_tellsApart_27 rfl ?_
      refine g_ifB_ne (pc' := 32) (tgt := 76) hE dX9_tellsApart_29 rfl rfl (fun hc29 => ?_) (fun hc29 => ?_)
      · refine g_aload_n (pc' := 77) hE 2 rfl rfl dX9_tellsApart_76 rfl ?_
        refine g_get (pc' := 80) hE gcX9 0 rfl 36 (by decide) rfl kX9_96 dX9_tellsApart_77 rfl ?_
        refine g_sipush (pc' := 83) hE (nI 202) (by decide) dX9_tellsApart_80 rfl ?_
        refine g_iload_n (pc' := 84) hE 3 rfl rfl dX9_tellsApart_83 rfl ?_
        refine g_imul (pc' := 85) hE dX9_tellsApart_84 rfl ?_
        refine g_eqi (show _ = nI (202 * i) from pk_mul _ _) ?_
        refine g_iload_n (pc' := 86) hE 4 rfl rfl dX9_tellsApart_85 rfl ?_
        refine g_iadd (pc' := 87) hE dX9_tellsApart_86 rfl ?_
        refine g_eqi (show _ = nI (202 * i + j) from nI_add _ _) ?_
        refine g_iload (pc' := 89) hE 1 rfl dX9_tellsApart_87 rfl ?_
        refine g_ifB_eq (pc' := 92) (tgt := 96) hE dX9_tellsApart_89 rfl rfl (fun hc89 => ?_) (fun hc89 => ?_)
        · refine g_iconst (pc' := 97) hE (nI 0) (by decide) dX9_tellsApart_96 rfl ?_
          refine g_iast (pc' := 98) hE 7 [(mo, .inr (8, [.int (nI v_thrown), .ref r_tape, .int (nI v_taped), .ref r_output, .ref r_draft, .int (nI v_written), .int (nI v_error), .int (nI v_stands), .int (nI v_many), .ref r_letters, .ref r_name, .ref r_kind, .ref r_vary, .ref r_flag, .ref r_rest, .ref r_more, .ref r_one, .ref r_two, .ref r_begin, .ref r_partName, .ref r_partType, .ref r_partNumber, .int (nI v_nextMany), .int (nI v_nextParts), .ref r_nextName, .ref r_nextKind, .ref r_nextVary, .ref r_nextFlag, .ref r_nextRest, .ref r_nextMore, .ref r_nextOne, .ref r_nextTwo, .ref r_nextBegin, .ref r_nextPartName, .ref r_nextPartType, .ref r_nextPartNumber, .ref r_apart, .ref r_leader, .ref r_number, .int (nI v_classes), .int (nI v_stringsAt), .int (nI v_stringsEnd), .ref r_way, .ref r_seen, .int (nI v_drafted), .ref r_told, .ref r_toldAt, .int (nI v_tolds), .int (nI v_stringsSize)])), (r_kind, .inl (T 0, 202, .inl (fun z9 => nI (f_kind z9)))), (r_one, .inl (T 1, 202, .inr (.inl (fun z9 => lN (f_one z9))))), (r_two, .inl (T 1, 202, .inr (.inl (fun z9 => lN (f_two z9))))), (r_begin, .inl (T 0, 203, .inl (fun z9 => nI (f_begin z9)))), (r_rest, .inl (T 1, 202, .inr (.inl (fun z9 => lN (f_rest z9))))), (r_partType, .inl (T 1, 601, .inr (.inl (fun z9 => lN (f_partType z9))))), (r_apart, .inl (T 0, 40804, .inl (fun z9 => nI ((gu f_apart (202 * i + j) 0) z9))))] rfl (by omega) (by omega) (gu_I _ _ _) rfl dX9_tellsApart_97 rfl ?_
          refine g_aload_n (pc' := 99) hE 2 rfl rfl dX9_tellsApart_98 rfl ?_
          refine g_get (pc' := 102) hE gcX9 0 rfl 36 (by decide) rfl kX9_96 dX9_tellsApart_99 rfl ?_
          refine g_sipush (pc' := 105) hE (nI 202) (by decide) dX9_tellsApart_102 rfl ?_
          refine g_iload_n (pc' := 106) hE 4 rfl rfl dX9_tellsApart_105 rfl ?_
          refine g_imul (pc' := 107) hE dX9_tellsApart_106 rfl ?_
          refine g_eqi (show _ = nI (202 * j) from pk_mul _ _) ?_
          refine g_iload_n (pc' := 108) hE 3 rfl rfl dX9_tellsApart_107 rfl ?_
          refine g_iadd (pc' := 109) hE dX9_tellsApart_108 rfl ?_
          refine g_eqi (show _ = nI (202 * j + i) from nI_add _ _) ?_
          refine g_iload (pc' := 111) hE 1 rfl dX9_tellsApart_109 rfl ?_
          refine g_ifB_eq (pc' := 114) (tgt := 118) hE dX9_tellsApart_111 rfl rfl (fun hc111 => ?_) (fun hc111 => ?_)
          rotate_left
          · (rw [hc89] at hc111; cases hc111)
          refine g_iconst (pc' := 119) hE (nI 0) (by decide) dX9_tellsApart_118 rfl ?_
          refine g_iast (pc' := 120) hE 7 [(mo, .inr (8, [.int (nI v_thrown), .ref r_tape, .int (nI v_taped), .ref r_output, .ref r_draft, .int (nI v_written), .int (nI v_error), .int (nI v_stands), .int (nI v_many), .ref r_letters, .ref r_name, .ref r_kind, .ref r_vary, .ref r_flag, .ref r_rest, .ref r_more, .ref r_one, .ref r_two, .ref r_begin, .ref r_partName, .ref r_partType, .ref r_partNumber, .int (nI v_nextMany), .int (nI v_nextParts), .ref r_nextName, .ref r_nextKind, .ref r_nextVary, .ref r_nextFlag, .ref r_nextRest, .ref r_nextMore, .ref r_nextOne, .ref r_nextTwo, .ref r_nextBegin, .ref r_nextPartName, .ref r_nextPartType, .ref r_nextPartNumber, .ref r_apart, .ref r_leader, .ref r_number, .int (nI v_classes), .int (nI v_stringsAt), .int (nI v_stringsEnd), .ref r_way, .ref r_seen, .int (nI v_drafted), .ref r_told, .ref r_toldAt, .int (nI v_tolds), .int (nI v_stringsSize)])), (r_kind, .inl (T 0, 202, .inl (fun z9 => nI (f_kind z9)))), (r_one, .inl (T 1, 202, .inr (.inl (fun z9 => lN (f_one z9))))), (r_two, .inl (T 1, 202, .inr (.inl (fun z9 => lN (f_two z9))))), (r_begin, .inl (T 0, 203, .inl (fun z9 => nI (f_begin z9)))), (r_rest, .inl (T 1, 202, .inr (.inl (fun z9 => lN (f_rest z9))))), (r_partType, .inl (T 1, 601, .inr (.inl (fun z9 => lN (f_partType z9))))), (r_apart, .inl (T 0, 40804, .inl (fun z9 => nI ((gu (gu f_apart (202 * i + j) 0) (202 * j + i) 0) z9))))] rfl (by omega) (by omega) (gu_I _ _ _) rfl dX9_tellsApart_119 rfl ?_
          refine g_iload (pc' := 122) hE 1 rfl dX9_tellsApart_120 rfl ?_
          exact hE.zret (by first | rfl | exact bI_nar _ | decide) (⟨z, f_apart, rfl, by rw [gu_same h0, gu_same (by rw [← hA.1 _ _ h2i h2j]; exact h0)], hA.stay h2i h2j hS.1.2.1 hd.1 (by omega) h0 (fun q hq => hn hc89 q (by first | omega | (rw [hc89] at hc29; cases hc29))), Nat.le_refl _, fun y => (by rw [hc89] at y; cases y), fun _ => rfl⟩) (Nat.zero_le _) (Nat.zero_le _) dX9_tellsApart_122
        · refine g_iload_n (pc' := 93) hE 5 rfl rfl dX9_tellsApart_92 rfl ?_
          refine g_goto (tgt := 97) hE dX9_tellsApart_93 rfl ?_
          refine g_iast (pc' := 98) hE 7 [(mo, .inr (8, [.int (nI v_thrown), .ref r_tape, .int (nI v_taped), .ref r_output, .ref r_draft, .int (nI v_written), .int (nI v_error), .int (nI v_stands), .int (nI v_many), .ref r_letters, .ref r_name, .ref r_kind, .ref r_vary, .ref r_flag, .ref r_rest, .ref r_more, .ref r_one, .ref r_two, .ref r_begin, .ref r_partName, .ref r_partType, .ref r_partNumber, .int (nI v_nextMany), .int (nI v_nextParts), .ref r_nextName, .ref r_nextKind, .ref r_nextVary, .ref r_nextFlag, .ref r_nextRest, .ref r_nextMore, .ref r_nextOne, .ref r_nextTwo, .ref r_nextBegin, .ref r_nextPartName, .ref r_nextPartType, .ref r_nextPartNumber, .ref r_apart, .ref r_leader, .ref r_number, .int (nI v_classes), .int (nI v_stringsAt), .int (nI v_stringsEnd), .ref r_way, .ref r_seen, .int (nI v_drafted), .ref r_told, .ref r_toldAt, .int (nI v_tolds), .int (nI v_stringsSize)])), (r_kind, .inl (T 0, 202, .inl (fun z9 => nI (f_kind z9)))), (r_one, .inl (T 1, 202, .inr (.inl (fun z9 => lN (f_one z9))))), (r_two, .inl (T 1, 202, .inr (.inl (fun z9 => lN (f_two z9))))), (r_begin, .inl (T 0, 203, .inl (fun z9 => nI (f_begin z9)))), (r_rest, .inl (T 1, 202, .inr (.inl (fun z9 => lN (f_rest z9))))), (r_partType, .inl (T 1, 601, .inr (.inl (fun z9 => lN (f_partType z9))))), (r_apart, .inl (T 0, 40804, .inl (fun z9 => nI ((gu f_apart (202 * i + j) (d + 1)) z9))))] rfl (by omega) (by omega) (gu_I _ _ _) rfl dX9_tellsApart_97 rfl ?_
          refine g_aload_n (pc' := 99) hE 2 rfl rfl dX9_tellsApart_98 rfl ?_
          refine g_get (pc' := 102) hE gcX9 0 rfl 36 (by decide) rfl kX9_96 dX9_tellsApart_99 rfl ?_
          refine g_sipush (pc' := 105) hE (nI 202) (by decide) dX9_tellsApart_102 rfl ?_
          refine g_iload_n (pc' := 106) hE 4 rfl rfl dX9_tellsApart_105 rfl ?_
          refine g_imul (pc' := 107) hE dX9_tellsApart_106 rfl ?_
          refine g_eqi (show _ = nI (202 * j) from pk_mul _ _) ?_
          refine g_iload_n (pc' := 108) hE 3 rfl rfl dX9_tellsApart_107 rfl ?_
          refine g_iadd (pc' := 109) hE dX9_tellsApart_108 rfl ?_
          refine g_eqi (show _ = nI (202 * j + i) from nI_add _ _) ?_
          refine g_iload (pc' := 111) hE 1 rfl dX9_tellsApart_109 rfl ?_
          refine g_ifB_eq (pc' := 114) (tgt := 118) hE dX9_tellsApart_111 rfl rfl (fun hc111 => ?_) (fun hc111 => ?_)
          · (rw [hc89] at hc111; cases hc111)
          refine g_iload_n (pc' := 115) hE 5 rfl rfl dX9_tellsApart_114 rfl ?_
          refine g_goto (tgt := 119) hE dX9_tellsApart_115 rfl ?_
          refine g_iast (pc' := 120) hE 7 [(mo, .inr (8, [.int (nI v_thrown), .ref r_tape, .int (nI v_taped), .ref r_output, .ref r_draft, .int (nI v_written), .int (nI v_error), .int (nI v_stands), .int (nI v_many), .ref r_letters, .ref r_name, .ref r_kind, .ref r_vary, .ref r_flag, .ref r_rest, .ref r_more, .ref r_one, .ref r_two, .ref r_begin, .ref r_partName, .ref r_partType, .ref r_partNumber, .int (nI v_nextMany), .int (nI v_nextParts), .ref r_nextName, .ref r_nextKind, .ref r_nextVary, .ref r_nextFlag, .ref r_nextRest, .ref r_nextMore, .ref r_nextOne, .ref r_nextTwo, .ref r_nextBegin, .ref r_nextPartName, .ref r_nextPartType, .ref r_nextPartNumber, .ref r_apart, .ref r_leader, .ref r_number, .int (nI v_classes), .int (nI v_stringsAt), .int (nI v_stringsEnd), .ref r_way, .ref r_seen, .int (nI v_drafted), .ref r_told, .ref r_toldAt, .int (nI v_tolds), .int (nI v_stringsSize)])), (r_kind, .inl (T 0, 202, .inl (fun z9 => nI (f_kind z9)))), (r_one, .inl (T 1, 202, .inr (.inl (fun z9 => lN (f_one z9))))), (r_two, .inl (T 1, 202, .inr (.inl (fun z9 => lN (f_two z9))))), (r_begin, .inl (T 0, 203, .inl (fun z9 => nI (f_begin z9)))), (r_rest, .inl (T 1, 202, .inr (.inl (fun z9 => lN (f_rest z9))))), (r_partType, .inl (T 1, 601, .inr (.inl (fun z9 => lN (f_partType z9))))), (r_apart, .inl (T 0, 40804, .inl (fun z9 => nI ((gu (gu f_apart (202 * i + j) (d + 1)) (202 * j + i) (d + 1)) z9))))] rfl (by omega) (by omega) (gu_I _ _ _) rfl dX9_tellsApart_119 rfl ?_
          refine g_iload (pc' := 122) hE 1 rfl dX9_tellsApart_120 rfl ?_
          exact hE.zret (by first | rfl | exact bI_nar _ | decide) (⟨z, _, rfl, rfl, by obtain ⟨x, g1, g2⟩ := hy hc89; exact hA.tell h2i h2j hN hS.1.2.1 hd.1 (by omega) h0 g1 g2, Nat.le_trans (zc_gu (by omega)) (zc_gu (by omega)), fun _ => Nat.lt_of_le_of_lt (zc_gu (by omega)) (zc_lt (by omega) h0 (by omega)), fun y => (by rw [hc89] at y; cases y)⟩) (Nat.zero_le _) (Nat.zero_le _) dX9_tellsApart_122
      · have hJ68 : ∀ (z2 : Bool), (z2 = true ↔ (0 < f_apart (202 * rfT t i k + rfT t j k) ∧ f_apart (202 * rfT t i k + rfT t j k) < d + 1)) → G l E D 7 0 0 [(mo, .inr (8, [.int (nI v_thrown), .ref r_tape, .int (nI v_taped), .ref r_output, .ref r_draft, .int (nI v_written), .int (nI v_error), .int (nI v_stands), .int (nI v_many), .ref r_letters, .ref r_name, .ref r_kind, .ref r_vary, .ref r_flag, .ref r_rest, .ref r_more, .ref r_one, .ref r_two, .ref r_begin, .ref r_partName, .ref r_partType, .ref r_partNumber, .int (nI v_nextMany), .int (nI v_nextParts), .ref r_nextName, .ref r_nextKind, .ref r_nextVary, .ref r_nextFlag, .ref r_nextRest, .ref r_nextMore, .ref r_nextOne, .ref r_nextTwo, .ref r_nextBegin, .ref r_nextPartName, .ref r_nextPartType, .ref r_nextPartNumber, .ref r_apart, .ref r_leader, .ref r_number, .int (nI v_classes), .int (nI v_stringsAt), .int (nI v_stringsEnd), .ref r_way, .ref r_seen, .int (nI v_drafted), .ref r_told, .ref r_toldAt, .int (nI v_tolds), .int (nI v_stringsSize)])), (r_kind, .inl (T 0, 202, .inl (fun z9 => nI (f_kind z9)))), (r_one, .inl (T 1, 202, .inr (.inl (fun z9 => lN (f_one z9))))), (r_two, .inl (T 1, 202, .inr (.inl (fun z9 => lN (f_two z9))))), (r_begin, .inl (T 0, 203, .inl (fun z9 => nI (f_begin z9)))), (r_rest, .inl (T 1, 202, .inr (.inl (fun z9 => lN (f_rest z9))))), (r_partType, .inl (T 1, 601, .inr (.inl (fun z9 => lN (f_partType z9))))), (r_apart, .inl (T 0, 40804, .inl (fun z9 => nI (f_apart z9))))] [(5, .int (nI k)), (4, .int (bI z)), (0, .ref mo), (1, .int (nI i)), (2, .int (nI j)), (3, .int (nI (d + 1)))] 68 [.int (bI z2)] := by
          intro z2 hz2
          refine g_istore (pc' := 70) hE [(4, .int (bI z2)), (5, .int (nI k)), (0, .ref mo), (1, .int (nI i)), (2, .int (nI j)), (3, .int (nI (d + 1)))] dX9_tellsApart_68 rfl (by decide) rfl ?_
          refine g_iinc (pc' := 73) hE (nI (k + 1)) [(5, .int (nI (k + 1))), (4, .int (bI z2)), (0, .ref mo), (1, .int (nI i)), (2, .int (nI j)), (3, .int (nI (d + 1)))] 1 rfl dX9_tellsApart_70 rfl (g_incN _ 1) (by decide) rfl ?_
          refine g_goto (tgt := 17) hE dX9_tellsApart_73 rfl ?_
          exact ih17 _ (by omega) (k + 1) z2 rfl (by omega) (fun y => ⟨k, by omega, hz2.mp y⟩) (fun y => lt_s (hn hc29) (fun g => by rw [hz2.mpr g] at y; cases y))
        refine g_aload_n (pc' := 33) hE 2 rfl rfl dX9_tellsApart_32 rfl ?_
        refine g_aload_n (pc' := 34) hE 2 rfl rfl dX9_tellsApart_33 rfl ?_
        refine g_iload_n (pc' := 35) hE 3 rfl rfl dX9_tellsApart_34 rfl ?_
        refine g_iload (pc' := 37) hE 0 rfl dX9_tellsApart_35 rfl ?_
        refine g_callV (pc' := 40) (As := [.int (nI i), .int (nI k)]) (rest := [.ref mo]) hE (qX9_referT l D T mo r_tape r_output r_draft r_letters r_name r_kind r_vary r_flag r_rest r_more r_one r_two r_begin r_partName r_partType r_partNumber r_nextName r_nextKind r_nextVary r_nextFlag r_nextRest r_nextMore r_nextOne r_nextTwo r_nextBegin r_nextPartName r_nextPartType r_nextPartNumber r_apart r_leader r_number r_way r_seen r_told r_toldAt v_thrown v_taped v_written v_error v_stands v_many v_nextMany v_nextParts v_classes v_stringsAt v_stringsEnd v_drafted v_tolds v_stringsSize t sg v_S f_letters f_name f_kind f_vary f_flag f_rest f_more f_one f_two f_begin f_partName f_partType f_partNumber i k hS (by omega) (by omega) (by omega)) mX9_refer kX9_230 iX9_refer sX9_refer (by decide) rfl (by decide) 0 rfl rfl [0, 1, 2, 3, 4, 5, 6] rfl (by decide) rfl (Nat.le_of_ble_eq_true rfl) dX9_tellsApart_37 rfl (gBackR [0, 1, 2, 3, 4, 5, 6] rfl ?_)
        rintro _ rfl
        refine g_st (st' := [.int (nI (rfT t i k)), .ref mo]) rfl ?_
        have hr1 := (hS.rf h1i h2i (q := k) (by omega)).1
        refine g_aload_n (pc' := 41) hE 2 rfl rfl dX9_tellsApart_40 rfl ?_
        refine g_iload_n (pc' := 42) hE 4 rfl rfl dX9_tellsApart_41 rfl ?_
        refine g_iload (pc' := 44) hE 0 rfl dX9_tellsApart_42 rfl ?_
        refine g_callV (pc' := 47) (As := [.int (nI j), .int (nI k)]) (rest := [.int (nI (rfT t i k)), .ref mo]) hE (qX9_referT l D T mo r_tape r_output r_draft r_letters r_name r_kind r_vary r_flag r_rest r_more r_one r_two r_begin r_partName r_partType r_partNumber r_nextName r_nextKind r_nextVary r_nextFlag r_nextRest r_nextMore r_nextOne r_nextTwo r_nextBegin r_nextPartName r_nextPartType r_nextPartNumber r_apart r_leader r_number r_way r_seen r_told r_toldAt v_thrown v_taped v_written v_error v_stands v_many v_nextMany v_nextParts v_classes v_stringsAt v_stringsEnd v_drafted v_tolds v_stringsSize t sg v_S f_letters f_name f_kind f_vary f_flag f_rest f_more f_one f_two f_begin f_partName f_partType f_partNumber j k hS (by omega) (by omega) (by omega)) mX9_refer kX9_230 iX9_refer sX9_refer (by decide) rfl (by decide) 0 rfl rfl [0, 1, 2, 3, 4, 5, 6] rfl (by decide) rfl (Nat.le_of_ble_eq_true rfl) dX9_tellsApart_44 rfl (gBackR [0, 1, 2, 3, 4, 5, 6] rfl ?_)
        rintro _ rfl
        refine g_st (st' := [.int (nI (rfT t j k)), .int (nI (rfT t i k)), .ref mo]) rfl ?_
        have hr2 := (hS.rf h1j h2j (q := k) (by omega)).1
        have hle2 := hA.le hr1 hr2
        refine g_callV (pc' := 50) (As := [.int (nI (rfT t i k)), .int (nI (rfT t j k))]) (rest := []) hE (qX9_depth l D T mo r_tape r_output r_draft r_letters r_name r_kind r_vary r_flag r_rest r_more r_one r_two r_begin r_partName r_partType r_partNumber r_nextName r_nextKind r_nextVary r_nextFlag r_nextRest r_nextMore r_nextOne r_nextTwo r_nextBegin r_nextPartName r_nextPartType r_nextPartNumber r_apart r_leader r_number r_way r_seen r_told r_toldAt v_thrown v_taped v_written v_error v_stands v_many v_nextMany v_nextParts v_classes v_stringsAt v_stringsEnd v_drafted v_tolds v_stringsSize f_apart (rfT t i k) (rfT t j k) (by omega) (by omega)) mX9_depth kX9_212 iX9_depth sX9_depth (by decide) rfl (by decide) 0 rfl rfl [0, 7] rfl (by decide) rfl (Nat.le_of_ble_eq_true rfl) dX9_tellsApart_47 rfl (gBackR [0, 7] rfl ?_)
        rintro _ rfl
        refine g_st (st' := [.int (nI (f_apart (202 * (rfT t i k) + (rfT t j k))))]) rfl ?_
        refine g_istore (pc' := 52) hE [(6, .int (nI (f_apart (202 * (rfT t i k) + (rfT t j k))))), (5, .int (nI k)), (4, .int (bI z)), (0, .ref mo), (1, .int (nI i)), (2, .int (nI j)), (3, .int (nI (d + 1)))] dX9_tellsApart_50 rfl (by decide) rfl ?_
        refine g_iload (pc' := 54) hE 0 rfl dX9_tellsApart_52 rfl ?_
        refine g_ifN_le (pc' := 57) (tgt := 67) hE (by omega) dX9_tellsApart_54 rfl rfl (fun hc54 => ?_) (fun hc54 => ?_)
        · refine g_iconst (pc' := 68) hE (nI 0) (by decide) dX9_tellsApart_67 rfl ?_
          refine g_st (st' := [.int (bI false)]) rfl ?_
          refine g_lv [1, 2, 3, 4, 5, 6] (lv' := [(5, .int (nI k)), (4, .int (bI z)), (0, .ref mo), (1, .int (nI i)), (2, .int (nI j)), (3, .int (nI (d + 1)))]) rfl ?_
          exact hJ68 false (⟨fun y => (by cases y), fun y => by omega⟩)
        · refine g_iload (pc' := 59) hE 0 rfl dX9_tellsApart_57 rfl ?_
          refine g_iload_n (pc' := 60) hE 6 rfl rfl dX9_tellsApart_59 rfl ?_
          refine g_icmpN_ge (pc' := 63) (tgt := 67) hE (by omega) (by omega) dX9_tellsApart_60 rfl rfl (fun hc60 => ?_) (fun hc60 => ?_)
          · refine g_iconst (pc' := 68) hE (nI 0) (by decide) dX9_tellsApart_67 rfl ?_
            refine g_st (st' := [.int (bI false)]) rfl ?_
            refine g_lv [1, 2, 3, 4, 5, 6] (lv' := [(5, .int (nI k)), (4, .int (bI z)), (0, .ref mo), (1, .int (nI i)), (2, .int (nI j)), (3, .int (nI (d + 1)))]) rfl ?_
            exact hJ68 false (⟨fun y => (by cases y), fun y => by omega⟩)
          · refine g_iconst (pc' := 64) hE (nI 1) (by decide) dX9_tellsApart_63 rfl ?_
            refine g_goto (tgt := 68) hE dX9_tellsApart_64 rfl ?_
            refine g_st (st' := [.int (bI true)]) rfl ?_
            refine g_lv [1, 2, 3, 4, 5, 6] (lv' := [(5, .int (nI k)), (4, .int (bI z)), (0, .ref mo), (1, .int (nI i)), (2, .int (nI j)), (3, .int (nI (d + 1)))]) rfl ?_
            exact hJ68 true (⟨fun _ => by omega, fun _ => rfl⟩)
  · refine g_iconst (pc' := 10) hE (nI 0) (by decide) dX9_tellsApart_9 rfl ?_
    exact hE.zret (by first | rfl | exact bI_nar _ | decide) (⟨false, _, rfl, rfl, hA.skip h2i h2j (by omega), Nat.le_refl _, fun y => (by cases y), fun _ => rfl⟩) (Nat.zero_le _) (Nat.zero_le _) dX9_tellsApart_10
