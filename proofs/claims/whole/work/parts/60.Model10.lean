set_option maxRecDepth 100000 in
theorem qX9_sizeT (l : Launch) (D : va_G) (T : Nat → ClassId) (mo r_tape r_output r_draft r_letters r_name r_kind r_vary r_flag r_rest r_more r_one r_two r_begin r_partName r_partType r_partNumber r_nextName r_nextKind r_nextVary r_nextFlag r_nextRest r_nextMore r_nextOne r_nextTwo r_nextBegin r_nextPartName r_nextPartType r_nextPartNumber r_apart r_leader r_number r_way r_seen r_told r_toldAt v_thrown v_taped v_written v_error v_stands v_many v_nextMany v_nextParts v_classes v_stringsAt v_stringsEnd v_drafted v_tolds v_stringsSize : Nat) (t : Nat → Nat) (sg v_S : Nat) (f_letters : Nat → Nat) (f_name : Nat → Nat) (f_kind : Nat → Nat) (f_vary : Nat → Nat) (f_flag : Nat → Nat) (f_rest : Nat → Nat) (f_more : Nat → Nat) (f_one : Nat → Nat) (f_two : Nat → Nat) (f_begin : Nat → Nat) (f_partName : Nat → Nat) (f_partType : Nat → Nat) (f_partNumber : Nat → Nat) (p : Nat) (hS : MS t sg v_S v_many f_letters f_name f_kind f_vary f_flag f_rest f_more f_one f_two f_begin f_partName f_partType f_partNumber) (hp : p < v_S) : Con l D T yX9_size cX9_size 3 (some .int) 0 0 0 [.ref mo, .int (nI p)] [(mo, .inr (8, [.int (nI v_thrown), .ref r_tape, .int (nI v_taped), .ref r_output, .ref r_draft, .int (nI v_written), .int (nI v_error), .int (nI v_stands), .int (nI v_many), .ref r_letters, .ref r_name, .ref r_kind, .ref r_vary, .ref r_flag, .ref r_rest, .ref r_more, .ref r_one, .ref r_two, .ref r_begin, .ref r_partName, .ref r_partType, .ref r_partNumber, .int (nI v_nextMany), .int (nI v_nextParts), .ref r_nextName, .ref r_nextKind, .ref r_nextVary, .ref r_nextFlag, .ref r_nextRest, .ref r_nextMore, .ref r_nextOne, .ref r_nextTwo, .ref r_nextBegin, .ref r_nextPartName, .ref r_nextPartType, .ref r_nextPartNumber, .ref r_apart, .ref r_leader, .ref r_number, .int (nI v_classes), .int (nI v_stringsAt), .int (nI v_stringsEnd), .ref r_way, .ref r_seen, .int (nI v_drafted), .ref r_told, .ref r_toldAt, .int (nI v_tolds), .int (nI v_stringsSize)])), (r_letters, .inl (T 0, 8192, .inl (fun z9 => nI (f_letters z9))))] (fun v w1 => w1 = [(mo, .inr (8, [.int (nI v_thrown), .ref r_tape, .int (nI v_taped), .ref r_output, .ref r_draft, .int (nI v_written), .int (nI v_error), .int (nI v_stands), .int (nI v_many), .ref r_letters, .ref r_name, .ref r_kind, .ref r_vary, .ref r_flag, .ref r_rest, .ref r_more, .ref r_one, .ref r_two, .ref r_begin, .ref r_partName, .ref r_partType, .ref r_partNumber, .int (nI v_nextMany), .int (nI v_nextParts), .ref r_nextName, .ref r_nextKind, .ref r_nextVary, .ref r_nextFlag, .ref r_nextRest, .ref r_nextMore, .ref r_nextOne, .ref r_nextTwo, .ref r_nextBegin, .ref r_nextPartName, .ref r_nextPartType, .ref r_nextPartNumber, .ref r_apart, .ref r_leader, .ref r_number, .int (nI v_classes), .int (nI v_stringsAt), .int (nI v_stringsEnd), .ref r_way, .ref r_seen, .int (nI v_drafted), .ref r_told, .ref r_toldAt, .int (nI v_tolds), .int (nI v_stringsSize)])), (r_letters, .inl (T 0, 8192, .inl (fun z9 => nI (f_letters z9))))] ∧ v = some (.int (nI (lfr t (sg + p))))) := by
  rw [← (hS.lf hp).1]
  exact qX9_size l D T mo r_tape r_output r_draft r_letters r_name r_kind r_vary r_flag r_rest r_more r_one r_two r_begin r_partName r_partType r_partNumber r_nextName r_nextKind r_nextVary r_nextFlag r_nextRest r_nextMore r_nextOne r_nextTwo r_nextBegin r_nextPartName r_nextPartType r_nextPartNumber r_apart r_leader r_number r_way r_seen r_told r_toldAt v_thrown v_taped v_written v_error v_stands v_many v_nextMany v_nextParts v_classes v_stringsAt v_stringsEnd v_drafted v_tolds v_stringsSize f_letters v_S p hS.2.1.2 hS.1.2.2.2.1.2.1 hS.z hp

set_option maxHeartbeats 4000000 in
set_option maxRecDepth 100000 in
theorem qX9_type (l : Launch) (D : va_G) (T : Nat → ClassId) (mo r_tape r_output r_draft r_letters r_name r_kind r_vary r_flag r_rest r_more r_one r_two r_begin r_partName r_partType r_partNumber r_nextName r_nextKind r_nextVary r_nextFlag r_nextRest r_nextMore r_nextOne r_nextTwo r_nextBegin r_nextPartName r_nextPartType r_nextPartNumber r_apart r_leader r_number r_way r_seen r_told r_toldAt v_thrown v_taped v_written v_error v_stands v_many v_nextMany v_nextParts v_classes v_stringsAt v_stringsEnd v_drafted v_tolds v_stringsSize : Nat) (t : Nat → Nat) (sg v_S : Nat) (f_letters : Nat → Nat) (f_name : Nat → Nat) (f_kind : Nat → Nat) (f_vary : Nat → Nat) (f_flag : Nat → Nat) (f_rest : Nat → Nat) (f_more : Nat → Nat) (f_one : Nat → Nat) (f_two : Nat → Nat) (f_begin : Nat → Nat) (f_partName : Nat → Nat) (f_partType : Nat → Nat) (f_partNumber : Nat → Nat) (f_apart : Nat → Nat) (f_leader : Nat → Nat) (f_number : Nat → Nat) (i w : Nat) (hI : MI t sg v_S v_many f_letters f_name f_kind f_vary f_flag f_rest f_more f_one f_two f_begin f_partName f_partType f_partNumber f_apart f_leader f_number v_classes) (h1i : 1 ≤ i) (h2i : i ≤ v_many) (hw : w ≤ 7) : Con l D T yX9_type cX9_type 3 (some .long) 2 0 0 [.ref mo, .int (nI i), .int (nI w)] [(mo, .inr (8, [.int (nI v_thrown), .ref r_tape, .int (nI v_taped), .ref r_output, .ref r_draft, .int (nI v_written), .int (nI v_error), .int (nI v_stands), .int (nI v_many), .ref r_letters, .ref r_name, .ref r_kind, .ref r_vary, .ref r_flag, .ref r_rest, .ref r_more, .ref r_one, .ref r_two, .ref r_begin, .ref r_partName, .ref r_partType, .ref r_partNumber, .int (nI v_nextMany), .int (nI v_nextParts), .ref r_nextName, .ref r_nextKind, .ref r_nextVary, .ref r_nextFlag, .ref r_nextRest, .ref r_nextMore, .ref r_nextOne, .ref r_nextTwo, .ref r_nextBegin, .ref r_nextPartName, .ref r_nextPartType, .ref r_nextPartNumber, .ref r_apart, .ref r_leader, .ref r_number, .int (nI v_classes), .int (nI v_stringsAt), .int (nI v_stringsEnd), .ref r_way, .ref r_seen, .int (nI v_drafted), .ref r_told, .ref r_toldAt, .int (nI v_tolds), .int (nI v_stringsSize)])), (r_kind, .inl (T 0, 202, .inl (fun z9 => nI (f_kind z9)))), (r_vary, .inl (T 0, 202, .inl (fun z9 => nI (f_vary z9)))), (r_flag, .inl (T 0, 202, .inl (fun z9 => nI (f_flag z9)))), (r_rest, .inl (T 1, 202, .inr (.inl (fun z9 => lN (f_rest z9))))), (r_begin, .inl (T 0, 203, .inl (fun z9 => nI (f_begin z9)))), (r_name, .inl (T 0, 202, .inl (fun z9 => nI (f_name z9)))), (r_letters, .inl (T 0, 8192, .inl (fun z9 => nI (f_letters z9)))), (r_leader, .inl (T 0, 202, .inl (fun z9 => nI (f_leader z9)))), (r_number, .inl (T 0, 202, .inl (fun z9 => nI (f_number z9))))] (fun v w1 => v = some (.long (lN (tyA t sg f_leader f_number i w))) ∧ w1 = [(mo, .inr (8, [.int (nI 0), .ref r_tape, .int (nI v_taped), .ref r_output, .ref r_draft, .int (nI v_written), .int (nI v_error), .int (nI v_stands), .int (nI v_many), .ref r_letters, .ref r_name, .ref r_kind, .ref r_vary, .ref r_flag, .ref r_rest, .ref r_more, .ref r_one, .ref r_two, .ref r_begin, .ref r_partName, .ref r_partType, .ref r_partNumber, .int (nI v_nextMany), .int (nI v_nextParts), .ref r_nextName, .ref r_nextKind, .ref r_nextVary, .ref r_nextFlag, .ref r_nextRest, .ref r_nextMore, .ref r_nextOne, .ref r_nextTwo, .ref r_nextBegin, .ref r_nextPartName, .ref r_nextPartType, .ref r_nextPartNumber, .ref r_apart, .ref r_leader, .ref r_number, .int (nI v_classes), .int (nI v_stringsAt), .int (nI v_stringsEnd), .ref r_way, .ref r_seen, .int (nI v_drafted), .ref r_told, .ref r_toldAt, .int (nI v_tolds), .int (nI v_stringsSize)])), (r_kind, .inl (T 0, 202, .inl (fun z9 => nI (f_kind z9)))), (r_vary, .inl (T 0, 202, .inl (fun z9 => nI (f_vary z9)))), (r_flag, .inl (T 0, 202, .inl (fun z9 => nI (f_flag z9)))), (r_rest, .inl (T 1, 202, .inr (.inl (fun z9 => lN (f_rest z9))))), (r_begin, .inl (T 0, 203, .inl (fun z9 => nI (f_begin z9)))), (r_name, .inl (T 0, 202, .inl (fun z9 => nI (f_name z9)))), (r_letters, .inl (T 0, 8192, .inl (fun z9 => nI (f_letters z9)))), (r_leader, .inl (T 0, 202, .inl (fun z9 => nI (f_leader z9)))), (r_number, .inl (T 0, 202, .inl (fun z9 => nI (f_number z9))))]) := by
  refine Con.of (by decide) (Nat.le_of_ble_eq_true rfl) ?_
  intro E hE
  have hS := hI.1
  have hN := hS.1.1.1
  have hS8 := hS.1.2.2.2.1
  obtain ⟨ai, ⟨ni1, ni2⟩, ⟨ki1, ki2, ki3⟩, ⟨vi1, vi2⟩, ⟨fi1, fi2⟩, ⟨ri1, ri2⟩, ⟨mi1, mi2⟩, ⟨oi1, oi2⟩, ⟨ti1, ti2⟩, ⟨bi1, bi2, bi3⟩, ⟨gi1, gi2⟩, pi⟩ := hS.at h1i h2i
  have hl1 := (hI.2.2.1.le h1i h2i).1
  have hl2 := (hI.2.2.1.le h1i h2i).2
  have hnr := hS.nr h1i h2i
  have hlf := hS.lf ni2
  refine g_lv (lv' := [(0, .ref mo), (1, .int (nI i)), (2, .int (nI w))]) [0, 1, 2] rfl ?_
  refine g_aload_n (pc' := 1) hE 0 rfl rfl dX9_type_0 rfl ?_
  refine g_iload_n (pc' := 2) hE 1 rfl rfl dX9_type_1 rfl ?_
  refine g_i2l (pc' := 3) hE (lN i) (nI_l (by omega)) dX9_type_2 rfl ?_
  refine g_lconst (pc' := 4) hE (lN 1) (by decide) dX9_type_3 rfl ?_
  refine g_aload_n (pc' := 5) hE 0 rfl rfl dX9_type_4 rfl ?_
  refine g_get (pc' := 8) hE gcX9 0 rfl 8 (by decide) rfl kX9_203 dX9_type_5 rfl ?_
  refine g_i2l (pc' := 9) hE (lN v_many) (nI_l (by omega)) dX9_type_8 rfl ?_
  refine g_callS (pc' := 12) (As := [.long (lN i), .long (lN 1), .long (lN v_many)]) (rest := [.ref mo]) hE (qX9_in l D T (lN i) (lN 1) (lN v_many)) mX9_in kX9_174 iX9_in (by decide) rfl (by decide) [] rfl (by decide) rfl (Nat.le_of_ble_eq_true rfl) dX9_type_9 rfl (gBackR [] rfl ?_)
  rintro _ rfl
  refine g_st (st' := [.int (bI (inB (lN i) (lN 1) (lN v_many))), .ref mo]) rfl ?_
  refine g_ifB_eq (pc' := 15) (tgt := 27) hE dX9_type_12 rfl rfl (fun hc12 => ?_) (fun hc12 => ?_)
  · (rw [inB_N (by omega) (by omega) (by omega)] at hc12; exact absurd (of_decide_eq_false hc12) (by omega))
  refine g_iload_n (pc' := 16) hE 2 rfl rfl dX9_type_15 rfl ?_
  refine g_i2l (pc' := 17) hE (lN w) (nI_l (by omega)) dX9_type_16 rfl ?_
  refine g_lconst (pc' := 18) hE (lN 0) (by decide) dX9_type_17 rfl ?_
  refine g_ldc2 (pc' := 21) hE (v := lN 7) kX9_172 dX9_type_18 rfl ?_
  refine g_callS (pc' := 24) (As := [.long (lN w), .long (lN 0), .long (lN 7)]) (rest := [.ref mo]) hE (qX9_in l D T (lN w) (lN 0) (lN 7)) mX9_in kX9_174 iX9_in (by decide) rfl (by decide) [] rfl (by decide) rfl (Nat.le_of_ble_eq_true rfl) dX9_type_21 rfl (gBackR [] rfl ?_)
  rintro _ rfl
  refine g_st (st' := [.int (bI (inB (lN w) (lN 0) (lN 7))), .ref mo]) rfl ?_
  refine g_ifB_ne (pc' := 27) (tgt := 31) hE dX9_type_24 rfl rfl (fun hc24 => ?_) (fun hc24 => ?_)
  rotate_left
  · (rw [inB_N (by omega) (by omega) (by omega)] at hc24; exact absurd (of_decide_eq_false hc24) (by omega))
  refine g_iconst (pc' := 32) hE (nI 0) (by decide) dX9_type_31 rfl ?_
  refine g_iconst (pc' := 33) hE (nI 1) (by decide) dX9_type_32 rfl ?_
  refine g_callV (pc' := 36) (As := [.int (nI 0), .int (nI 1)]) (rest := []) hE (qX9_fails l D T mo r_tape r_output r_draft r_letters r_name r_kind r_vary r_flag r_rest r_more r_one r_two r_begin r_partName r_partType r_partNumber r_nextName r_nextKind r_nextVary r_nextFlag r_nextRest r_nextMore r_nextOne r_nextTwo r_nextBegin r_nextPartName r_nextPartType r_nextPartNumber r_apart r_leader r_number r_way r_seen r_told r_toldAt v_thrown v_taped v_written v_error v_stands v_many v_nextMany v_nextParts v_classes v_stringsAt v_stringsEnd v_drafted v_tolds v_stringsSize false 1) mX9_fails kX9_233 iX9_fails sX9_fails (by decide) rfl (by decide) 0 rfl rfl [0] rfl (by decide) rfl (Nat.le_of_ble_eq_true rfl) dX9_type_33 rfl (gBackU [0] rfl (fun v w1 y => by obtain ⟨_, rfl⟩ := y; rfl) ?_)
  rintro _ _ ⟨rfl, rfl⟩
  refine g_w (ws' := [(mo, .inr (8, [.int (nI 0), .ref r_tape, .int (nI v_taped), .ref r_output, .ref r_draft, .int (nI v_written), .int (nI v_error), .int (nI v_stands), .int (nI v_many), .ref r_letters, .ref r_name, .ref r_kind, .ref r_vary, .ref r_flag, .ref r_rest, .ref r_more, .ref r_one, .ref r_two, .ref r_begin, .ref r_partName, .ref r_partType, .ref r_partNumber, .int (nI v_nextMany), .int (nI v_nextParts), .ref r_nextName, .ref r_nextKind, .ref r_nextVary, .ref r_nextFlag, .ref r_nextRest, .ref r_nextMore, .ref r_nextOne, .ref r_nextTwo, .ref r_nextBegin, .ref r_nextPartName, .ref r_nextPartType, .ref r_nextPartNumber, .ref r_apart, .ref r_leader, .ref r_number, .int (nI v_classes), .int (nI v_stringsAt), .int (nI v_stringsEnd), .ref r_way, .ref r_seen, .int (nI v_drafted), .ref r_told, .ref r_toldAt, .int (nI v_tolds), .int (nI v_stringsSize)])), (r_kind, .inl (T 0, 202, .inl (fun z9 => nI (f_kind z9)))), (r_vary, .inl (T 0, 202, .inl (fun z9 => nI (f_vary z9)))), (r_flag, .inl (T 0, 202, .inl (fun z9 => nI (f_flag z9)))), (r_rest, .inl (T 1, 202, .inr (.inl (fun z9 => lN (f_rest z9))))), (r_begin, .inl (T 0, 203, .inl (fun z9 => nI (f_begin z9)))), (r_name, .inl (T 0, 202, .inl (fun z9 => nI (f_name z9)))), (r_letters, .inl (T 0, 8192, .inl (fun z9 => nI (f_letters z9)))), (r_leader, .inl (T 0, 202, .inl (fun z9 => nI (f_leader z9)))), (r_number, .inl (T 0, 202, .inl (fun z9 => nI (f_number z9))))]) (rfl) ?_
  refine g_st (st' := [.int (bI false)]) rfl ?_
  refine g_ifB_eq (pc' := 39) (tgt := 41) hE dX9_type_36 rfl rfl (fun hc36 => ?_) (fun hc36 => ?_)
  rotate_left
  · exact absurd hc36 (by decide)
  refine g_iload_n (pc' := 42) hE 2 rfl rfl dX9_type_41 rfl ?_
  have hs42_84 : (w = 0) → G l E D 3 0 0 [(mo, .inr (8, [.int (nI 0), .ref r_tape, .int (nI v_taped), .ref r_output, .ref r_draft, .int (nI v_written), .int (nI v_error), .int (nI v_stands), .int (nI v_many), .ref r_letters, .ref r_name, .ref r_kind, .ref r_vary, .ref r_flag, .ref r_rest, .ref r_more, .ref r_one, .ref r_two, .ref r_begin, .ref r_partName, .ref r_partType, .ref r_partNumber, .int (nI v_nextMany), .int (nI v_nextParts), .ref r_nextName, .ref r_nextKind, .ref r_nextVary, .ref r_nextFlag, .ref r_nextRest, .ref r_nextMore, .ref r_nextOne, .ref r_nextTwo, .ref r_nextBegin, .ref r_nextPartName, .ref r_nextPartType, .ref r_nextPartNumber, .ref r_apart, .ref r_leader, .ref r_number, .int (nI v_classes), .int (nI v_stringsAt), .int (nI v_stringsEnd), .ref r_way, .ref r_seen, .int (nI v_drafted), .ref r_told, .ref r_toldAt, .int (nI v_tolds), .int (nI v_stringsSize)])), (r_kind, .inl (T 0, 202, .inl (fun z9 => nI (f_kind z9)))), (r_vary, .inl (T 0, 202, .inl (fun z9 => nI (f_vary z9)))), (r_flag, .inl (T 0, 202, .inl (fun z9 => nI (f_flag z9)))), (r_rest, .inl (T 1, 202, .inr (.inl (fun z9 => lN (f_rest z9))))), (r_begin, .inl (T 0, 203, .inl (fun z9 => nI (f_begin z9)))), (r_name, .inl (T 0, 202, .inl (fun z9 => nI (f_name z9)))), (r_letters, .inl (T 0, 8192, .inl (fun z9 => nI (f_letters z9)))), (r_leader, .inl (T 0, 202, .inl (fun z9 => nI (f_leader z9)))), (r_number, .inl (T 0, 202, .inl (fun z9 => nI (f_number z9))))] [(0, .ref mo), (1, .int (nI i)), (2, .int (nI w))] 84 [] := by
    intro hsw42
    refine g_aload_n (pc' := 85) hE 0 rfl rfl dX9_type_84 rfl ?_
    refine g_get (pc' := 88) hE gcX9 0 rfl 11 (by decide) rfl kX9_25 dX9_type_85 rfl ?_
    refine g_iload_n (pc' := 89) hE 1 rfl rfl dX9_type_88 rfl ?_
    refine g_iald (pc' := 90) hE 1 rfl (by omega) (by omega) dX9_type_89 rfl ?_
    refine g_i2l (pc' := 91) hE (lN (f_kind i)) (nI_l (by omega)) dX9_type_90 rfl ?_
    exact hE.lret (⟨by unfold tyA; repeat (first | rfl | rw [if_pos (by omega)] | rw [if_neg (by omega)] | rw [← ki1] | rw [← vi1] | rw [← fi1] | rw [← ri1] | rw [← ni1]), rfl⟩) (Nat.zero_le _) (Nat.zero_le _) dX9_type_91
  have hs42_92 : (w = 1) → G l E D 3 0 0 [(mo, .inr (8, [.int (nI 0), .ref r_tape, .int (nI v_taped), .ref r_output, .ref r_draft, .int (nI v_written), .int (nI v_error), .int (nI v_stands), .int (nI v_many), .ref r_letters, .ref r_name, .ref r_kind, .ref r_vary, .ref r_flag, .ref r_rest, .ref r_more, .ref r_one, .ref r_two, .ref r_begin, .ref r_partName, .ref r_partType, .ref r_partNumber, .int (nI v_nextMany), .int (nI v_nextParts), .ref r_nextName, .ref r_nextKind, .ref r_nextVary, .ref r_nextFlag, .ref r_nextRest, .ref r_nextMore, .ref r_nextOne, .ref r_nextTwo, .ref r_nextBegin, .ref r_nextPartName, .ref r_nextPartType, .ref r_nextPartNumber, .ref r_apart, .ref r_leader, .ref r_number, .int (nI v_classes), .int (nI v_stringsAt), .int (nI v_stringsEnd), .ref r_way, .ref r_seen, .int (nI v_drafted), .ref r_told, .ref r_toldAt, .int (nI v_tolds), .int (nI v_stringsSize)])), (r_kind, .inl (T 0, 202, .inl (fun z9 => nI (f_kind z9)))), (r_vary, .inl (T 0, 202, .inl (fun z9 => nI (f_vary z9)))), (r_flag, .inl (T 0, 202, .inl (fun z9 => nI (f_flag z9)))), (r_rest, .inl (T 1, 202, .inr (.inl (fun z9 => lN (f_rest z9))))), (r_begin, .inl (T 0, 203, .inl (fun z9 => nI (f_begin z9)))), (r_name, .inl (T 0, 202, .inl (fun z9 => nI (f_name z9)))), (r_letters, .inl (T 0, 8192, .inl (fun z9 => nI (f_letters z9)))), (r_leader, .inl (T 0, 202, .inl (fun z9 => nI (f_leader z9)))), (r_number, .inl (T 0, 202, .inl (fun z9 => nI (f_number z9))))] [(0, .ref mo), (1, .int (nI i)), (2, .int (nI w))] 92 [] := by
    intro hsw42
    refine g_aload_n (pc' := 93) hE 0 rfl rfl dX9_type_92 rfl ?_
    refine g_get (pc' := 96) hE gcX9 0 rfl 12 (by decide) rfl kX9_28 dX9_type_93 rfl ?_
    refine g_iload_n (pc' := 97) hE 1 rfl rfl dX9_type_96 rfl ?_
    refine g_iald (pc' := 98) hE 2 rfl (by omega) (by omega) dX9_type_97 rfl ?_
    refine g_i2l (pc' := 99) hE (lN (f_vary i)) (nI_l (by omega)) dX9_type_98 rfl ?_
    exact hE.lret (⟨by unfold tyA; repeat (first | rfl | rw [if_pos (by omega)] | rw [if_neg (by omega)] | rw [← ki1] | rw [← vi1] | rw [← fi1] | rw [← ri1] | rw [← ni1]), rfl⟩) (Nat.zero_le _) (Nat.zero_le _) dX9_type_99
  have hs42_100 : (w = 2) → G l E D 3 0 0 [(mo, .inr (8, [.int (nI 0), .ref r_tape, .int (nI v_taped), .ref r_output, .ref r_draft, .int (nI v_written), .int (nI v_error), .int (nI v_stands), .int (nI v_many), .ref r_letters, .ref r_name, .ref r_kind, .ref r_vary, .ref r_flag, .ref r_rest, .ref r_more, .ref r_one, .ref r_two, .ref r_begin, .ref r_partName, .ref r_partType, .ref r_partNumber, .int (nI v_nextMany), .int (nI v_nextParts), .ref r_nextName, .ref r_nextKind, .ref r_nextVary, .ref r_nextFlag, .ref r_nextRest, .ref r_nextMore, .ref r_nextOne, .ref r_nextTwo, .ref r_nextBegin, .ref r_nextPartName, .ref r_nextPartType, .ref r_nextPartNumber, .ref r_apart, .ref r_leader, .ref r_number, .int (nI v_classes), .int (nI v_stringsAt), .int (nI v_stringsEnd), .ref r_way, .ref r_seen, .int (nI v_drafted), .ref r_told, .ref r_toldAt, .int (nI v_tolds), .int (nI v_stringsSize)])), (r_kind, .inl (T 0, 202, .inl (fun z9 => nI (f_kind z9)))), (r_vary, .inl (T 0, 202, .inl (fun z9 => nI (f_vary z9)))), (r_flag, .inl (T 0, 202, .inl (fun z9 => nI (f_flag z9)))), (r_rest, .inl (T 1, 202, .inr (.inl (fun z9 => lN (f_rest z9))))), (r_begin, .inl (T 0, 203, .inl (fun z9 => nI (f_begin z9)))), (r_name, .inl (T 0, 202, .inl (fun z9 => nI (f_name z9)))), (r_letters, .inl (T 0, 8192, .inl (fun z9 => nI (f_letters z9)))), (r_leader, .inl (T 0, 202, .inl (fun z9 => nI (f_leader z9)))), (r_number, .inl (T 0, 202, .inl (fun z9 => nI (f_number z9))))] [(0, .ref mo), (1, .int (nI i)), (2, .int (nI w))] 100 [] := by
    intro hsw42
    refine g_aload_n (pc' := 101) hE 0 rfl rfl dX9_type_100 rfl ?_
    refine g_get (pc' := 104) hE gcX9 0 rfl 13 (by decide) rfl kX9_31 dX9_type_101 rfl ?_
    refine g_iload_n (pc' := 105) hE 1 rfl rfl dX9_type_104 rfl ?_
    refine g_iald (pc' := 106) hE 3 rfl (by omega) (by omega) dX9_type_105 rfl ?_
    refine g_i2l (pc' := 107) hE (lN (f_flag i)) (nI_l (by omega)) dX9_type_106 rfl ?_
    exact hE.lret (⟨by unfold tyA; repeat (first | rfl | rw [if_pos (by omega)] | rw [if_neg (by omega)] | rw [← ki1] | rw [← vi1] | rw [← fi1] | rw [← ri1] | rw [← ni1]), rfl⟩) (Nat.zero_le _) (Nat.zero_le _) dX9_type_107
  have hs42_108 : (w = 3) → G l E D 3 0 0 [(mo, .inr (8, [.int (nI 0), .ref r_tape, .int (nI v_taped), .ref r_output, .ref r_draft, .int (nI v_written), .int (nI v_error), .int (nI v_stands), .int (nI v_many), .ref r_letters, .ref r_name, .ref r_kind, .ref r_vary, .ref r_flag, .ref r_rest, .ref r_more, .ref r_one, .ref r_two, .ref r_begin, .ref r_partName, .ref r_partType, .ref r_partNumber, .int (nI v_nextMany), .int (nI v_nextParts), .ref r_nextName, .ref r_nextKind, .ref r_nextVary, .ref r_nextFlag, .ref r_nextRest, .ref r_nextMore, .ref r_nextOne, .ref r_nextTwo, .ref r_nextBegin, .ref r_nextPartName, .ref r_nextPartType, .ref r_nextPartNumber, .ref r_apart, .ref r_leader, .ref r_number, .int (nI v_classes), .int (nI v_stringsAt), .int (nI v_stringsEnd), .ref r_way, .ref r_seen, .int (nI v_drafted), .ref r_told, .ref r_toldAt, .int (nI v_tolds), .int (nI v_stringsSize)])), (r_kind, .inl (T 0, 202, .inl (fun z9 => nI (f_kind z9)))), (r_vary, .inl (T 0, 202, .inl (fun z9 => nI (f_vary z9)))), (r_flag, .inl (T 0, 202, .inl (fun z9 => nI (f_flag z9)))), (r_rest, .inl (T 1, 202, .inr (.inl (fun z9 => lN (f_rest z9))))), (r_begin, .inl (T 0, 203, .inl (fun z9 => nI (f_begin z9)))), (r_name, .inl (T 0, 202, .inl (fun z9 => nI (f_name z9)))), (r_letters, .inl (T 0, 8192, .inl (fun z9 => nI (f_letters z9)))), (r_leader, .inl (T 0, 202, .inl (fun z9 => nI (f_leader z9)))), (r_number, .inl (T 0, 202, .inl (fun z9 => nI (f_number z9))))] [(0, .ref mo), (1, .int (nI i)), (2, .int (nI w))] 108 [] := by
    intro hsw42
    refine g_aload_n (pc' := 109) hE 0 rfl rfl dX9_type_108 rfl ?_
    refine g_get (pc' := 112) hE gcX9 0 rfl 14 (by decide) rfl kX9_34 dX9_type_109 rfl ?_
    refine g_iload_n (pc' := 113) hE 1 rfl rfl dX9_type_112 rfl ?_
    refine g_lald (pc' := 114) hE 4 rfl (by omega) (by omega) dX9_type_113 rfl ?_
    exact hE.lret (⟨by unfold tyA; repeat (first | rfl | rw [if_pos (by omega)] | rw [if_neg (by omega)] | rw [← ki1] | rw [← vi1] | rw [← fi1] | rw [← ri1] | rw [← ni1]), rfl⟩) (Nat.zero_le _) (Nat.zero_le _) dX9_type_114
  have hs42_115 : (w = 4) → G l E D 3 0 0 [(mo, .inr (8, [.int (nI 0), .ref r_tape, .int (nI v_taped), .ref r_output, .ref r_draft, .int (nI v_written), .int (nI v_error), .int (nI v_stands), .int (nI v_many), .ref r_letters, .ref r_name, .ref r_kind, .ref r_vary, .ref r_flag, .ref r_rest, .ref r_more, .ref r_one, .ref r_two, .ref r_begin, .ref r_partName, .ref r_partType, .ref r_partNumber, .int (nI v_nextMany), .int (nI v_nextParts), .ref r_nextName, .ref r_nextKind, .ref r_nextVary, .ref r_nextFlag, .ref r_nextRest, .ref r_nextMore, .ref r_nextOne, .ref r_nextTwo, .ref r_nextBegin, .ref r_nextPartName, .ref r_nextPartType, .ref r_nextPartNumber, .ref r_apart, .ref r_leader, .ref r_number, .int (nI v_classes), .int (nI v_stringsAt), .int (nI v_stringsEnd), .ref r_way, .ref r_seen, .int (nI v_drafted), .ref r_told, .ref r_toldAt, .int (nI v_tolds), .int (nI v_stringsSize)])), (r_kind, .inl (T 0, 202, .inl (fun z9 => nI (f_kind z9)))), (r_vary, .inl (T 0, 202, .inl (fun z9 => nI (f_vary z9)))), (r_flag, .inl (T 0, 202, .inl (fun z9 => nI (f_flag z9)))), (r_rest, .inl (T 1, 202, .inr (.inl (fun z9 => lN (f_rest z9))))), (r_begin, .inl (T 0, 203, .inl (fun z9 => nI (f_begin z9)))), (r_name, .inl (T 0, 202, .inl (fun z9 => nI (f_name z9)))), (r_letters, .inl (T 0, 8192, .inl (fun z9 => nI (f_letters z9)))), (r_leader, .inl (T 0, 202, .inl (fun z9 => nI (f_leader z9)))), (r_number, .inl (T 0, 202, .inl (fun z9 => nI (f_number z9))))] [(0, .ref mo), (1, .int (nI i)), (2, .int (nI w))] 115 [] := by
    intro hsw42
    refine g_aload_n (pc' := 116) hE 0 rfl rfl dX9_type_115 rfl ?_
    refine g_iload_n (pc' := 117) hE 1 rfl rfl dX9_type_116 rfl ?_
    refine g_callV (pc' := 120) (As := [.int (nI i)]) (rest := []) hE (qX9_referencesT l D T mo r_tape r_output r_draft r_letters r_name r_kind r_vary r_flag r_rest r_more r_one r_two r_begin r_partName r_partType r_partNumber r_nextName r_nextKind r_nextVary r_nextFlag r_nextRest r_nextMore r_nextOne r_nextTwo r_nextBegin r_nextPartName r_nextPartType r_nextPartNumber r_apart r_leader r_number r_way r_seen r_told r_toldAt 0 v_taped v_written v_error v_stands v_many v_nextMany v_nextParts v_classes v_stringsAt v_stringsEnd v_drafted v_tolds v_stringsSize t sg v_S f_letters f_name f_kind f_vary f_flag f_rest f_more f_one f_two f_begin f_partName f_partType f_partNumber i hS (by omega) (by omega)) mX9_references kX9_226 iX9_references sX9_references (by decide) rfl (by decide) 0 rfl rfl [0, 1, 5] rfl (by decide) rfl (Nat.le_of_ble_eq_true rfl) dX9_type_117 rfl (gBackR [0, 1, 5] rfl ?_)
    rintro _ rfl
    refine g_st (st' := [.int (nI (nrT t i))]) rfl ?_
    refine g_i2l (pc' := 121) hE (lN (nrT t i)) (nI_l (by omega)) dX9_type_120 rfl ?_
    exact hE.lret (⟨by unfold tyA; repeat (first | rfl | rw [if_pos (by omega)] | rw [if_neg (by omega)] | rw [← ki1] | rw [← vi1] | rw [← fi1] | rw [← ri1] | rw [← ni1]), rfl⟩) (Nat.zero_le _) (Nat.zero_le _) dX9_type_121
  have hs42_122 : (w = 5) → G l E D 3 0 0 [(mo, .inr (8, [.int (nI 0), .ref r_tape, .int (nI v_taped), .ref r_output, .ref r_draft, .int (nI v_written), .int (nI v_error), .int (nI v_stands), .int (nI v_many), .ref r_letters, .ref r_name, .ref r_kind, .ref r_vary, .ref r_flag, .ref r_rest, .ref r_more, .ref r_one, .ref r_two, .ref r_begin, .ref r_partName, .ref r_partType, .ref r_partNumber, .int (nI v_nextMany), .int (nI v_nextParts), .ref r_nextName, .ref r_nextKind, .ref r_nextVary, .ref r_nextFlag, .ref r_nextRest, .ref r_nextMore, .ref r_nextOne, .ref r_nextTwo, .ref r_nextBegin, .ref r_nextPartName, .ref r_nextPartType, .ref r_nextPartNumber, .ref r_apart, .ref r_leader, .ref r_number, .int (nI v_classes), .int (nI v_stringsAt), .int (nI v_stringsEnd), .ref r_way, .ref r_seen, .int (nI v_drafted), .ref r_told, .ref r_toldAt, .int (nI v_tolds), .int (nI v_stringsSize)])), (r_kind, .inl (T 0, 202, .inl (fun z9 => nI (f_kind z9)))), (r_vary, .inl (T 0, 202, .inl (fun z9 => nI (f_vary z9)))), (r_flag, .inl (T 0, 202, .inl (fun z9 => nI (f_flag z9)))), (r_rest, .inl (T 1, 202, .inr (.inl (fun z9 => lN (f_rest z9))))), (r_begin, .inl (T 0, 203, .inl (fun z9 => nI (f_begin z9)))), (r_name, .inl (T 0, 202, .inl (fun z9 => nI (f_name z9)))), (r_letters, .inl (T 0, 8192, .inl (fun z9 => nI (f_letters z9)))), (r_leader, .inl (T 0, 202, .inl (fun z9 => nI (f_leader z9)))), (r_number, .inl (T 0, 202, .inl (fun z9 => nI (f_number z9))))] [(0, .ref mo), (1, .int (nI i)), (2, .int (nI w))] 122 [] := by
    intro hsw42
    refine g_aload_n (pc' := 123) hE 0 rfl rfl dX9_type_122 rfl ?_
    refine g_aload_n (pc' := 124) hE 0 rfl rfl dX9_type_123 rfl ?_
    refine g_get (pc' := 127) hE gcX9 0 rfl 10 (by decide) rfl kX9_22 dX9_type_124 rfl ?_
    refine g_iload_n (pc' := 128) hE 1 rfl rfl dX9_type_127 rfl ?_
    refine g_iald (pc' := 129) hE 6 rfl (by omega) (by omega) dX9_type_128 rfl ?_
    refine g_callV (pc' := 132) (As := [.int (nI (f_name i))]) (rest := []) hE (qX9_sizeT l D T mo r_tape r_output r_draft r_letters r_name r_kind r_vary r_flag r_rest r_more r_one r_two r_begin r_partName r_partType r_partNumber r_nextName r_nextKind r_nextVary r_nextFlag r_nextRest r_nextMore r_nextOne r_nextTwo r_nextBegin r_nextPartName r_nextPartType r_nextPartNumber r_apart r_leader r_number r_way r_seen r_told r_toldAt 0 v_taped v_written v_error v_stands v_many v_nextMany v_nextParts v_classes v_stringsAt v_stringsEnd v_drafted v_tolds v_stringsSize t sg v_S f_letters f_name f_kind f_vary f_flag f_rest f_more f_one f_two f_begin f_partName f_partType f_partNumber (f_name i) hS (by omega)) mX9_size kX9_239 iX9_size sX9_size (by decide) rfl (by decide) 0 rfl rfl [0, 7] rfl (by decide) rfl (Nat.le_of_ble_eq_true rfl) dX9_type_129 rfl (gBackR [0, 7] rfl ?_)
    rintro _ rfl
    refine g_st (st' := [.int (nI (lfr t (sg + (f_name i))))]) rfl ?_
    refine g_i2l (pc' := 133) hE (lN (lfr t (sg + (f_name i)))) (nI_l (by omega)) dX9_type_132 rfl ?_
    exact hE.lret (⟨by unfold tyA; repeat (first | rfl | rw [if_pos (by omega)] | rw [if_neg (by omega)] | rw [← ki1] | rw [← vi1] | rw [← fi1] | rw [← ri1] | rw [← ni1]), rfl⟩) (Nat.zero_le _) (Nat.zero_le _) dX9_type_133
  have hs42_134 : (w = 6) → G l E D 3 0 0 [(mo, .inr (8, [.int (nI 0), .ref r_tape, .int (nI v_taped), .ref r_output, .ref r_draft, .int (nI v_written), .int (nI v_error), .int (nI v_stands), .int (nI v_many), .ref r_letters, .ref r_name, .ref r_kind, .ref r_vary, .ref r_flag, .ref r_rest, .ref r_more, .ref r_one, .ref r_two, .ref r_begin, .ref r_partName, .ref r_partType, .ref r_partNumber, .int (nI v_nextMany), .int (nI v_nextParts), .ref r_nextName, .ref r_nextKind, .ref r_nextVary, .ref r_nextFlag, .ref r_nextRest, .ref r_nextMore, .ref r_nextOne, .ref r_nextTwo, .ref r_nextBegin, .ref r_nextPartName, .ref r_nextPartType, .ref r_nextPartNumber, .ref r_apart, .ref r_leader, .ref r_number, .int (nI v_classes), .int (nI v_stringsAt), .int (nI v_stringsEnd), .ref r_way, .ref r_seen, .int (nI v_drafted), .ref r_told, .ref r_toldAt, .int (nI v_tolds), .int (nI v_stringsSize)])), (r_kind, .inl (T 0, 202, .inl (fun z9 => nI (f_kind z9)))), (r_vary, .inl (T 0, 202, .inl (fun z9 => nI (f_vary z9)))), (r_flag, .inl (T 0, 202, .inl (fun z9 => nI (f_flag z9)))), (r_rest, .inl (T 1, 202, .inr (.inl (fun z9 => lN (f_rest z9))))), (r_begin, .inl (T 0, 203, .inl (fun z9 => nI (f_begin z9)))), (r_name, .inl (T 0, 202, .inl (fun z9 => nI (f_name z9)))), (r_letters, .inl (T 0, 8192, .inl (fun z9 => nI (f_letters z9)))), (r_leader, .inl (T 0, 202, .inl (fun z9 => nI (f_leader z9)))), (r_number, .inl (T 0, 202, .inl (fun z9 => nI (f_number z9))))] [(0, .ref mo), (1, .int (nI i)), (2, .int (nI w))] 134 [] := by
    intro hsw42
    refine g_aload_n (pc' := 135) hE 0 rfl rfl dX9_type_134 rfl ?_
    refine g_get (pc' := 138) hE gcX9 0 rfl 37 (by decide) rfl kX9_99 dX9_type_135 rfl ?_
    refine g_iload_n (pc' := 139) hE 1 rfl rfl dX9_type_138 rfl ?_
    refine g_iald (pc' := 140) hE 8 rfl (by omega) (by omega) dX9_type_139 rfl ?_
    refine g_i2l (pc' := 141) hE (lN (f_leader i)) (nI_l (by omega)) dX9_type_140 rfl ?_
    exact hE.lret (⟨by unfold tyA; repeat (first | rfl | rw [if_pos (by omega)] | rw [if_neg (by omega)] | rw [← ki1] | rw [← vi1] | rw [← fi1] | rw [← ri1] | rw [← ni1]), rfl⟩) (Nat.zero_le _) (Nat.zero_le _) dX9_type_141
  have hs42_142 : (w ≠ 0 ∧ w ≠ 1 ∧ w ≠ 2 ∧ w ≠ 3 ∧ w ≠ 4 ∧ w ≠ 5 ∧ w ≠ 6) → G l E D 3 0 0 [(mo, .inr (8, [.int (nI 0), .ref r_tape, .int (nI v_taped), .ref r_output, .ref r_draft, .int (nI v_written), .int (nI v_error), .int (nI v_stands), .int (nI v_many), .ref r_letters, .ref r_name, .ref r_kind, .ref r_vary, .ref r_flag, .ref r_rest, .ref r_more, .ref r_one, .ref r_two, .ref r_begin, .ref r_partName, .ref r_partType, .ref r_partNumber, .int (nI v_nextMany), .int (nI v_nextParts), .ref r_nextName, .ref r_nextKind, .ref r_nextVary, .ref r_nextFlag, .ref r_nextRest, .ref r_nextMore, .ref r_nextOne, .ref r_nextTwo, .ref r_nextBegin, .ref r_nextPartName, .ref r_nextPartType, .ref r_nextPartNumber, .ref r_apart, .ref r_leader, .ref r_number, .int (nI v_classes), .int (nI v_stringsAt), .int (nI v_stringsEnd), .ref r_way, .ref r_seen, .int (nI v_drafted), .ref r_told, .ref r_toldAt, .int (nI v_tolds), .int (nI v_stringsSize)])), (r_kind, .inl (T 0, 202, .inl (fun z9 => nI (f_kind z9)))), (r_vary, .inl (T 0, 202, .inl (fun z9 => nI (f_vary z9)))), (r_flag, .inl (T 0, 202, .inl (fun z9 => nI (f_flag z9)))), (r_rest, .inl (T 1, 202, .inr (.inl (fun z9 => lN (f_rest z9))))), (r_begin, .inl (T 0, 203, .inl (fun z9 => nI (f_begin z9)))), (r_name, .inl (T 0, 202, .inl (fun z9 => nI (f_name z9)))), (r_letters, .inl (T 0, 8192, .inl (fun z9 => nI (f_letters z9)))), (r_leader, .inl (T 0, 202, .inl (fun z9 => nI (f_leader z9)))), (r_number, .inl (T 0, 202, .inl (fun z9 => nI (f_number z9))))] [(0, .ref mo), (1, .int (nI i)), (2, .int (nI w))] 142 [] := by
    intro hsw42
    refine g_aload_n (pc' := 143) hE 0 rfl rfl dX9_type_142 rfl ?_
    refine g_get (pc' := 146) hE gcX9 0 rfl 38 (by decide) rfl kX9_102 dX9_type_143 rfl ?_
    refine g_iload_n (pc' := 147) hE 1 rfl rfl dX9_type_146 rfl ?_
    refine g_iald (pc' := 148) hE 9 rfl (by omega) (by omega) dX9_type_147 rfl ?_
    refine g_i2l (pc' := 149) hE (lN (f_number i)) (nI_l (by omega)) dX9_type_148 rfl ?_
    exact hE.lret (⟨by unfold tyA; repeat (first | rfl | rw [if_pos (by omega)] | rw [if_neg (by omega)] | rw [← ki1] | rw [← vi1] | rw [← fi1] | rw [← ri1] | rw [← ni1]), rfl⟩) (Nat.zero_le _) (Nat.zero_le _) dX9_type_149
  rcases (show w = 0 ∨ w = 1 ∨ w = 2 ∨ w = 3 ∨ w = 4 ∨ w = 5 ∨ w = 6 ∨ ((w : Nat) < 0 ∨ 6 < w) by omega) with hz | hz | hz | hz | hz | hz | hz | hz
  · exact g_tabIn (tgt := 84) hE 0 hz (by decide) (by decide) (by decide) dX9_type_42 rfl rfl (hs42_84 (by omega))
  · exact g_tabIn (tgt := 92) hE 1 hz (by decide) (by decide) (by decide) dX9_type_42 rfl rfl (hs42_92 (by omega))
  · exact g_tabIn (tgt := 100) hE 2 hz (by decide) (by decide) (by decide) dX9_type_42 rfl rfl (hs42_100 (by omega))
  · exact g_tabIn (tgt := 108) hE 3 hz (by decide) (by decide) (by decide) dX9_type_42 rfl rfl (hs42_108 (by omega))
  · exact g_tabIn (tgt := 115) hE 4 hz (by decide) (by decide) (by decide) dX9_type_42 rfl rfl (hs42_115 (by omega))
  · exact g_tabIn (tgt := 122) hE 5 hz (by decide) (by decide) (by decide) dX9_type_42 rfl rfl (hs42_122 (by omega))
  · exact g_tabIn (tgt := 134) hE 6 hz (by decide) (by decide) (by decide) dX9_type_42 rfl rfl (hs42_134 (by omega))
  · exact g_tabOut (tgt := 142) hE (by omega) (by omega) dX9_type_42 rfl (hs42_142 (by omega))

set_option maxHeartbeats 4000000 in
set_option maxRecDepth 100000 in
theorem qX9_typeX (l : Launch) (D : va_G) (T : Nat → ClassId) (mo r_tape r_output r_draft r_letters r_name r_kind r_vary r_flag r_rest r_more r_one r_two r_begin r_partName r_partType r_partNumber r_nextName r_nextKind r_nextVary r_nextFlag r_nextRest r_nextMore r_nextOne r_nextTwo r_nextBegin r_nextPartName r_nextPartType r_nextPartNumber r_apart r_leader r_number r_way r_seen r_told r_toldAt v_thrown v_taped v_written v_error v_stands v_many v_nextMany v_nextParts v_classes v_stringsAt v_stringsEnd v_drafted v_tolds v_stringsSize : Nat) (x y : Int32) (hm : v_many ≤ 200) (hv : ¬ (inB x.toInt64 (lN 1) (lN v_many) = true ∧ inB y.toInt64 (lN 0) (lN 7) = true)) : Con l D T yX9_type cX9_type 3 (some .long) 2 0 0 [.ref mo, .int x, .int y] [(mo, .inr (8, [.int (nI v_thrown), .ref r_tape, .int (nI v_taped), .ref r_output, .ref r_draft, .int (nI v_written), .int (nI v_error), .int (nI v_stands), .int (nI v_many), .ref r_letters, .ref r_name, .ref r_kind, .ref r_vary, .ref r_flag, .ref r_rest, .ref r_more, .ref r_one, .ref r_two, .ref r_begin, .ref r_partName, .ref r_partType, .ref r_partNumber, .int (nI v_nextMany), .int (nI v_nextParts), .ref r_nextName, .ref r_nextKind, .ref r_nextVary, .ref r_nextFlag, .ref r_nextRest, .ref r_nextMore, .ref r_nextOne, .ref r_nextTwo, .ref r_nextBegin, .ref r_nextPartName, .ref r_nextPartType, .ref r_nextPartNumber, .ref r_apart, .ref r_leader, .ref r_number, .int (nI v_classes), .int (nI v_stringsAt), .int (nI v_stringsEnd), .ref r_way, .ref r_seen, .int (nI v_drafted), .ref r_told, .ref r_toldAt, .int (nI v_tolds), .int (nI v_stringsSize)]))] (fun v w1 => v = some (.long (lN 0)) ∧ w1 = [(mo, .inr (8, [.int (nI 1), .ref r_tape, .int (nI v_taped), .ref r_output, .ref r_draft, .int (nI v_written), .int (nI v_error), .int (nI v_stands), .int (nI v_many), .ref r_letters, .ref r_name, .ref r_kind, .ref r_vary, .ref r_flag, .ref r_rest, .ref r_more, .ref r_one, .ref r_two, .ref r_begin, .ref r_partName, .ref r_partType, .ref r_partNumber, .int (nI v_nextMany), .int (nI v_nextParts), .ref r_nextName, .ref r_nextKind, .ref r_nextVary, .ref r_nextFlag, .ref r_nextRest, .ref r_nextMore, .ref r_nextOne, .ref r_nextTwo, .ref r_nextBegin, .ref r_nextPartName, .ref r_nextPartType, .ref r_nextPartNumber, .ref r_apart, .ref r_leader, .ref r_number, .int (nI v_classes), .int (nI v_stringsAt), .int (nI v_stringsEnd), .ref r_way, .ref r_seen, .int (nI v_drafted), .ref r_told, .ref r_toldAt, .int (nI v_tolds), .int (nI v_stringsSize)]))]) := by
  refine Con.of (by decide) (Nat.le_of_ble_eq_true rfl) ?_
  intro E hE
  refine g_lv (lv' := [(0, .ref mo), (1, .int x), (2, .int y)]) [0, 1, 2] rfl ?_
  refine g_aload_n (pc' := 1) hE 0 rfl rfl dX9_type_0 rfl ?_
  refine g_iload_n (pc' := 2) hE 1 rfl rfl dX9_type_1 rfl ?_
  refine g_i2l (pc' := 3) hE (x.toInt64) rfl dX9_type_2 rfl ?_
  refine g_lconst (pc' := 4) hE (lN 1) (by decide) dX9_type_3 rfl ?_
  refine g_aload_n (pc' := 5) hE 0 rfl rfl dX9_type_4 rfl ?_
  refine g_get (pc' := 8) hE gcX9 0 rfl 8 (by decide) rfl kX9_203 dX9_type_5 rfl ?_
  refine g_i2l (pc' := 9) hE (lN v_many) (nI_l (by omega)) dX9_type_8 rfl ?_
  refine g_callS (pc' := 12) (As := [.long x.toInt64, .long (lN 1), .long (lN v_many)]) (rest := [.ref mo]) hE (qX9_in l D T x.toInt64 (lN 1) (lN v_many)) mX9_in kX9_174 iX9_in (by decide) rfl (by decide) [] rfl (by decide) rfl (Nat.le_of_ble_eq_true rfl) dX9_type_9 rfl (gBackR [] rfl ?_)
  rintro _ rfl
  refine g_st (st' := [.int (bI (inB x.toInt64 (lN 1) (lN v_many))), .ref mo]) rfl ?_
  refine g_ifB_eq (pc' := 15) (tgt := 27) hE dX9_type_12 rfl rfl (fun hc12 => ?_) (fun hc12 => ?_)
  · refine g_iconst (pc' := 28) hE (nI 1) (by decide) dX9_type_27 rfl ?_
    refine g_goto (tgt := 32) hE dX9_type_28 rfl ?_
    refine g_iconst (pc' := 33) hE (nI 1) (by decide) dX9_type_32 rfl ?_
    refine g_callV (pc' := 36) (As := [.int (nI 1), .int (nI 1)]) (rest := []) hE (qX9_fails l D T mo r_tape r_output r_draft r_letters r_name r_kind r_vary r_flag r_rest r_more r_one r_two r_begin r_partName r_partType r_partNumber r_nextName r_nextKind r_nextVary r_nextFlag r_nextRest r_nextMore r_nextOne r_nextTwo r_nextBegin r_nextPartName r_nextPartType r_nextPartNumber r_apart r_leader r_number r_way r_seen r_told r_toldAt v_thrown v_taped v_written v_error v_stands v_many v_nextMany v_nextParts v_classes v_stringsAt v_stringsEnd v_drafted v_tolds v_stringsSize true 1) mX9_fails kX9_233 iX9_fails sX9_fails (by decide) rfl (by decide) 0 rfl rfl [0] rfl (by decide) rfl (Nat.le_of_ble_eq_true rfl) dX9_type_33 rfl (gBackU [0] rfl (fun v w1 y => by obtain ⟨_, rfl⟩ := y; rfl) ?_)
    rintro _ _ ⟨rfl, rfl⟩
    refine g_w (ws' := [(mo, .inr (8, [.int (nI 1), .ref r_tape, .int (nI v_taped), .ref r_output, .ref r_draft, .int (nI v_written), .int (nI v_error), .int (nI v_stands), .int (nI v_many), .ref r_letters, .ref r_name, .ref r_kind, .ref r_vary, .ref r_flag, .ref r_rest, .ref r_more, .ref r_one, .ref r_two, .ref r_begin, .ref r_partName, .ref r_partType, .ref r_partNumber, .int (nI v_nextMany), .int (nI v_nextParts), .ref r_nextName, .ref r_nextKind, .ref r_nextVary, .ref r_nextFlag, .ref r_nextRest, .ref r_nextMore, .ref r_nextOne, .ref r_nextTwo, .ref r_nextBegin, .ref r_nextPartName, .ref r_nextPartType, .ref r_nextPartNumber, .ref r_apart, .ref r_leader, .ref r_number, .int (nI v_classes), .int (nI v_stringsAt), .int (nI v_stringsEnd), .ref r_way, .ref r_seen, .int (nI v_drafted), .ref r_told, .ref r_toldAt, .int (nI v_tolds), .int (nI v_stringsSize)]))]) (rfl) ?_
    refine g_st (st' := [.int (bI true)]) rfl ?_
    refine g_ifB_eq (pc' := 39) (tgt := 41) hE dX9_type_36 rfl rfl (fun hc36 => ?_) (fun hc36 => ?_)
    · exact absurd hc36 (by decide)
    refine g_lconst (pc' := 40) hE (lN 0) (by decide) dX9_type_39 rfl ?_
    exact hE.lret (⟨rfl, rfl⟩) (Nat.zero_le _) (Nat.zero_le _) dX9_type_40
  · refine g_iload_n (pc' := 16) hE 2 rfl rfl dX9_type_15 rfl ?_
    refine g_i2l (pc' := 17) hE (y.toInt64) rfl dX9_type_16 rfl ?_
    refine g_lconst (pc' := 18) hE (lN 0) (by decide) dX9_type_17 rfl ?_
    refine g_ldc2 (pc' := 21) hE (v := lN 7) kX9_172 dX9_type_18 rfl ?_
    refine g_callS (pc' := 24) (As := [.long y.toInt64, .long (lN 0), .long (lN 7)]) (rest := [.ref mo]) hE (qX9_in l D T y.toInt64 (lN 0) (lN 7)) mX9_in kX9_174 iX9_in (by decide) rfl (by decide) [] rfl (by decide) rfl (Nat.le_of_ble_eq_true rfl) dX9_type_21 rfl (gBackR [] rfl ?_)
    rintro _ rfl
    refine g_st (st' := [.int (bI (inB y.toInt64 (lN 0) (lN 7))), .ref mo]) rfl ?_
    refine g_ifB_ne (pc' := 27) (tgt := 31) hE dX9_type_24 rfl rfl (fun hc24 => ?_) (fun hc24 => ?_)
    · exact absurd ⟨hc12, hc24⟩ hv
    refine g_iconst (pc' := 28) hE (nI 1) (by decide) dX9_type_27 rfl ?_
    refine g_goto (tgt := 32) hE dX9_type_28 rfl ?_
    refine g_iconst (pc' := 33) hE (nI 1) (by decide) dX9_type_32 rfl ?_
    refine g_callV (pc' := 36) (As := [.int (nI 1), .int (nI 1)]) (rest := []) hE (qX9_fails l D T mo r_tape r_output r_draft r_letters r_name r_kind r_vary r_flag r_rest r_more r_one r_two r_begin r_partName r_partType r_partNumber r_nextName r_nextKind r_nextVary r_nextFlag r_nextRest r_nextMore r_nextOne r_nextTwo r_nextBegin r_nextPartName r_nextPartType r_nextPartNumber r_apart r_leader r_number r_way r_seen r_told r_toldAt v_thrown v_taped v_written v_error v_stands v_many v_nextMany v_nextParts v_classes v_stringsAt v_stringsEnd v_drafted v_tolds v_stringsSize true 1) mX9_fails kX9_233 iX9_fails sX9_fails (by decide) rfl (by decide) 0 rfl rfl [0] rfl (by decide) rfl (Nat.le_of_ble_eq_true rfl) dX9_type_33 rfl (gBackU [0] rfl (fun v w1 y => by obtain ⟨_, rfl⟩ := y; rfl) ?_)
    rintro _ _ ⟨rfl, rfl⟩
    refine g_w (ws' := [(mo, .inr (8, [.int (nI 1), .ref r_tape, .int (nI v_taped), .ref r_output, .ref r_draft, .int (nI v_written), .int (nI v_error), .int (nI v_stands), .int (nI v_many), .ref r_letters, .ref r_name, .ref r_kind, .ref r_vary, .ref r_flag, .ref r_rest, .ref r_more, .ref r_one, .ref r_two, .ref r_begin, .ref r_partName, .ref r_partType, .ref r_partNumber, .int (nI v_nextMany), .int (nI v_nextParts), .ref r_nextName, .ref r_nextKind, .ref r_nextVary, .ref r_nextFlag, .ref r_nextRest, .ref r_nextMore, .ref r_nextOne, .ref r_nextTwo, .ref r_nextBegin, .ref r_nextPartName, .ref r_nextPartType, .ref r_nextPartNumber, .ref r_apart, .ref r_leader, .ref r_number, .int (nI v_classes), .int (nI v_stringsAt), .int (nI v_stringsEnd), .ref r_way, .ref r_seen, .int (nI v_drafted), .ref r_told, .ref r_toldAt, .int (nI v_tolds), .int (nI v_stringsSize)]))]) (rfl) ?_
    refine g_st (st' := [.int (bI true)]) rfl ?_
    refine g_ifB_eq (pc' := 39) (tgt := 41) hE dX9_type_36 rfl rfl (fun hc36 => ?_) (fun hc36 => ?_)
    · exact absurd hc36 (by decide)
    refine g_lconst (pc' := 40) hE (lN 0) (by decide) dX9_type_39 rfl ?_
    exact hE.lret (⟨rfl, rfl⟩) (Nat.zero_le _) (Nat.zero_le _) dX9_type_40

set_option maxHeartbeats 4000000 in
set_option maxRecDepth 100000 in
theorem qX9_reference (l : Launch) (D : va_G) (T : Nat → ClassId) (mo r_tape r_output r_draft r_letters r_name r_kind r_vary r_flag r_rest r_more r_one r_two r_begin r_partName r_partType r_partNumber r_nextName r_nextKind r_nextVary r_nextFlag r_nextRest r_nextMore r_nextOne r_nextTwo r_nextBegin r_nextPartName r_nextPartType r_nextPartNumber r_apart r_leader r_number r_way r_seen r_told r_toldAt v_thrown v_taped v_written v_error v_stands v_many v_nextMany v_nextParts v_classes v_stringsAt v_stringsEnd v_drafted v_tolds v_stringsSize : Nat) (t : Nat → Nat) (sg v_S : Nat) (f_letters : Nat → Nat) (f_name : Nat → Nat) (f_kind : Nat → Nat) (f_vary : Nat → Nat) (f_flag : Nat → Nat) (f_rest : Nat → Nat) (f_more : Nat → Nat) (f_one : Nat → Nat) (f_two : Nat → Nat) (f_begin : Nat → Nat) (f_partName : Nat → Nat) (f_partType : Nat → Nat) (f_partNumber : Nat → Nat) (i j : Nat) (hS : MS t sg v_S v_many f_letters f_name f_kind f_vary f_flag f_rest f_more f_one f_two f_begin f_partName f_partType f_partNumber) (h1i : 1 ≤ i) (h2i : i ≤ v_many) (hj : j < nrT t i) : Con l D T yX9_reference cX9_reference 4 (some .int) 2 0 0 [.ref mo, .int (nI i), .int (nI j)] [(mo, .inr (8, [.int (nI v_thrown), .ref r_tape, .int (nI v_taped), .ref r_output, .ref r_draft, .int (nI v_written), .int (nI v_error), .int (nI v_stands), .int (nI v_many), .ref r_letters, .ref r_name, .ref r_kind, .ref r_vary, .ref r_flag, .ref r_rest, .ref r_more, .ref r_one, .ref r_two, .ref r_begin, .ref r_partName, .ref r_partType, .ref r_partNumber, .int (nI v_nextMany), .int (nI v_nextParts), .ref r_nextName, .ref r_nextKind, .ref r_nextVary, .ref r_nextFlag, .ref r_nextRest, .ref r_nextMore, .ref r_nextOne, .ref r_nextTwo, .ref r_nextBegin, .ref r_nextPartName, .ref r_nextPartType, .ref r_nextPartNumber, .ref r_apart, .ref r_leader, .ref r_number, .int (nI v_classes), .int (nI v_stringsAt), .int (nI v_stringsEnd), .ref r_way, .ref r_seen, .int (nI v_drafted), .ref r_told, .ref r_toldAt, .int (nI v_tolds), .int (nI v_stringsSize)])), (r_kind, .inl (T 0, 202, .inl (fun z9 => nI (f_kind z9)))), (r_one, .inl (T 1, 202, .inr (.inl (fun z9 => lN (f_one z9))))), (r_two, .inl (T 1, 202, .inr (.inl (fun z9 => lN (f_two z9))))), (r_begin, .inl (T 0, 203, .inl (fun z9 => nI (f_begin z9)))), (r_rest, .inl (T 1, 202, .inr (.inl (fun z9 => lN (f_rest z9))))), (r_partType, .inl (T 1, 601, .inr (.inl (fun z9 => lN (f_partType z9)))))] (fun v w1 => v = some (.int (nI (rfT t i j))) ∧ w1 = [(mo, .inr (8, [.int (nI 0), .ref r_tape, .int (nI v_taped), .ref r_output, .ref r_draft, .int (nI v_written), .int (nI v_error), .int (nI v_stands), .int (nI v_many), .ref r_letters, .ref r_name, .ref r_kind, .ref r_vary, .ref r_flag, .ref r_rest, .ref r_more, .ref r_one, .ref r_two, .ref r_begin, .ref r_partName, .ref r_partType, .ref r_partNumber, .int (nI v_nextMany), .int (nI v_nextParts), .ref r_nextName, .ref r_nextKind, .ref r_nextVary, .ref r_nextFlag, .ref r_nextRest, .ref r_nextMore, .ref r_nextOne, .ref r_nextTwo, .ref r_nextBegin, .ref r_nextPartName, .ref r_nextPartType, .ref r_nextPartNumber, .ref r_apart, .ref r_leader, .ref r_number, .int (nI v_classes), .int (nI v_stringsAt), .int (nI v_stringsEnd), .ref r_way, .ref r_seen, .int (nI v_drafted), .ref r_told, .ref r_toldAt, .int (nI v_tolds), .int (nI v_stringsSize)])), (r_kind, .inl (T 0, 202, .inl (fun z9 => nI (f_kind z9)))), (r_one, .inl (T 1, 202, .inr (.inl (fun z9 => lN (f_one z9))))), (r_two, .inl (T 1, 202, .inr (.inl (fun z9 => lN (f_two z9))))), (r_begin, .inl (T 0, 203, .inl (fun z9 => nI (f_begin z9)))), (r_rest, .inl (T 1, 202, .inr (.inl (fun z9 => lN (f_rest z9))))), (r_partType, .inl (T 1, 601, .inr (.inl (fun z9 => lN (f_partType z9)))))]) := by
  refine Con.of (by decide) (Nat.le_of_ble_eq_true rfl) ?_
  intro E hE
  have hN := hS.1.1.1
  have hS8 := hS.1.2.2.2.1
  have hnr := hS.nr h1i h2i
  refine g_lv (lv' := [(0, .ref mo), (1, .int (nI i)), (2, .int (nI j))]) [0, 1, 2] rfl ?_
  refine g_iload_n (pc' := 1) hE 1 rfl rfl dX9_reference_0 rfl ?_
  refine g_i2l (pc' := 2) hE (lN i) (nI_l (by omega)) dX9_reference_1 rfl ?_
  refine g_lconst (pc' := 3) hE (lN 1) (by decide) dX9_reference_2 rfl ?_
  refine g_aload_n (pc' := 4) hE 0 rfl rfl dX9_reference_3 rfl ?_
  refine g_get (pc' := 7) hE gcX9 0 rfl 8 (by decide) rfl kX9_203 dX9_reference_4 rfl ?_
  refine g_i2l (pc' := 8) hE (lN v_many) (nI_l (by omega)) dX9_reference_7 rfl ?_
  refine g_callS (pc' := 11) (As := [.long (lN i), .long (lN 1), .long (lN v_many)]) (rest := []) hE (qX9_in l D T (lN i) (lN 1) (lN v_many)) mX9_in kX9_174 iX9_in (by decide) rfl (by decide) [] rfl (by decide) rfl (Nat.le_of_ble_eq_true rfl) dX9_reference_8 rfl (gBackR [] rfl ?_)
  rintro _ rfl
  refine g_st (st' := [.int (bI (inB (lN i) (lN 1) (lN v_many)))]) rfl ?_
  refine g_ifB_eq (pc' := 14) (tgt := 49) hE dX9_reference_11 rfl rfl (fun hc11 => ?_) (fun hc11 => ?_)
  · (rw [inB_N (by omega) (by omega) (by omega)] at hc11; exact absurd (of_decide_eq_false hc11) (by omega))
  refine g_iload_n (pc' := 15) hE 2 rfl rfl dX9_reference_14 rfl ?_
  refine g_ifN_lt (pc' := 18) (tgt := 49) hE (by omega) dX9_reference_15 rfl rfl (fun hc15 => ?_) (fun hc15 => ?_)
  · exact hc15.elim
  refine g_iload_n (pc' := 19) hE 2 rfl rfl dX9_reference_18 rfl ?_
  refine g_aload_n (pc' := 20) hE 0 rfl rfl dX9_reference_19 rfl ?_
  refine g_iload_n (pc' := 21) hE 1 rfl rfl dX9_reference_20 rfl ?_
  refine g_i2l (pc' := 22) hE (lN i) (nI_l (by omega)) dX9_reference_21 rfl ?_
  refine g_lconst (pc' := 23) hE (lN 1) (by decide) dX9_reference_22 rfl ?_
  refine g_aload_n (pc' := 24) hE 0 rfl rfl dX9_reference_23 rfl ?_
  refine g_get (pc' := 27) hE gcX9 0 rfl 8 (by decide) rfl kX9_203 dX9_reference_24 rfl ?_
  refine g_i2l (pc' := 28) hE (lN v_many) (nI_l (by omega)) dX9_reference_27 rfl ?_
  refine g_callS (pc' := 31) (As := [.long (lN i), .long (lN 1), .long (lN v_many)]) (rest := [.ref mo, .int (nI j)]) hE (qX9_in l D T (lN i) (lN 1) (lN v_many)) mX9_in kX9_174 iX9_in (by decide) rfl (by decide) [] rfl (by decide) rfl (Nat.le_of_ble_eq_true rfl) dX9_reference_28 rfl (gBackR [] rfl ?_)
  rintro _ rfl
  refine g_st (st' := [.int (bI (inB (lN i) (lN 1) (lN v_many))), .ref mo, .int (nI j)]) rfl ?_
  refine g_ifB_eq (pc' := 34) (tgt := 38) hE dX9_reference_31 rfl rfl (fun hc31 => ?_) (fun hc31 => ?_)
  · (rw [inB_N (by omega) (by omega) (by omega)] at hc31; exact absurd (of_decide_eq_false hc31) (by omega))
  refine g_iload_n (pc' := 35) hE 1 rfl rfl dX9_reference_34 rfl ?_
  refine g_goto (tgt := 39) hE dX9_reference_35 rfl ?_
  refine g_callV (pc' := 42) (As := [.int (nI i)]) (rest := [.int (nI j)]) hE (qX9_referencesT l D T mo r_tape r_output r_draft r_letters r_name r_kind r_vary r_flag r_rest r_more r_one r_two r_begin r_partName r_partType r_partNumber r_nextName r_nextKind r_nextVary r_nextFlag r_nextRest r_nextMore r_nextOne r_nextTwo r_nextBegin r_nextPartName r_nextPartType r_nextPartNumber r_apart r_leader r_number r_way r_seen r_told r_toldAt v_thrown v_taped v_written v_error v_stands v_many v_nextMany v_nextParts v_classes v_stringsAt v_stringsEnd v_drafted v_tolds v_stringsSize t sg v_S f_letters f_name f_kind f_vary f_flag f_rest f_more f_one f_two f_begin f_partName f_partType f_partNumber i hS (by omega) (by omega)) mX9_references kX9_226 iX9_references sX9_references (by decide) rfl (by decide) 0 rfl rfl [0, 1, 4] rfl (by decide) rfl (Nat.le_of_ble_eq_true rfl) dX9_reference_39 rfl (gBackR [0, 1, 4] rfl ?_)
  rintro _ rfl
  refine g_st (st' := [.int (nI (nrT t i)), .int (nI j)]) rfl ?_
  refine g_icmpN_ge (pc' := 45) (tgt := 49) hE (by omega) (by omega) dX9_reference_42 rfl rfl (fun hc42 => ?_) (fun hc42 => ?_)
  · omega
  refine g_iconst (pc' := 46) hE (nI 1) (by decide) dX9_reference_45 rfl ?_
  refine g_goto (tgt := 50) hE dX9_reference_46 rfl ?_
  refine g_istore_n (pc' := 51) hE [(3, .int (nI 1)), (0, .ref mo), (1, .int (nI i)), (2, .int (nI j))] dX9_reference_50 rfl rfl (by decide) rfl ?_
  refine g_aload_n (pc' := 52) hE 1 rfl rfl dX9_reference_51 rfl ?_
  refine g_iload_n (pc' := 53) hE 0 rfl rfl dX9_reference_52 rfl ?_
  refine g_ifN_ne (pc' := 56) (tgt := 60) hE (by omega) dX9_reference_53 rfl rfl (fun hc53 => ?_) (fun hc53 => ?_)
  rotate_left
  · omega
  refine g_iconst (pc' := 61) hE (nI 0) (by decide) dX9_reference_60 rfl ?_
  refine g_iconst (pc' := 62) hE (nI 1) (by decide) dX9_reference_61 rfl ?_
  refine g_callV (pc' := 65) (As := [.int (nI 0), .int (nI 1)]) (rest := []) hE (qX9_fails l D T mo r_tape r_output r_draft r_letters r_name r_kind r_vary r_flag r_rest r_more r_one r_two r_begin r_partName r_partType r_partNumber r_nextName r_nextKind r_nextVary r_nextFlag r_nextRest r_nextMore r_nextOne r_nextTwo r_nextBegin r_nextPartName r_nextPartType r_nextPartNumber r_apart r_leader r_number r_way r_seen r_told r_toldAt v_thrown v_taped v_written v_error v_stands v_many v_nextMany v_nextParts v_classes v_stringsAt v_stringsEnd v_drafted v_tolds v_stringsSize false 1) mX9_fails kX9_233 iX9_fails sX9_fails (by decide) rfl (by decide) 0 rfl rfl [0] rfl (by decide) rfl (Nat.le_of_ble_eq_true rfl) dX9_reference_62 rfl (gBackU [0] rfl (fun v w1 y => by obtain ⟨_, rfl⟩ := y; rfl) ?_)
  rintro _ _ ⟨rfl, rfl⟩
  refine g_w (ws' := [(mo, .inr (8, [.int (nI 0), .ref r_tape, .int (nI v_taped), .ref r_output, .ref r_draft, .int (nI v_written), .int (nI v_error), .int (nI v_stands), .int (nI v_many), .ref r_letters, .ref r_name, .ref r_kind, .ref r_vary, .ref r_flag, .ref r_rest, .ref r_more, .ref r_one, .ref r_two, .ref r_begin, .ref r_partName, .ref r_partType, .ref r_partNumber, .int (nI v_nextMany), .int (nI v_nextParts), .ref r_nextName, .ref r_nextKind, .ref r_nextVary, .ref r_nextFlag, .ref r_nextRest, .ref r_nextMore, .ref r_nextOne, .ref r_nextTwo, .ref r_nextBegin, .ref r_nextPartName, .ref r_nextPartType, .ref r_nextPartNumber, .ref r_apart, .ref r_leader, .ref r_number, .int (nI v_classes), .int (nI v_stringsAt), .int (nI v_stringsEnd), .ref r_way, .ref r_seen, .int (nI v_drafted), .ref r_told, .ref r_toldAt, .int (nI v_tolds), .int (nI v_stringsSize)])), (r_kind, .inl (T 0, 202, .inl (fun z9 => nI (f_kind z9)))), (r_one, .inl (T 1, 202, .inr (.inl (fun z9 => lN (f_one z9))))), (r_two, .inl (T 1, 202, .inr (.inl (fun z9 => lN (f_two z9))))), (r_begin, .inl (T 0, 203, .inl (fun z9 => nI (f_begin z9)))), (r_rest, .inl (T 1, 202, .inr (.inl (fun z9 => lN (f_rest z9))))), (r_partType, .inl (T 1, 601, .inr (.inl (fun z9 => lN (f_partType z9)))))]) (rfl) ?_
  refine g_st (st' := [.int (bI false)]) rfl ?_
  refine g_ifB_eq (pc' := 68) (tgt := 72) hE dX9_reference_65 rfl rfl (fun hc65 => ?_) (fun hc65 => ?_)
  rotate_left
  · exact absurd hc65 (by decide)
  refine g_aload_n (pc' := 73) hE 1 rfl rfl dX9_reference_72 rfl ?_
  refine g_iload_n (pc' := 74) hE 2 rfl rfl dX9_reference_73 rfl ?_
  refine g_iload_n (pc' := 75) hE 3 rfl rfl dX9_reference_74 rfl ?_
  refine g_callV (pc' := 78) (As := [.int (nI i), .int (nI j)]) (rest := []) hE (qX9_referT l D T mo r_tape r_output r_draft r_letters r_name r_kind r_vary r_flag r_rest r_more r_one r_two r_begin r_partName r_partType r_partNumber r_nextName r_nextKind r_nextVary r_nextFlag r_nextRest r_nextMore r_nextOne r_nextTwo r_nextBegin r_nextPartName r_nextPartType r_nextPartNumber r_apart r_leader r_number r_way r_seen r_told r_toldAt 0 v_taped v_written v_error v_stands v_many v_nextMany v_nextParts v_classes v_stringsAt v_stringsEnd v_drafted v_tolds v_stringsSize t sg v_S f_letters f_name f_kind f_vary f_flag f_rest f_more f_one f_two f_begin f_partName f_partType f_partNumber i j hS (by omega) (by omega) (by omega)) mX9_refer kX9_230 iX9_refer sX9_refer (by decide) rfl (by decide) 0 rfl rfl [0, 1, 2, 3, 4, 5, 6] rfl (by decide) rfl (Nat.le_of_ble_eq_true rfl) dX9_reference_75 rfl (gBackR [0, 1, 2, 3, 4, 5, 6] rfl ?_)
  rintro _ rfl
  refine g_st (st' := [.int (nI (rfT t i j))]) rfl ?_
  exact hE.iret (⟨rfl, rfl⟩) (Nat.zero_le _) (Nat.zero_le _) dX9_reference_78

set_option maxHeartbeats 4000000 in
set_option maxRecDepth 100000 in
theorem qX9_referenceX (l : Launch) (D : va_G) (T : Nat → ClassId) (mo r_tape r_output r_draft r_letters r_name r_kind r_vary r_flag r_rest r_more r_one r_two r_begin r_partName r_partType r_partNumber r_nextName r_nextKind r_nextVary r_nextFlag r_nextRest r_nextMore r_nextOne r_nextTwo r_nextBegin r_nextPartName r_nextPartType r_nextPartNumber r_apart r_leader r_number r_way r_seen r_told r_toldAt v_thrown v_taped v_written v_error v_stands v_many v_nextMany v_nextParts v_classes v_stringsAt v_stringsEnd v_drafted v_tolds v_stringsSize : Nat) (x y : Int32) (hm : v_many ≤ 200) (hv : ¬ inB x.toInt64 (lN 1) (lN v_many) = true) : Con l D T yX9_reference cX9_reference 4 (some .int) 2 0 0 [.ref mo, .int x, .int y] [(mo, .inr (8, [.int (nI v_thrown), .ref r_tape, .int (nI v_taped), .ref r_output, .ref r_draft, .int (nI v_written), .int (nI v_error), .int (nI v_stands), .int (nI v_many), .ref r_letters, .ref r_name, .ref r_kind, .ref r_vary, .ref r_flag, .ref r_rest, .ref r_more, .ref r_one, .ref r_two, .ref r_begin, .ref r_partName, .ref r_partType, .ref r_partNumber, .int (nI v_nextMany), .int (nI v_nextParts), .ref r_nextName, .ref r_nextKind, .ref r_nextVary, .ref r_nextFlag, .ref r_nextRest, .ref r_nextMore, .ref r_nextOne, .ref r_nextTwo, .ref r_nextBegin, .ref r_nextPartName, .ref r_nextPartType, .ref r_nextPartNumber, .ref r_apart, .ref r_leader, .ref r_number, .int (nI v_classes), .int (nI v_stringsAt), .int (nI v_stringsEnd), .ref r_way, .ref r_seen, .int (nI v_drafted), .ref r_told, .ref r_toldAt, .int (nI v_tolds), .int (nI v_stringsSize)]))] (fun v w1 => v = some (.int (nI 0)) ∧ w1 = [(mo, .inr (8, [.int (nI 1), .ref r_tape, .int (nI v_taped), .ref r_output, .ref r_draft, .int (nI v_written), .int (nI v_error), .int (nI v_stands), .int (nI v_many), .ref r_letters, .ref r_name, .ref r_kind, .ref r_vary, .ref r_flag, .ref r_rest, .ref r_more, .ref r_one, .ref r_two, .ref r_begin, .ref r_partName, .ref r_partType, .ref r_partNumber, .int (nI v_nextMany), .int (nI v_nextParts), .ref r_nextName, .ref r_nextKind, .ref r_nextVary, .ref r_nextFlag, .ref r_nextRest, .ref r_nextMore, .ref r_nextOne, .ref r_nextTwo, .ref r_nextBegin, .ref r_nextPartName, .ref r_nextPartType, .ref r_nextPartNumber, .ref r_apart, .ref r_leader, .ref r_number, .int (nI v_classes), .int (nI v_stringsAt), .int (nI v_stringsEnd), .ref r_way, .ref r_seen, .int (nI v_drafted), .ref r_told, .ref r_toldAt, .int (nI v_tolds), .int (nI v_stringsSize)]))]) := by
  refine Con.of (by decide) (Nat.le_of_ble_eq_true rfl) ?_
  intro E hE
  refine g_lv (lv' := [(0, .ref mo), (1, .int x), (2, .int y)]) [0, 1, 2] rfl ?_
  refine g_iload_n (pc' := 1) hE 1 rfl rfl dX9_reference_0 rfl ?_
  refine g_i2l (pc' := 2) hE (x.toInt64) rfl dX9_reference_1 rfl ?_
  refine g_lconst (pc' := 3) hE (lN 1) (by decide) dX9_reference_2 rfl ?_
  refine g_aload_n (pc' := 4) hE 0 rfl rfl dX9_reference_3 rfl ?_
  refine g_get (pc' := 7) hE gcX9 0 rfl 8 (by decide) rfl kX9_203 dX9_reference_4 rfl ?_
  refine g_i2l (pc' := 8) hE (lN v_many) (nI_l (by omega)) dX9_reference_7 rfl ?_
  refine g_callS (pc' := 11) (As := [.long x.toInt64, .long (lN 1), .long (lN v_many)]) (rest := []) hE (qX9_in l D T x.toInt64 (lN 1) (lN v_many)) mX9_in kX9_174 iX9_in (by decide) rfl (by decide) [] rfl (by decide) rfl (Nat.le_of_ble_eq_true rfl) dX9_reference_8 rfl (gBackR [] rfl ?_)
  rintro _ rfl
  refine g_st (st' := [.int (bI (inB x.toInt64 (lN 1) (lN v_many)))]) rfl ?_
  refine g_ifB_eq (pc' := 14) (tgt := 49) hE dX9_reference_11 rfl rfl (fun hc11 => ?_) (fun hc11 => ?_)
  rotate_left
  · exact absurd hc11 hv
  refine g_iconst (pc' := 50) hE (nI 0) (by decide) dX9_reference_49 rfl ?_
  refine g_istore_n (pc' := 51) hE [(3, .int (nI 0)), (0, .ref mo), (1, .int x), (2, .int y)] dX9_reference_50 rfl rfl (by decide) rfl ?_
  refine g_aload_n (pc' := 52) hE 1 rfl rfl dX9_reference_51 rfl ?_
  refine g_iload_n (pc' := 53) hE 0 rfl rfl dX9_reference_52 rfl ?_
  refine g_ifN_ne (pc' := 56) (tgt := 60) hE (by omega) dX9_reference_53 rfl rfl (fun hc53 => ?_) (fun hc53 => ?_)
  · omega
  refine g_iconst (pc' := 57) hE (nI 1) (by decide) dX9_reference_56 rfl ?_
  refine g_goto (tgt := 61) hE dX9_reference_57 rfl ?_
  refine g_iconst (pc' := 62) hE (nI 1) (by decide) dX9_reference_61 rfl ?_
  refine g_callV (pc' := 65) (As := [.int (nI 1), .int (nI 1)]) (rest := []) hE (qX9_fails l D T mo r_tape r_output r_draft r_letters r_name r_kind r_vary r_flag r_rest r_more r_one r_two r_begin r_partName r_partType r_partNumber r_nextName r_nextKind r_nextVary r_nextFlag r_nextRest r_nextMore r_nextOne r_nextTwo r_nextBegin r_nextPartName r_nextPartType r_nextPartNumber r_apart r_leader r_number r_way r_seen r_told r_toldAt v_thrown v_taped v_written v_error v_stands v_many v_nextMany v_nextParts v_classes v_stringsAt v_stringsEnd v_drafted v_tolds v_stringsSize true 1) mX9_fails kX9_233 iX9_fails sX9_fails (by decide) rfl (by decide) 0 rfl rfl [0] rfl (by decide) rfl (Nat.le_of_ble_eq_true rfl) dX9_reference_62 rfl (gBackU [0] rfl (fun v w1 y => by obtain ⟨_, rfl⟩ := y; rfl) ?_)
  rintro _ _ ⟨rfl, rfl⟩
  refine g_w (ws' := [(mo, .inr (8, [.int (nI 1), .ref r_tape, .int (nI v_taped), .ref r_output, .ref r_draft, .int (nI v_written), .int (nI v_error), .int (nI v_stands), .int (nI v_many), .ref r_letters, .ref r_name, .ref r_kind, .ref r_vary, .ref r_flag, .ref r_rest, .ref r_more, .ref r_one, .ref r_two, .ref r_begin, .ref r_partName, .ref r_partType, .ref r_partNumber, .int (nI v_nextMany), .int (nI v_nextParts), .ref r_nextName, .ref r_nextKind, .ref r_nextVary, .ref r_nextFlag, .ref r_nextRest, .ref r_nextMore, .ref r_nextOne, .ref r_nextTwo, .ref r_nextBegin, .ref r_nextPartName, .ref r_nextPartType, .ref r_nextPartNumber, .ref r_apart, .ref r_leader, .ref r_number, .int (nI v_classes), .int (nI v_stringsAt), .int (nI v_stringsEnd), .ref r_way, .ref r_seen, .int (nI v_drafted), .ref r_told, .ref r_toldAt, .int (nI v_tolds), .int (nI v_stringsSize)]))]) (rfl) ?_
  refine g_st (st' := [.int (bI true)]) rfl ?_
  refine g_ifB_eq (pc' := 68) (tgt := 72) hE dX9_reference_65 rfl rfl (fun hc65 => ?_) (fun hc65 => ?_)
  · exact absurd hc65 (by decide)
  refine g_iconst (pc' := 69) hE (nI 0) (by decide) dX9_reference_68 rfl ?_
  refine g_goto (tgt := 78) hE dX9_reference_69 rfl ?_
  exact hE.iret (⟨rfl, rfl⟩) (Nat.zero_le _) (Nat.zero_le _) dX9_reference_78

set_option maxHeartbeats 4000000 in
set_option maxRecDepth 100000 in
theorem qX9_referenceY (l : Launch) (D : va_G) (T : Nat → ClassId) (mo r_tape r_output r_draft r_letters r_name r_kind r_vary r_flag r_rest r_more r_one r_two r_begin r_partName r_partType r_partNumber r_nextName r_nextKind r_nextVary r_nextFlag r_nextRest r_nextMore r_nextOne r_nextTwo r_nextBegin r_nextPartName r_nextPartType r_nextPartNumber r_apart r_leader r_number r_way r_seen r_told r_toldAt v_thrown v_taped v_written v_error v_stands v_many v_nextMany v_nextParts v_classes v_stringsAt v_stringsEnd v_drafted v_tolds v_stringsSize : Nat) (t : Nat → Nat) (sg v_S : Nat) (f_letters : Nat → Nat) (f_name : Nat → Nat) (f_kind : Nat → Nat) (f_vary : Nat → Nat) (f_flag : Nat → Nat) (f_rest : Nat → Nat) (f_more : Nat → Nat) (f_one : Nat → Nat) (f_two : Nat → Nat) (f_begin : Nat → Nat) (f_partName : Nat → Nat) (f_partType : Nat → Nat) (f_partNumber : Nat → Nat) (i : Nat) (y : Int32) (hS : MS t sg v_S v_many f_letters f_name f_kind f_vary f_flag f_rest f_more f_one f_two f_begin f_partName f_partType f_partNumber) (h1i : 1 ≤ i) (h2i : i ≤ v_many) (hv : ¬ (0 ≤ y ∧ y < nI (nrT t i))) : Con l D T yX9_reference cX9_reference 4 (some .int) 2 0 0 [.ref mo, .int (nI i), .int y] [(mo, .inr (8, [.int (nI v_thrown), .ref r_tape, .int (nI v_taped), .ref r_output, .ref r_draft, .int (nI v_written), .int (nI v_error), .int (nI v_stands), .int (nI v_many), .ref r_letters, .ref r_name, .ref r_kind, .ref r_vary, .ref r_flag, .ref r_rest, .ref r_more, .ref r_one, .ref r_two, .ref r_begin, .ref r_partName, .ref r_partType, .ref r_partNumber, .int (nI v_nextMany), .int (nI v_nextParts), .ref r_nextName, .ref r_nextKind, .ref r_nextVary, .ref r_nextFlag, .ref r_nextRest, .ref r_nextMore, .ref r_nextOne, .ref r_nextTwo, .ref r_nextBegin, .ref r_nextPartName, .ref r_nextPartType, .ref r_nextPartNumber, .ref r_apart, .ref r_leader, .ref r_number, .int (nI v_classes), .int (nI v_stringsAt), .int (nI v_stringsEnd), .ref r_way, .ref r_seen, .int (nI v_drafted), .ref r_told, .ref r_toldAt, .int (nI v_tolds), .int (nI v_stringsSize)])), (r_kind, .inl (T 0, 202, .inl (fun z9 => nI (f_kind z9)))), (r_one, .inl (T 1, 202, .inr (.inl (fun z9 => lN (f_one z9))))), (r_two, .inl (T 1, 202, .inr (.inl (fun z9 => lN (f_two z9))))), (r_begin, .inl (T 0, 203, .inl (fun z9 => nI (f_begin z9)))), (r_rest, .inl (T 1, 202, .inr (.inl (fun z9 => lN (f_rest z9))))), (r_partType, .inl (T 1, 601, .inr (.inl (fun z9 => lN (f_partType z9)))))] (fun v w1 => v = some (.int (nI 0)) ∧ w1 = [(mo, .inr (8, [.int (nI 1), .ref r_tape, .int (nI v_taped), .ref r_output, .ref r_draft, .int (nI v_written), .int (nI v_error), .int (nI v_stands), .int (nI v_many), .ref r_letters, .ref r_name, .ref r_kind, .ref r_vary, .ref r_flag, .ref r_rest, .ref r_more, .ref r_one, .ref r_two, .ref r_begin, .ref r_partName, .ref r_partType, .ref r_partNumber, .int (nI v_nextMany), .int (nI v_nextParts), .ref r_nextName, .ref r_nextKind, .ref r_nextVary, .ref r_nextFlag, .ref r_nextRest, .ref r_nextMore, .ref r_nextOne, .ref r_nextTwo, .ref r_nextBegin, .ref r_nextPartName, .ref r_nextPartType, .ref r_nextPartNumber, .ref r_apart, .ref r_leader, .ref r_number, .int (nI v_classes), .int (nI v_stringsAt), .int (nI v_stringsEnd), .ref r_way, .ref r_seen, .int (nI v_drafted), .ref r_told, .ref r_toldAt, .int (nI v_tolds), .int (nI v_stringsSize)])), (r_kind, .inl (T 0, 202, .inl (fun z9 => nI (f_kind z9)))), (r_one, .inl (T 1, 202, .inr (.inl (fun z9 => lN (f_one z9))))), (r_two, .inl (T 1, 202, .inr (.inl (fun z9 => lN (f_two z9))))), (r_begin, .inl (T 0, 203, .inl (fun z9 => nI (f_begin z9)))), (r_rest, .inl (T 1, 202, .inr (.inl (fun z9 => lN (f_rest z9))))), (r_partType, .inl (T 1, 601, .inr (.inl (fun z9 => lN (f_partType z9)))))]) := by
  refine Con.of (by decide) (Nat.le_of_ble_eq_true rfl) ?_
  intro E hE
  have hN := hS.1.1.1
  have hS8 := hS.1.2.2.2.1
  have hnr := hS.nr h1i h2i
  refine g_lv (lv' := [(0, .ref mo), (1, .int (nI i)), (2, .int y)]) [0, 1, 2] rfl ?_
  refine g_iload_n (pc' := 1) hE 1 rfl rfl dX9_reference_0 rfl ?_
  refine g_i2l (pc' := 2) hE (lN i) (nI_l (by omega)) dX9_reference_1 rfl ?_
  refine g_lconst (pc' := 3) hE (lN 1) (by decide) dX9_reference_2 rfl ?_
  refine g_aload_n (pc' := 4) hE 0 rfl rfl dX9_reference_3 rfl ?_
  refine g_get (pc' := 7) hE gcX9 0 rfl 8 (by decide) rfl kX9_203 dX9_reference_4 rfl ?_
  refine g_i2l (pc' := 8) hE (lN v_many) (nI_l (by omega)) dX9_reference_7 rfl ?_
  refine g_callS (pc' := 11) (As := [.long (lN i), .long (lN 1), .long (lN v_many)]) (rest := []) hE (qX9_in l D T (lN i) (lN 1) (lN v_many)) mX9_in kX9_174 iX9_in (by decide) rfl (by decide) [] rfl (by decide) rfl (Nat.le_of_ble_eq_true rfl) dX9_reference_8 rfl (gBackR [] rfl ?_)
  rintro _ rfl
  refine g_st (st' := [.int (bI (inB (lN i) (lN 1) (lN v_many)))]) rfl ?_
  refine g_ifB_eq (pc' := 14) (tgt := 49) hE dX9_reference_11 rfl rfl (fun hc11 => ?_) (fun hc11 => ?_)
  · (rw [inB_N (by omega) (by omega) (by omega)] at hc11; exact absurd (of_decide_eq_false hc11) (by omega))
  refine g_iload_n (pc' := 15) hE 2 rfl rfl dX9_reference_14 rfl ?_
  refine g_if_lt (pc' := 18) (tgt := 49) hE dX9_reference_15 rfl rfl (fun hc15 => ?_) (fun hc15 => ?_)
  · refine g_iconst (pc' := 50) hE (nI 0) (by decide) dX9_reference_49 rfl ?_
    refine g_istore_n (pc' := 51) hE [(3, .int (nI 0)), (0, .ref mo), (1, .int (nI i)), (2, .int y)] dX9_reference_50 rfl rfl (by decide) rfl ?_
    refine g_aload_n (pc' := 52) hE 1 rfl rfl dX9_reference_51 rfl ?_
    refine g_iload_n (pc' := 53) hE 0 rfl rfl dX9_reference_52 rfl ?_
    refine g_ifN_ne (pc' := 56) (tgt := 60) hE (by omega) dX9_reference_53 rfl rfl (fun hc53 => ?_) (fun hc53 => ?_)
    · omega
    refine g_iconst (pc' := 57) hE (nI 1) (by decide) dX9_reference_56 rfl ?_
    refine g_goto (tgt := 61) hE dX9_reference_57 rfl ?_
    refine g_iconst (pc' := 62) hE (nI 1) (by decide) dX9_reference_61 rfl ?_
    refine g_callV (pc' := 65) (As := [.int (nI 1), .int (nI 1)]) (rest := []) hE (qX9_fails l D T mo r_tape r_output r_draft r_letters r_name r_kind r_vary r_flag r_rest r_more r_one r_two r_begin r_partName r_partType r_partNumber r_nextName r_nextKind r_nextVary r_nextFlag r_nextRest r_nextMore r_nextOne r_nextTwo r_nextBegin r_nextPartName r_nextPartType r_nextPartNumber r_apart r_leader r_number r_way r_seen r_told r_toldAt v_thrown v_taped v_written v_error v_stands v_many v_nextMany v_nextParts v_classes v_stringsAt v_stringsEnd v_drafted v_tolds v_stringsSize true 1) mX9_fails kX9_233 iX9_fails sX9_fails (by decide) rfl (by decide) 0 rfl rfl [0] rfl (by decide) rfl (Nat.le_of_ble_eq_true rfl) dX9_reference_62 rfl (gBackU [0] rfl (fun v w1 y => by obtain ⟨_, rfl⟩ := y; rfl) ?_)
    rintro _ _ ⟨rfl, rfl⟩
    refine g_w (ws' := [(mo, .inr (8, [.int (nI 1), .ref r_tape, .int (nI v_taped), .ref r_output, .ref r_draft, .int (nI v_written), .int (nI v_error), .int (nI v_stands), .int (nI v_many), .ref r_letters, .ref r_name, .ref r_kind, .ref r_vary, .ref r_flag, .ref r_rest, .ref r_more, .ref r_one, .ref r_two, .ref r_begin, .ref r_partName, .ref r_partType, .ref r_partNumber, .int (nI v_nextMany), .int (nI v_nextParts), .ref r_nextName, .ref r_nextKind, .ref r_nextVary, .ref r_nextFlag, .ref r_nextRest, .ref r_nextMore, .ref r_nextOne, .ref r_nextTwo, .ref r_nextBegin, .ref r_nextPartName, .ref r_nextPartType, .ref r_nextPartNumber, .ref r_apart, .ref r_leader, .ref r_number, .int (nI v_classes), .int (nI v_stringsAt), .int (nI v_stringsEnd), .ref r_way, .ref r_seen, .int (nI v_drafted), .ref r_told, .ref r_toldAt, .int (nI v_tolds), .int (nI v_stringsSize)])), (r_kind, .inl (T 0, 202, .inl (fun z9 => nI (f_kind z9)))), (r_one, .inl (T 1, 202, .inr (.inl (fun z9 => lN (f_one z9))))), (r_two, .inl (T 1, 202, .inr (.inl (fun z9 => lN (f_two z9))))), (r_begin, .inl (T 0, 203, .inl (fun z9 => nI (f_begin z9)))), (r_rest, .inl (T 1, 202, .inr (.inl (fun z9 => lN (f_rest z9))))), (r_partType, .inl (T 1, 601, .inr (.inl (fun z9 => lN (f_partType z9)))))]) (rfl) ?_
    refine g_st (st' := [.int (bI true)]) rfl ?_
    refine g_ifB_eq (pc' := 68) (tgt := 72) hE dX9_reference_65 rfl rfl (fun hc65 => ?_) (fun hc65 => ?_)
    · exact absurd hc65 (by decide)
    refine g_iconst (pc' := 69) hE (nI 0) (by decide) dX9_reference_68 rfl ?_
    refine g_goto (tgt := 78) hE dX9_reference_69 rfl ?_
    exact hE.iret (⟨rfl, rfl⟩) (Nat.zero_le _) (Nat.zero_le _) dX9_reference_78
  · refine g_iload_n (pc' := 19) hE 2 rfl rfl dX9_reference_18 rfl ?_
    refine g_aload_n (pc' := 20) hE 0 rfl rfl dX9_reference_19 rfl ?_
    refine g_iload_n (pc' := 21) hE 1 rfl rfl dX9_reference_20 rfl ?_
    refine g_i2l (pc' := 22) hE (lN i) (nI_l (by omega)) dX9_reference_21 rfl ?_
    refine g_lconst (pc' := 23) hE (lN 1) (by decide) dX9_reference_22 rfl ?_
    refine g_aload_n (pc' := 24) hE 0 rfl rfl dX9_reference_23 rfl ?_
    refine g_get (pc' := 27) hE gcX9 0 rfl 8 (by decide) rfl kX9_203 dX9_reference_24 rfl ?_
    refine g_i2l (pc' := 28) hE (lN v_many) (nI_l (by omega)) dX9_reference_27 rfl ?_
    refine g_callS (pc' := 31) (As := [.long (lN i), .long (lN 1), .long (lN v_many)]) (rest := [.ref mo, .int y]) hE (qX9_in l D T (lN i) (lN 1) (lN v_many)) mX9_in kX9_174 iX9_in (by decide) rfl (by decide) [] rfl (by decide) rfl (Nat.le_of_ble_eq_true rfl) dX9_reference_28 rfl (gBackR [] rfl ?_)
    rintro _ rfl
    refine g_st (st' := [.int (bI (inB (lN i) (lN 1) (lN v_many))), .ref mo, .int y]) rfl ?_
    refine g_ifB_eq (pc' := 34) (tgt := 38) hE dX9_reference_31 rfl rfl (fun hc31 => ?_) (fun hc31 => ?_)
    · (rw [inB_N (by omega) (by omega) (by omega)] at hc31; exact absurd (of_decide_eq_false hc31) (by omega))
    refine g_iload_n (pc' := 35) hE 1 rfl rfl dX9_reference_34 rfl ?_
    refine g_goto (tgt := 39) hE dX9_reference_35 rfl ?_
    refine g_callV (pc' := 42) (As := [.int (nI i)]) (rest := [.int y]) hE (qX9_referencesT l D T mo r_tape r_output r_draft r_letters r_name r_kind r_vary r_flag r_rest r_more r_one r_two r_begin r_partName r_partType r_partNumber r_nextName r_nextKind r_nextVary r_nextFlag r_nextRest r_nextMore r_nextOne r_nextTwo r_nextBegin r_nextPartName r_nextPartType r_nextPartNumber r_apart r_leader r_number r_way r_seen r_told r_toldAt v_thrown v_taped v_written v_error v_stands v_many v_nextMany v_nextParts v_classes v_stringsAt v_stringsEnd v_drafted v_tolds v_stringsSize t sg v_S f_letters f_name f_kind f_vary f_flag f_rest f_more f_one f_two f_begin f_partName f_partType f_partNumber i hS (by omega) (by omega)) mX9_references kX9_226 iX9_references sX9_references (by decide) rfl (by decide) 0 rfl rfl [0, 1, 4] rfl (by decide) rfl (Nat.le_of_ble_eq_true rfl) dX9_reference_39 rfl (gBackR [0, 1, 4] rfl ?_)
    rintro _ rfl
    refine g_st (st' := [.int (nI (nrT t i)), .int y]) rfl ?_
    refine g_icmp_ge (pc' := 45) (tgt := 49) hE dX9_reference_42 rfl rfl (fun hc42 => ?_) (fun hc42 => ?_)
    rotate_left
    · exact absurd ⟨Int32.not_lt.mp hc15, Int32.not_le.mp hc42⟩ hv
    refine g_iconst (pc' := 50) hE (nI 0) (by decide) dX9_reference_49 rfl ?_
    refine g_istore_n (pc' := 51) hE [(3, .int (nI 0)), (0, .ref mo), (1, .int (nI i)), (2, .int y)] dX9_reference_50 rfl rfl (by decide) rfl ?_
    refine g_aload_n (pc' := 52) hE 1 rfl rfl dX9_reference_51 rfl ?_
    refine g_iload_n (pc' := 53) hE 0 rfl rfl dX9_reference_52 rfl ?_
    refine g_ifN_ne (pc' := 56) (tgt := 60) hE (by omega) dX9_reference_53 rfl rfl (fun hc53 => ?_) (fun hc53 => ?_)
    · omega
    refine g_iconst (pc' := 57) hE (nI 1) (by decide) dX9_reference_56 rfl ?_
    refine g_goto (tgt := 61) hE dX9_reference_57 rfl ?_
    refine g_iconst (pc' := 62) hE (nI 1) (by decide) dX9_reference_61 rfl ?_
    refine g_callV (pc' := 65) (As := [.int (nI 1), .int (nI 1)]) (rest := []) hE (qX9_fails l D T mo r_tape r_output r_draft r_letters r_name r_kind r_vary r_flag r_rest r_more r_one r_two r_begin r_partName r_partType r_partNumber r_nextName r_nextKind r_nextVary r_nextFlag r_nextRest r_nextMore r_nextOne r_nextTwo r_nextBegin r_nextPartName r_nextPartType r_nextPartNumber r_apart r_leader r_number r_way r_seen r_told r_toldAt v_thrown v_taped v_written v_error v_stands v_many v_nextMany v_nextParts v_classes v_stringsAt v_stringsEnd v_drafted v_tolds v_stringsSize true 1) mX9_fails kX9_233 iX9_fails sX9_fails (by decide) rfl (by decide) 0 rfl rfl [0] rfl (by decide) rfl (Nat.le_of_ble_eq_true rfl) dX9_reference_62 rfl (gBackU [0] rfl (fun v w1 y => by obtain ⟨_, rfl⟩ := y; rfl) ?_)
    rintro _ _ ⟨rfl, rfl⟩
    refine g_w (ws' := [(mo, .inr (8, [.int (nI 1), .ref r_tape, .int (nI v_taped), .ref r_output, .ref r_draft, .int (nI v_written), .int (nI v_error), .int (nI v_stands), .int (nI v_many), .ref r_letters, .ref r_name, .ref r_kind, .ref r_vary, .ref r_flag, .ref r_rest, .ref r_more, .ref r_one, .ref r_two, .ref r_begin, .ref r_partName, .ref r_partType, .ref r_partNumber, .int (nI v_nextMany), .int (nI v_nextParts), .ref r_nextName, .ref r_nextKind, .ref r_nextVary, .ref r_nextFlag, .ref r_nextRest, .ref r_nextMore, .ref r_nextOne, .ref r_nextTwo, .ref r_nextBegin, .ref r_nextPartName, .ref r_nextPartType, .ref r_nextPartNumber, .ref r_apart, .ref r_leader, .ref r_number, .int (nI v_classes), .int (nI v_stringsAt), .int (nI v_stringsEnd), .ref r_way, .ref r_seen, .int (nI v_drafted), .ref r_told, .ref r_toldAt, .int (nI v_tolds), .int (nI v_stringsSize)])), (r_kind, .inl (T 0, 202, .inl (fun z9 => nI (f_kind z9)))), (r_one, .inl (T 1, 202, .inr (.inl (fun z9 => lN (f_one z9))))), (r_two, .inl (T 1, 202, .inr (.inl (fun z9 => lN (f_two z9))))), (r_begin, .inl (T 0, 203, .inl (fun z9 => nI (f_begin z9)))), (r_rest, .inl (T 1, 202, .inr (.inl (fun z9 => lN (f_rest z9))))), (r_partType, .inl (T 1, 601, .inr (.inl (fun z9 => lN (f_partType z9)))))]) (rfl) ?_
    refine g_st (st' := [.int (bI true)]) rfl ?_
    refine g_ifB_eq (pc' := 68) (tgt := 72) hE dX9_reference_65 rfl rfl (fun hc65 => ?_) (fun hc65 => ?_)
    · exact absurd hc65 (by decide)
    refine g_iconst (pc' := 69) hE (nI 0) (by decide) dX9_reference_68 rfl ?_
    refine g_goto (tgt := 78) hE dX9_reference_69 rfl ?_
    exact hE.iret (⟨rfl, rfl⟩) (Nat.zero_le _) (Nat.zero_le _) dX9_reference_78

set_option maxHeartbeats 4000000 in
set_option maxRecDepth 100000 in
theorem qX9_apart (l : Launch) (D : va_G) (T : Nat → ClassId) (mo r_tape r_output r_draft r_letters r_name r_kind r_vary r_flag r_rest r_more r_one r_two r_begin r_partName r_partType r_partNumber r_nextName r_nextKind r_nextVary r_nextFlag r_nextRest r_nextMore r_nextOne r_nextTwo r_nextBegin r_nextPartName r_nextPartType r_nextPartNumber r_apart r_leader r_number r_way r_seen r_told r_toldAt v_thrown v_taped v_written v_error v_stands v_many v_nextMany v_nextParts v_classes v_stringsAt v_stringsEnd v_drafted v_tolds v_stringsSize : Nat) (f_apart : Nat → Nat) (i j : Nat) (hm : v_many ≤ 200) (hi : i ≤ v_many) (hj : j ≤ v_many) : Con l D T yX9_apart cX9_apart 3 (some .int) 2 0 0 [.ref mo, .int (nI i), .int (nI j)] [(mo, .inr (8, [.int (nI v_thrown), .ref r_tape, .int (nI v_taped), .ref r_output, .ref r_draft, .int (nI v_written), .int (nI v_error), .int (nI v_stands), .int (nI v_many), .ref r_letters, .ref r_name, .ref r_kind, .ref r_vary, .ref r_flag, .ref r_rest, .ref r_more, .ref r_one, .ref r_two, .ref r_begin, .ref r_partName, .ref r_partType, .ref r_partNumber, .int (nI v_nextMany), .int (nI v_nextParts), .ref r_nextName, .ref r_nextKind, .ref r_nextVary, .ref r_nextFlag, .ref r_nextRest, .ref r_nextMore, .ref r_nextOne, .ref r_nextTwo, .ref r_nextBegin, .ref r_nextPartName, .ref r_nextPartType, .ref r_nextPartNumber, .ref r_apart, .ref r_leader, .ref r_number, .int (nI v_classes), .int (nI v_stringsAt), .int (nI v_stringsEnd), .ref r_way, .ref r_seen, .int (nI v_drafted), .ref r_told, .ref r_toldAt, .int (nI v_tolds), .int (nI v_stringsSize)])), (r_apart, .inl (T 0, 40804, .inl (fun z9 => nI (f_apart z9))))] (fun v w1 => v = some (.int (nI (f_apart (202 * i + j)))) ∧ w1 = [(mo, .inr (8, [.int (nI 0), .ref r_tape, .int (nI v_taped), .ref r_output, .ref r_draft, .int (nI v_written), .int (nI v_error), .int (nI v_stands), .int (nI v_many), .ref r_letters, .ref r_name, .ref r_kind, .ref r_vary, .ref r_flag, .ref r_rest, .ref r_more, .ref r_one, .ref r_two, .ref r_begin, .ref r_partName, .ref r_partType, .ref r_partNumber, .int (nI v_nextMany), .int (nI v_nextParts), .ref r_nextName, .ref r_nextKind, .ref r_nextVary, .ref r_nextFlag, .ref r_nextRest, .ref r_nextMore, .ref r_nextOne, .ref r_nextTwo, .ref r_nextBegin, .ref r_nextPartName, .ref r_nextPartType, .ref r_nextPartNumber, .ref r_apart, .ref r_leader, .ref r_number, .int (nI v_classes), .int (nI v_stringsAt), .int (nI v_stringsEnd), .ref r_way, .ref r_seen, .int (nI v_drafted), .ref r_told, .ref r_toldAt, .int (nI v_tolds), .int (nI v_stringsSize)])), (r_apart, .inl (T 0, 40804, .inl (fun z9 => nI (f_apart z9))))]) := by
  refine Con.of (by decide) (Nat.le_of_ble_eq_true rfl) ?_
  intro E hE
  refine g_lv (lv' := [(0, .ref mo), (1, .int (nI i)), (2, .int (nI j))]) [0, 1, 2] rfl ?_
  refine g_aload_n (pc' := 1) hE 0 rfl rfl dX9_apart_0 rfl ?_
  refine g_iload_n (pc' := 2) hE 1 rfl rfl dX9_apart_1 rfl ?_
  refine g_i2l (pc' := 3) hE (lN i) (nI_l (by omega)) dX9_apart_2 rfl ?_
  refine g_lconst (pc' := 4) hE (lN 0) (by decide) dX9_apart_3 rfl ?_
  refine g_aload_n (pc' := 5) hE 0 rfl rfl dX9_apart_4 rfl ?_
  refine g_get (pc' := 8) hE gcX9 0 rfl 8 (by decide) rfl kX9_203 dX9_apart_5 rfl ?_
  refine g_i2l (pc' := 9) hE (lN v_many) (nI_l (by omega)) dX9_apart_8 rfl ?_
  refine g_callS (pc' := 12) (As := [.long (lN i), .long (lN 0), .long (lN v_many)]) (rest := [.ref mo]) hE (qX9_in l D T (lN i) (lN 0) (lN v_many)) mX9_in kX9_174 iX9_in (by decide) rfl (by decide) [] rfl (by decide) rfl (Nat.le_of_ble_eq_true rfl) dX9_apart_9 rfl (gBackR [] rfl ?_)
  rintro _ rfl
  refine g_st (st' := [.int (bI (inB (lN i) (lN 0) (lN v_many))), .ref mo]) rfl ?_
  refine g_ifB_eq (pc' := 15) (tgt := 29) hE dX9_apart_12 rfl rfl (fun hc12 => ?_) (fun hc12 => ?_)
  · (rw [inB_N (by omega) (by omega) (by omega)] at hc12; exact absurd (of_decide_eq_false hc12) (by omega))
  refine g_iload_n (pc' := 16) hE 2 rfl rfl dX9_apart_15 rfl ?_
  refine g_i2l (pc' := 17) hE (lN j) (nI_l (by omega)) dX9_apart_16 rfl ?_
  refine g_lconst (pc' := 18) hE (lN 0) (by decide) dX9_apart_17 rfl ?_
  refine g_aload_n (pc' := 19) hE 0 rfl rfl dX9_apart_18 rfl ?_
  refine g_get (pc' := 22) hE gcX9 0 rfl 8 (by decide) rfl kX9_203 dX9_apart_19 rfl ?_
  refine g_i2l (pc' := 23) hE (lN v_many) (nI_l (by omega)) dX9_apart_22 rfl ?_
  refine g_callS (pc' := 26) (As := [.long (lN j), .long (lN 0), .long (lN v_many)]) (rest := [.ref mo]) hE (qX9_in l D T (lN j) (lN 0) (lN v_many)) mX9_in kX9_174 iX9_in (by decide) rfl (by decide) [] rfl (by decide) rfl (Nat.le_of_ble_eq_true rfl) dX9_apart_23 rfl (gBackR [] rfl ?_)
  rintro _ rfl
  refine g_st (st' := [.int (bI (inB (lN j) (lN 0) (lN v_many))), .ref mo]) rfl ?_
  refine g_ifB_ne (pc' := 29) (tgt := 33) hE dX9_apart_26 rfl rfl (fun hc26 => ?_) (fun hc26 => ?_)
  rotate_left
  · (rw [inB_N (by omega) (by omega) (by omega)] at hc26; exact absurd (of_decide_eq_false hc26) (by omega))
  refine g_iconst (pc' := 34) hE (nI 0) (by decide) dX9_apart_33 rfl ?_
  refine g_iconst (pc' := 35) hE (nI 1) (by decide) dX9_apart_34 rfl ?_
  refine g_callV (pc' := 38) (As := [.int (nI 0), .int (nI 1)]) (rest := []) hE (qX9_fails l D T mo r_tape r_output r_draft r_letters r_name r_kind r_vary r_flag r_rest r_more r_one r_two r_begin r_partName r_partType r_partNumber r_nextName r_nextKind r_nextVary r_nextFlag r_nextRest r_nextMore r_nextOne r_nextTwo r_nextBegin r_nextPartName r_nextPartType r_nextPartNumber r_apart r_leader r_number r_way r_seen r_told r_toldAt v_thrown v_taped v_written v_error v_stands v_many v_nextMany v_nextParts v_classes v_stringsAt v_stringsEnd v_drafted v_tolds v_stringsSize false 1) mX9_fails kX9_233 iX9_fails sX9_fails (by decide) rfl (by decide) 0 rfl rfl [0] rfl (by decide) rfl (Nat.le_of_ble_eq_true rfl) dX9_apart_35 rfl (gBackU [0] rfl (fun v w1 y => by obtain ⟨_, rfl⟩ := y; rfl) ?_)
  rintro _ _ ⟨rfl, rfl⟩
  refine g_w (ws' := [(mo, .inr (8, [.int (nI 0), .ref r_tape, .int (nI v_taped), .ref r_output, .ref r_draft, .int (nI v_written), .int (nI v_error), .int (nI v_stands), .int (nI v_many), .ref r_letters, .ref r_name, .ref r_kind, .ref r_vary, .ref r_flag, .ref r_rest, .ref r_more, .ref r_one, .ref r_two, .ref r_begin, .ref r_partName, .ref r_partType, .ref r_partNumber, .int (nI v_nextMany), .int (nI v_nextParts), .ref r_nextName, .ref r_nextKind, .ref r_nextVary, .ref r_nextFlag, .ref r_nextRest, .ref r_nextMore, .ref r_nextOne, .ref r_nextTwo, .ref r_nextBegin, .ref r_nextPartName, .ref r_nextPartType, .ref r_nextPartNumber, .ref r_apart, .ref r_leader, .ref r_number, .int (nI v_classes), .int (nI v_stringsAt), .int (nI v_stringsEnd), .ref r_way, .ref r_seen, .int (nI v_drafted), .ref r_told, .ref r_toldAt, .int (nI v_tolds), .int (nI v_stringsSize)])), (r_apart, .inl (T 0, 40804, .inl (fun z9 => nI (f_apart z9))))]) (rfl) ?_
  refine g_st (st' := [.int (bI false)]) rfl ?_
  refine g_ifB_eq (pc' := 41) (tgt := 45) hE dX9_apart_38 rfl rfl (fun hc38 => ?_) (fun hc38 => ?_)
  rotate_left
  · exact absurd hc38 (by decide)
  refine g_aload_n (pc' := 46) hE 0 rfl rfl dX9_apart_45 rfl ?_
  refine g_iload_n (pc' := 47) hE 1 rfl rfl dX9_apart_46 rfl ?_
  refine g_iload_n (pc' := 48) hE 2 rfl rfl dX9_apart_47 rfl ?_
  refine g_callV (pc' := 51) (As := [.int (nI i), .int (nI j)]) (rest := []) hE (qX9_depth l D T mo r_tape r_output r_draft r_letters r_name r_kind r_vary r_flag r_rest r_more r_one r_two r_begin r_partName r_partType r_partNumber r_nextName r_nextKind r_nextVary r_nextFlag r_nextRest r_nextMore r_nextOne r_nextTwo r_nextBegin r_nextPartName r_nextPartType r_nextPartNumber r_apart r_leader r_number r_way r_seen r_told r_toldAt 0 v_taped v_written v_error v_stands v_many v_nextMany v_nextParts v_classes v_stringsAt v_stringsEnd v_drafted v_tolds v_stringsSize f_apart i j (by omega) (by omega)) mX9_depth kX9_212 iX9_depth sX9_depth (by decide) rfl (by decide) 0 rfl rfl [0, 1] rfl (by decide) rfl (Nat.le_of_ble_eq_true rfl) dX9_apart_48 rfl (gBackR [0, 1] rfl ?_)
  rintro _ rfl
  refine g_st (st' := [.int (nI (f_apart (202 * i + j)))]) rfl ?_
  exact hE.iret (⟨rfl, rfl⟩) (Nat.zero_le _) (Nat.zero_le _) dX9_apart_51

set_option maxHeartbeats 4000000 in
set_option maxRecDepth 100000 in
theorem qX9_apartX (l : Launch) (D : va_G) (T : Nat → ClassId) (mo r_tape r_output r_draft r_letters r_name r_kind r_vary r_flag r_rest r_more r_one r_two r_begin r_partName r_partType r_partNumber r_nextName r_nextKind r_nextVary r_nextFlag r_nextRest r_nextMore r_nextOne r_nextTwo r_nextBegin r_nextPartName r_nextPartType r_nextPartNumber r_apart r_leader r_number r_way r_seen r_told r_toldAt v_thrown v_taped v_written v_error v_stands v_many v_nextMany v_nextParts v_classes v_stringsAt v_stringsEnd v_drafted v_tolds v_stringsSize : Nat) (x y : Int32) (hm : v_many ≤ 200) (hv : ¬ (inB x.toInt64 (lN 0) (lN v_many) = true ∧ inB y.toInt64 (lN 0) (lN v_many) = true)) : Con l D T yX9_apart cX9_apart 3 (some .int) 2 0 0 [.ref mo, .int x, .int y] [(mo, .inr (8, [.int (nI v_thrown), .ref r_tape, .int (nI v_taped), .ref r_output, .ref r_draft, .int (nI v_written), .int (nI v_error), .int (nI v_stands), .int (nI v_many), .ref r_letters, .ref r_name, .ref r_kind, .ref r_vary, .ref r_flag, .ref r_rest, .ref r_more, .ref r_one, .ref r_two, .ref r_begin, .ref r_partName, .ref r_partType, .ref r_partNumber, .int (nI v_nextMany), .int (nI v_nextParts), .ref r_nextName, .ref r_nextKind, .ref r_nextVary, .ref r_nextFlag, .ref r_nextRest, .ref r_nextMore, .ref r_nextOne, .ref r_nextTwo, .ref r_nextBegin, .ref r_nextPartName, .ref r_nextPartType, .ref r_nextPartNumber, .ref r_apart, .ref r_leader, .ref r_number, .int (nI v_classes), .int (nI v_stringsAt), .int (nI v_stringsEnd), .ref r_way, .ref r_seen, .int (nI v_drafted), .ref r_told, .ref r_toldAt, .int (nI v_tolds), .int (nI v_stringsSize)]))] (fun v w1 => v = some (.int (nI 0)) ∧ w1 = [(mo, .inr (8, [.int (nI 1), .ref r_tape, .int (nI v_taped), .ref r_output, .ref r_draft, .int (nI v_written), .int (nI v_error), .int (nI v_stands), .int (nI v_many), .ref r_letters, .ref r_name, .ref r_kind, .ref r_vary, .ref r_flag, .ref r_rest, .ref r_more, .ref r_one, .ref r_two, .ref r_begin, .ref r_partName, .ref r_partType, .ref r_partNumber, .int (nI v_nextMany), .int (nI v_nextParts), .ref r_nextName, .ref r_nextKind, .ref r_nextVary, .ref r_nextFlag, .ref r_nextRest, .ref r_nextMore, .ref r_nextOne, .ref r_nextTwo, .ref r_nextBegin, .ref r_nextPartName, .ref r_nextPartType, .ref r_nextPartNumber, .ref r_apart, .ref r_leader, .ref r_number, .int (nI v_classes), .int (nI v_stringsAt), .int (nI v_stringsEnd), .ref r_way, .ref r_seen, .int (nI v_drafted), .ref r_told, .ref r_toldAt, .int (nI v_tolds), .int (nI v_stringsSize)]))]) := by
  refine Con.of (by decide) (Nat.le_of_ble_eq_true rfl) ?_
  intro E hE
  refine g_lv (lv' := [(0, .ref mo), (1, .int x), (2, .int y)]) [0, 1, 2] rfl ?_
  refine g_aload_n (pc' := 1) hE 0 rfl rfl dX9_apart_0 rfl ?_
  refine g_iload_n (pc' := 2) hE 1 rfl rfl dX9_apart_1 rfl ?_
  refine g_i2l (pc' := 3) hE (x.toInt64) rfl dX9_apart_2 rfl ?_
  refine g_lconst (pc' := 4) hE (lN 0) (by decide) dX9_apart_3 rfl ?_
  refine g_aload_n (pc' := 5) hE 0 rfl rfl dX9_apart_4 rfl ?_
  refine g_get (pc' := 8) hE gcX9 0 rfl 8 (by decide) rfl kX9_203 dX9_apart_5 rfl ?_
  refine g_i2l (pc' := 9) hE (lN v_many) (nI_l (by omega)) dX9_apart_8 rfl ?_
  refine g_callS (pc' := 12) (As := [.long x.toInt64, .long (lN 0), .long (lN v_many)]) (rest := [.ref mo]) hE (qX9_in l D T x.toInt64 (lN 0) (lN v_many)) mX9_in kX9_174 iX9_in (by decide) rfl (by decide) [] rfl (by decide) rfl (Nat.le_of_ble_eq_true rfl) dX9_apart_9 rfl (gBackR [] rfl ?_)
  rintro _ rfl
  refine g_st (st' := [.int (bI (inB x.toInt64 (lN 0) (lN v_many))), .ref mo]) rfl ?_
  refine g_ifB_eq (pc' := 15) (tgt := 29) hE dX9_apart_12 rfl rfl (fun hc12 => ?_) (fun hc12 => ?_)
  · refine g_iconst (pc' := 30) hE (nI 1) (by decide) dX9_apart_29 rfl ?_
    refine g_goto (tgt := 34) hE dX9_apart_30 rfl ?_
    refine g_iconst (pc' := 35) hE (nI 1) (by decide) dX9_apart_34 rfl ?_
    refine g_callV (pc' := 38) (As := [.int (nI 1), .int (nI 1)]) (rest := []) hE (qX9_fails l D T mo r_tape r_output r_draft r_letters r_name r_kind r_vary r_flag r_rest r_more r_one r_two r_begin r_partName r_partType r_partNumber r_nextName r_nextKind r_nextVary r_nextFlag r_nextRest r_nextMore r_nextOne r_nextTwo r_nextBegin r_nextPartName r_nextPartType r_nextPartNumber r_apart r_leader r_number r_way r_seen r_told r_toldAt v_thrown v_taped v_written v_error v_stands v_many v_nextMany v_nextParts v_classes v_stringsAt v_stringsEnd v_drafted v_tolds v_stringsSize true 1) mX9_fails kX9_233 iX9_fails sX9_fails (by decide) rfl (by decide) 0 rfl rfl [0] rfl (by decide) rfl (Nat.le_of_ble_eq_true rfl) dX9_apart_35 rfl (gBackU [0] rfl (fun v w1 y => by obtain ⟨_, rfl⟩ := y; rfl) ?_)
    rintro _ _ ⟨rfl, rfl⟩
    refine g_w (ws' := [(mo, .inr (8, [.int (nI 1), .ref r_tape, .int (nI v_taped), .ref r_output, .ref r_draft, .int (nI v_written), .int (nI v_error), .int (nI v_stands), .int (nI v_many), .ref r_letters, .ref r_name, .ref r_kind, .ref r_vary, .ref r_flag, .ref r_rest, .ref r_more, .ref r_one, .ref r_two, .ref r_begin, .ref r_partName, .ref r_partType, .ref r_partNumber, .int (nI v_nextMany), .int (nI v_nextParts), .ref r_nextName, .ref r_nextKind, .ref r_nextVary, .ref r_nextFlag, .ref r_nextRest, .ref r_nextMore, .ref r_nextOne, .ref r_nextTwo, .ref r_nextBegin, .ref r_nextPartName, .ref r_nextPartType, .ref r_nextPartNumber, .ref r_apart, .ref r_leader, .ref r_number, .int (nI v_classes), .int (nI v_stringsAt), .int (nI v_stringsEnd), .ref r_way, .ref r_seen, .int (nI v_drafted), .ref r_told, .ref r_toldAt, .int (nI v_tolds), .int (nI v_stringsSize)]))]) (rfl) ?_
    refine g_st (st' := [.int (bI true)]) rfl ?_
    refine g_ifB_eq (pc' := 41) (tgt := 45) hE dX9_apart_38 rfl rfl (fun hc38 => ?_) (fun hc38 => ?_)
    · exact absurd hc38 (by decide)
    refine g_iconst (pc' := 42) hE (nI 0) (by decide) dX9_apart_41 rfl ?_
    refine g_goto (tgt := 51) hE dX9_apart_42 rfl ?_
    exact hE.iret (⟨rfl, rfl⟩) (Nat.zero_le _) (Nat.zero_le _) dX9_apart_51
  · refine g_iload_n (pc' := 16) hE 2 rfl rfl dX9_apart_15 rfl ?_
    refine g_i2l (pc' := 17) hE (y.toInt64) rfl dX9_apart_16 rfl ?_
    refine g_lconst (pc' := 18) hE (lN 0) (by decide) dX9_apart_17 rfl ?_
    refine g_aload_n (pc' := 19) hE 0 rfl rfl dX9_apart_18 rfl ?_
    refine g_get (pc' := 22) hE gcX9 0 rfl 8 (by decide) rfl kX9_203 dX9_apart_19 rfl ?_
    refine g_i2l (pc' := 23) hE (lN v_many) (nI_l (by omega)) dX9_apart_22 rfl ?_
    refine g_callS (pc' := 26) (As := [.long y.toInt64, .long (lN 0), .long (lN v_many)]) (rest := [.ref mo]) hE (qX9_in l D T y.toInt64 (lN 0) (lN v_many)) mX9_in kX9_174 iX9_in (by decide) rfl (by decide) [] rfl (by decide) rfl (Nat.le_of_ble_eq_true rfl) dX9_apart_23 rfl (gBackR [] rfl ?_)
    rintro _ rfl
    refine g_st (st' := [.int (bI (inB y.toInt64 (lN 0) (lN v_many))), .ref mo]) rfl ?_
    refine g_ifB_ne (pc' := 29) (tgt := 33) hE dX9_apart_26 rfl rfl (fun hc26 => ?_) (fun hc26 => ?_)
    · exact absurd ⟨hc12, hc26⟩ hv
    refine g_iconst (pc' := 30) hE (nI 1) (by decide) dX9_apart_29 rfl ?_
    refine g_goto (tgt := 34) hE dX9_apart_30 rfl ?_
    refine g_iconst (pc' := 35) hE (nI 1) (by decide) dX9_apart_34 rfl ?_
    refine g_callV (pc' := 38) (As := [.int (nI 1), .int (nI 1)]) (rest := []) hE (qX9_fails l D T mo r_tape r_output r_draft r_letters r_name r_kind r_vary r_flag r_rest r_more r_one r_two r_begin r_partName r_partType r_partNumber r_nextName r_nextKind r_nextVary r_nextFlag r_nextRest r_nextMore r_nextOne r_nextTwo r_nextBegin r_nextPartName r_nextPartType r_nextPartNumber r_apart r_leader r_number r_way r_seen r_told r_toldAt v_thrown v_taped v_written v_error v_stands v_many v_nextMany v_nextParts v_classes v_stringsAt v_stringsEnd v_drafted v_tolds v_stringsSize true 1) mX9_fails kX9_233 iX9_fails sX9_fails (by decide) rfl (by decide) 0 rfl rfl [0] rfl (by decide) rfl (Nat.le_of_ble_eq_true rfl) dX9_apart_35 rfl (gBackU [0] rfl (fun v w1 y => by obtain ⟨_, rfl⟩ := y; rfl) ?_)
    rintro _ _ ⟨rfl, rfl⟩
    refine g_w (ws' := [(mo, .inr (8, [.int (nI 1), .ref r_tape, .int (nI v_taped), .ref r_output, .ref r_draft, .int (nI v_written), .int (nI v_error), .int (nI v_stands), .int (nI v_many), .ref r_letters, .ref r_name, .ref r_kind, .ref r_vary, .ref r_flag, .ref r_rest, .ref r_more, .ref r_one, .ref r_two, .ref r_begin, .ref r_partName, .ref r_partType, .ref r_partNumber, .int (nI v_nextMany), .int (nI v_nextParts), .ref r_nextName, .ref r_nextKind, .ref r_nextVary, .ref r_nextFlag, .ref r_nextRest, .ref r_nextMore, .ref r_nextOne, .ref r_nextTwo, .ref r_nextBegin, .ref r_nextPartName, .ref r_nextPartType, .ref r_nextPartNumber, .ref r_apart, .ref r_leader, .ref r_number, .int (nI v_classes), .int (nI v_stringsAt), .int (nI v_stringsEnd), .ref r_way, .ref r_seen, .int (nI v_drafted), .ref r_told, .ref r_toldAt, .int (nI v_tolds), .int (nI v_stringsSize)]))]) (rfl) ?_
    refine g_st (st' := [.int (bI true)]) rfl ?_
    refine g_ifB_eq (pc' := 41) (tgt := 45) hE dX9_apart_38 rfl rfl (fun hc38 => ?_) (fun hc38 => ?_)
    · exact absurd hc38 (by decide)
    refine g_iconst (pc' := 42) hE (nI 0) (by decide) dX9_apart_41 rfl ?_
    refine g_goto (tgt := 51) hE dX9_apart_42 rfl ?_
    exact hE.iret (⟨rfl, rfl⟩) (Nat.zero_le _) (Nat.zero_le _) dX9_apart_51

set_option maxHeartbeats 4000000 in
set_option maxRecDepth 100000 in
theorem qX9_deepest (l : Launch) (D : va_G) (T : Nat → ClassId) (mo r_tape r_output r_draft r_letters r_name r_kind r_vary r_flag r_rest r_more r_one r_two r_begin r_partName r_partType r_partNumber r_nextName r_nextKind r_nextVary r_nextFlag r_nextRest r_nextMore r_nextOne r_nextTwo r_nextBegin r_nextPartName r_nextPartType r_nextPartNumber r_apart r_leader r_number r_way r_seen r_told r_toldAt v_thrown v_taped v_written v_error v_stands v_many v_nextMany v_nextParts v_classes v_stringsAt v_stringsEnd v_drafted v_tolds v_stringsSize : Nat) (f_apart : Nat → Nat) (hm : v_many ≤ 200) (hA : ∀ a b, a ≤ v_many → b ≤ v_many → f_apart (202 * a + b) ≤ 50000) : Con l D T yX9_deepest cX9_deepest 4 (some .int) 1 0 0 [.ref mo] [(mo, .inr (8, [.int (nI v_thrown), .ref r_tape, .int (nI v_taped), .ref r_output, .ref r_draft, .int (nI v_written), .int (nI v_error), .int (nI v_stands), .int (nI v_many), .ref r_letters, .ref r_name, .ref r_kind, .ref r_vary, .ref r_flag, .ref r_rest, .ref r_more, .ref r_one, .ref r_two, .ref r_begin, .ref r_partName, .ref r_partType, .ref r_partNumber, .int (nI v_nextMany), .int (nI v_nextParts), .ref r_nextName, .ref r_nextKind, .ref r_nextVary, .ref r_nextFlag, .ref r_nextRest, .ref r_nextMore, .ref r_nextOne, .ref r_nextTwo, .ref r_nextBegin, .ref r_nextPartName, .ref r_nextPartType, .ref r_nextPartNumber, .ref r_apart, .ref r_leader, .ref r_number, .int (nI v_classes), .int (nI v_stringsAt), .int (nI v_stringsEnd), .ref r_way, .ref r_seen, .int (nI v_drafted), .ref r_told, .ref r_toldAt, .int (nI v_tolds), .int (nI v_stringsSize)])), (r_apart, .inl (T 0, 40804, .inl (fun z9 => nI (f_apart z9))))] (fun v w1 => w1 = [(mo, .inr (8, [.int (nI v_thrown), .ref r_tape, .int (nI v_taped), .ref r_output, .ref r_draft, .int (nI v_written), .int (nI v_error), .int (nI v_stands), .int (nI v_many), .ref r_letters, .ref r_name, .ref r_kind, .ref r_vary, .ref r_flag, .ref r_rest, .ref r_more, .ref r_one, .ref r_two, .ref r_begin, .ref r_partName, .ref r_partType, .ref r_partNumber, .int (nI v_nextMany), .int (nI v_nextParts), .ref r_nextName, .ref r_nextKind, .ref r_nextVary, .ref r_nextFlag, .ref r_nextRest, .ref r_nextMore, .ref r_nextOne, .ref r_nextTwo, .ref r_nextBegin, .ref r_nextPartName, .ref r_nextPartType, .ref r_nextPartNumber, .ref r_apart, .ref r_leader, .ref r_number, .int (nI v_classes), .int (nI v_stringsAt), .int (nI v_stringsEnd), .ref r_way, .ref r_seen, .int (nI v_drafted), .ref r_told, .ref r_toldAt, .int (nI v_tolds), .int (nI v_stringsSize)])), (r_apart, .inl (T 0, 40804, .inl (fun z9 => nI (f_apart z9))))] ∧ ∃ g : Nat, v = some (.int (nI (g - 1))) ∧ Deep v_many f_apart g) := by
  refine Con.of (by decide) (Nat.le_of_ble_eq_true rfl) ?_
  intro E hE
  refine g_lv (lv' := [(0, .ref mo)]) [0] rfl ?_
  refine g_iconst (pc' := 1) hE (nI 1) (by decide) dX9_deepest_0 rfl ?_
  refine g_istore_n (pc' := 2) hE [(1, .int (nI 1)), (0, .ref mo)] dX9_deepest_1 rfl rfl (by decide) rfl ?_
  refine g_iconst (pc' := 3) hE (nI 0) (by decide) dX9_deepest_2 rfl ?_
  refine g_istore_n (pc' := 4) hE [(2, .int (nI 0)), (1, .int (nI 1)), (0, .ref mo)] dX9_deepest_3 rfl rfl (by decide) rfl ?_
  refine (show ∀ (d4 : Nat) (a1 : Nat) (g : Nat), v_many + 1 - a1 = d4 → (a1 ≤ v_many + 1) → (g ≤ 50000) → (DeepI a1 0 f_apart g) → G l E D 4 0 0 [(mo, .inr (8, [.int (nI v_thrown), .ref r_tape, .int (nI v_taped), .ref r_output, .ref r_draft, .int (nI v_written), .int (nI v_error), .int (nI v_stands), .int (nI v_many), .ref r_letters, .ref r_name, .ref r_kind, .ref r_vary, .ref r_flag, .ref r_rest, .ref r_more, .ref r_one, .ref r_two, .ref r_begin, .ref r_partName, .ref r_partType, .ref r_partNumber, .int (nI v_nextMany), .int (nI v_nextParts), .ref r_nextName, .ref r_nextKind, .ref r_nextVary, .ref r_nextFlag, .ref r_nextRest, .ref r_nextMore, .ref r_nextOne, .ref r_nextTwo, .ref r_nextBegin, .ref r_nextPartName, .ref r_nextPartType, .ref r_nextPartNumber, .ref r_apart, .ref r_leader, .ref r_number, .int (nI v_classes), .int (nI v_stringsAt), .int (nI v_stringsEnd), .ref r_way, .ref r_seen, .int (nI v_drafted), .ref r_told, .ref r_toldAt, .int (nI v_tolds), .int (nI v_stringsSize)])), (r_apart, .inl (T 0, 40804, .inl (fun z9 => nI (f_apart z9))))] [(2, .int (nI a1)), (1, .int (nI g)), (0, .ref mo)] 4 [] from ?_) _ 0 1 rfl (by omega) (by omega) (⟨by omega, fun a b x y => absurd y (by omega), Or.inl rfl⟩)
  intro d4
  induction d4 using Nat.strongRecOn with
  | _ d4 ih4 =>
  intro a1 g hd4 ha1 hg hD
  refine g_iload_n (pc' := 5) hE 0 rfl rfl dX9_deepest_4 rfl ?_
  refine g_aload_n (pc' := 6) hE 2 rfl rfl dX9_deepest_5 rfl ?_
  refine g_get (pc' := 9) hE gcX9 0 rfl 8 (by decide) rfl kX9_203 dX9_deepest_6 rfl ?_
  refine g_icmpN_gt (pc' := 12) (tgt := 52) hE (by omega) (by omega) dX9_deepest_9 rfl rfl (fun hc9 => ?_) (fun hc9 => ?_)
  · have hg1 := hD.1
    refine g_iload_n (pc' := 53) hE 1 rfl rfl dX9_deepest_52 rfl ?_
    refine g_iconst (pc' := 54) hE (nI 1) (by decide) dX9_deepest_53 rfl ?_
    refine g_isub (pc' := 55) hE dX9_deepest_54 rfl ?_
    refine g_eqi (show _ = nI (g - 1) from pk_sub (by omega)) ?_
    exact hE.iret (⟨rfl, g, rfl, hD.done (by omega)⟩) (Nat.zero_le _) (Nat.zero_le _) dX9_deepest_55
  · refine g_iconst (pc' := 13) hE (nI 0) (by decide) dX9_deepest_12 rfl ?_
    refine g_istore_n (pc' := 14) hE [(3, .int (nI 0)), (2, .int (nI a1)), (1, .int (nI g)), (0, .ref mo)] dX9_deepest_13 rfl rfl (by decide) rfl ?_
    refine (show ∀ (d14 : Nat) (a2 : Nat) (g2 : Nat), a1 - a2 = d14 → (a2 ≤ a1) → (g2 ≤ 50000) → (DeepI a1 a2 f_apart g2) → G l E D 4 0 0 [(mo, .inr (8, [.int (nI v_thrown), .ref r_tape, .int (nI v_taped), .ref r_output, .ref r_draft, .int (nI v_written), .int (nI v_error), .int (nI v_stands), .int (nI v_many), .ref r_letters, .ref r_name, .ref r_kind, .ref r_vary, .ref r_flag, .ref r_rest, .ref r_more, .ref r_one, .ref r_two, .ref r_begin, .ref r_partName, .ref r_partType, .ref r_partNumber, .int (nI v_nextMany), .int (nI v_nextParts), .ref r_nextName, .ref r_nextKind, .ref r_nextVary, .ref r_nextFlag, .ref r_nextRest, .ref r_nextMore, .ref r_nextOne, .ref r_nextTwo, .ref r_nextBegin, .ref r_nextPartName, .ref r_nextPartType, .ref r_nextPartNumber, .ref r_apart, .ref r_leader, .ref r_number, .int (nI v_classes), .int (nI v_stringsAt), .int (nI v_stringsEnd), .ref r_way, .ref r_seen, .int (nI v_drafted), .ref r_told, .ref r_toldAt, .int (nI v_tolds), .int (nI v_stringsSize)])), (r_apart, .inl (T 0, 40804, .inl (fun z9 => nI (f_apart z9))))] [(3, .int (nI a2)), (2, .int (nI a1)), (1, .int (nI g2)), (0, .ref mo)] 14 [] from ?_) _ 0 g rfl (by omega) hg hD
    intro d14
    induction d14 using Nat.strongRecOn with
    | _ d14 ih14 =>
    intro a2 g2 hd14 ha2 hg2 hD2
    refine g_iload_n (pc' := 15) hE 0 rfl rfl dX9_deepest_14 rfl ?_
    refine g_iload_n (pc' := 16) hE 1 rfl rfl dX9_deepest_15 rfl ?_
    refine g_icmpN_ge (pc' := 19) (tgt := 46) hE (by omega) (by omega) dX9_deepest_16 rfl rfl (fun hc16 => ?_) (fun hc16 => ?_)
    · refine g_iinc (pc' := 49) hE (nI (a1 + 1)) [(2, .int (nI (a1 + 1))), (3, .int (nI a2)), (1, .int (nI g2)), (0, .ref mo)] 1 rfl dX9_deepest_46 rfl (g_incN _ 1) (by decide) rfl ?_
      refine g_goto (tgt := 4) hE dX9_deepest_49 rfl ?_
      refine g_lv [0, 2, 3] (lv' := [(2, .int (nI (a1 + 1))), (1, .int (nI g2)), (0, .ref mo)]) rfl ?_
      exact ih4 _ (by omega) (a1 + 1) g2 rfl (by omega) hg2 (hD2.up (by omega))
    · have hA9 := hA a1 a2 (by omega) (by omega)
      refine g_aload_n (pc' := 20) hE 3 rfl rfl dX9_deepest_19 rfl ?_
      refine g_iload_n (pc' := 21) hE 1 rfl rfl dX9_deepest_20 rfl ?_
      refine g_iload_n (pc' := 22) hE 0 rfl rfl dX9_deepest_21 rfl ?_
      refine g_callV (pc' := 25) (As := [.int (nI a1), .int (nI a2)]) (rest := []) hE (qX9_depth l D T mo r_tape r_output r_draft r_letters r_name r_kind r_vary r_flag r_rest r_more r_one r_two r_begin r_partName r_partType r_partNumber r_nextName r_nextKind r_nextVary r_nextFlag r_nextRest r_nextMore r_nextOne r_nextTwo r_nextBegin r_nextPartName r_nextPartType r_nextPartNumber r_apart r_leader r_number r_way r_seen r_told r_toldAt v_thrown v_taped v_written v_error v_stands v_many v_nextMany v_nextParts v_classes v_stringsAt v_stringsEnd v_drafted v_tolds v_stringsSize f_apart a1 a2 (by omega) (by omega)) mX9_depth kX9_212 iX9_depth sX9_depth (by decide) rfl (by decide) 0 rfl rfl [0, 1] rfl (by decide) rfl (Nat.le_of_ble_eq_true rfl) dX9_deepest_22 rfl (gBackR [0, 1] rfl ?_)
      rintro _ rfl
      refine g_st (st' := [.int (nI (f_apart (202 * a1 + a2)))]) rfl ?_
      refine g_iload_n (pc' := 26) hE 2 rfl rfl dX9_deepest_25 rfl ?_
      refine g_icmpN_le (pc' := 29) (tgt := 38) hE (by omega) (by omega) dX9_deepest_26 rfl rfl (fun hc26 => ?_) (fun hc26 => ?_)
      · refine g_iload_n (pc' := 39) hE 2 rfl rfl dX9_deepest_38 rfl ?_
        refine g_istore_n (pc' := 40) hE [(1, .int (nI g2)), (3, .int (nI a2)), (2, .int (nI a1)), (0, .ref mo)] dX9_deepest_39 rfl rfl (by decide) rfl ?_
        refine g_iinc (pc' := 43) hE (nI (a2 + 1)) [(3, .int (nI (a2 + 1))), (1, .int (nI g2)), (2, .int (nI a1)), (0, .ref mo)] 1 rfl dX9_deepest_40 rfl (g_incN _ 1) (by decide) rfl ?_
        refine g_goto (tgt := 14) hE dX9_deepest_43 rfl ?_
        refine g_lv [0, 2, 1, 3] (lv' := [(3, .int (nI (a2 + 1))), (2, .int (nI a1)), (1, .int (nI g2)), (0, .ref mo)]) rfl ?_
        exact ih14 _ (by omega) (a2 + 1) g2 rfl (by omega) (by omega) (hD2.step (by omega) (by first | rw [if_pos (by omega)] | rw [if_neg (by omega)]))
      · refine g_aload_n (pc' := 30) hE 3 rfl rfl dX9_deepest_29 rfl ?_
        refine g_iload_n (pc' := 31) hE 1 rfl rfl dX9_deepest_30 rfl ?_
        refine g_iload_n (pc' := 32) hE 0 rfl rfl dX9_deepest_31 rfl ?_
        refine g_callV (pc' := 35) (As := [.int (nI a1), .int (nI a2)]) (rest := []) hE (qX9_depth l D T mo r_tape r_output r_draft r_letters r_name r_kind r_vary r_flag r_rest r_more r_one r_two r_begin r_partName r_partType r_partNumber r_nextName r_nextKind r_nextVary r_nextFlag r_nextRest r_nextMore r_nextOne r_nextTwo r_nextBegin r_nextPartName r_nextPartType r_nextPartNumber r_apart r_leader r_number r_way r_seen r_told r_toldAt v_thrown v_taped v_written v_error v_stands v_many v_nextMany v_nextParts v_classes v_stringsAt v_stringsEnd v_drafted v_tolds v_stringsSize f_apart a1 a2 (by omega) (by omega)) mX9_depth kX9_212 iX9_depth sX9_depth (by decide) rfl (by decide) 0 rfl rfl [0, 1] rfl (by decide) rfl (Nat.le_of_ble_eq_true rfl) dX9_deepest_32 rfl (gBackR [0, 1] rfl ?_)
        rintro _ rfl
        refine g_st (st' := [.int (nI (f_apart (202 * a1 + a2)))]) rfl ?_
        refine g_goto (tgt := 39) hE dX9_deepest_35 rfl ?_
        refine g_istore_n (pc' := 40) hE [(1, .int (nI (f_apart (202 * a1 + a2)))), (3, .int (nI a2)), (2, .int (nI a1)), (0, .ref mo)] dX9_deepest_39 rfl rfl (by decide) rfl ?_
        refine g_iinc (pc' := 43) hE (nI (a2 + 1)) [(3, .int (nI (a2 + 1))), (1, .int (nI (f_apart (202 * a1 + a2)))), (2, .int (nI a1)), (0, .ref mo)] 1 rfl dX9_deepest_40 rfl (g_incN _ 1) (by decide) rfl ?_
        refine g_goto (tgt := 14) hE dX9_deepest_43 rfl ?_
        refine g_lv [0, 2, 1, 3] (lv' := [(3, .int (nI (a2 + 1))), (2, .int (nI a1)), (1, .int (nI (f_apart (202 * a1 + a2)))), (0, .ref mo)]) rfl ?_
        exact ih14 _ (by omega) (a2 + 1) (f_apart (202 * a1 + a2)) rfl (by omega) (by omega) (hD2.step (by omega) (by first | rw [if_pos (by omega)] | rw [if_neg (by omega)]))

set_option maxHeartbeats 4000000 in
set_option maxRecDepth 100000 in
theorem qX9_look (l : Launch) (D : va_G) (T : Nat → ClassId) (mo r_tape r_output r_draft r_letters r_name r_kind r_vary r_flag r_rest r_more r_one r_two r_begin r_partName r_partType r_partNumber r_nextName r_nextKind r_nextVary r_nextFlag r_nextRest r_nextMore r_nextOne r_nextTwo r_nextBegin r_nextPartName r_nextPartType r_nextPartNumber r_apart r_leader r_number r_way r_seen r_told r_toldAt v_thrown v_taped v_written v_error v_stands v_many v_nextMany v_nextParts v_classes v_stringsAt v_stringsEnd v_drafted v_tolds v_stringsSize : Nat) (f_apart : Nat → Nat) (w : Nat) (hm : v_many ≤ 200) (hA : ∀ a b, a ≤ v_many → b ≤ v_many → f_apart (202 * a + b) ≤ 50000) (hw : w ≤ 6) : Con l D T yX9_look cX9_look 2 (some .int) 2 0 0 [.ref mo, .int (nI w)] [(mo, .inr (8, [.int (nI v_thrown), .ref r_tape, .int (nI v_taped), .ref r_output, .ref r_draft, .int (nI v_written), .int (nI v_error), .int (nI v_stands), .int (nI v_many), .ref r_letters, .ref r_name, .ref r_kind, .ref r_vary, .ref r_flag, .ref r_rest, .ref r_more, .ref r_one, .ref r_two, .ref r_begin, .ref r_partName, .ref r_partType, .ref r_partNumber, .int (nI v_nextMany), .int (nI v_nextParts), .ref r_nextName, .ref r_nextKind, .ref r_nextVary, .ref r_nextFlag, .ref r_nextRest, .ref r_nextMore, .ref r_nextOne, .ref r_nextTwo, .ref r_nextBegin, .ref r_nextPartName, .ref r_nextPartType, .ref r_nextPartNumber, .ref r_apart, .ref r_leader, .ref r_number, .int (nI v_classes), .int (nI v_stringsAt), .int (nI v_stringsEnd), .ref r_way, .ref r_seen, .int (nI v_drafted), .ref r_told, .ref r_toldAt, .int (nI v_tolds), .int (nI v_stringsSize)])), (r_apart, .inl (T 0, 40804, .inl (fun z9 => nI (f_apart z9))))] (fun v w1 => w1 = [(mo, .inr (8, [.int (nI 0), .ref r_tape, .int (nI v_taped), .ref r_output, .ref r_draft, .int (nI v_written), .int (nI v_error), .int (nI v_stands), .int (nI v_many), .ref r_letters, .ref r_name, .ref r_kind, .ref r_vary, .ref r_flag, .ref r_rest, .ref r_more, .ref r_one, .ref r_two, .ref r_begin, .ref r_partName, .ref r_partType, .ref r_partNumber, .int (nI v_nextMany), .int (nI v_nextParts), .ref r_nextName, .ref r_nextKind, .ref r_nextVary, .ref r_nextFlag, .ref r_nextRest, .ref r_nextMore, .ref r_nextOne, .ref r_nextTwo, .ref r_nextBegin, .ref r_nextPartName, .ref r_nextPartType, .ref r_nextPartNumber, .ref r_apart, .ref r_leader, .ref r_number, .int (nI v_classes), .int (nI v_stringsAt), .int (nI v_stringsEnd), .ref r_way, .ref r_seen, .int (nI v_drafted), .ref r_told, .ref r_toldAt, .int (nI v_tolds), .int (nI v_stringsSize)])), (r_apart, .inl (T 0, 40804, .inl (fun z9 => nI (f_apart z9))))] ∧ ∃ r : Nat, v = some (.int (nI r)) ∧ ((w = 0 ∧ r = v_many) ∨ (w = 1 ∧ r = v_classes) ∨ (w = 2 ∧ r = v_taped) ∨ (w = 3 ∧ r = v_written) ∨ (w = 4 ∧ r = v_error) ∨ (w = 5 ∧ r = v_stands) ∨ (w = 6 ∧ ∃ g, r = g - 1 ∧ Deep v_many f_apart g))) := by
  refine Con.of (by decide) (Nat.le_of_ble_eq_true rfl) ?_
  intro E hE
  refine g_lv (lv' := [(0, .ref mo), (1, .int (nI w))]) [0, 1] rfl ?_
  refine g_aload_n (pc' := 1) hE 0 rfl rfl dX9_look_0 rfl ?_
  refine g_iload_n (pc' := 2) hE 1 rfl rfl dX9_look_1 rfl ?_
  refine g_i2l (pc' := 3) hE (lN w) (nI_l (by omega)) dX9_look_2 rfl ?_
  refine g_lconst (pc' := 4) hE (lN 0) (by decide) dX9_look_3 rfl ?_
  refine g_ldc2 (pc' := 7) hE (v := lN 6) kX9_248 dX9_look_4 rfl ?_
  refine g_callS (pc' := 10) (As := [.long (lN w), .long (lN 0), .long (lN 6)]) (rest := [.ref mo]) hE (qX9_in l D T (lN w) (lN 0) (lN 6)) mX9_in kX9_174 iX9_in (by decide) rfl (by decide) [] rfl (by decide) rfl (Nat.le_of_ble_eq_true rfl) dX9_look_7 rfl (gBackR [] rfl ?_)
  rintro _ rfl
  refine g_st (st' := [.int (bI (inB (lN w) (lN 0) (lN 6))), .ref mo]) rfl ?_
  refine g_ifB_ne (pc' := 13) (tgt := 17) hE dX9_look_10 rfl rfl (fun hc10 => ?_) (fun hc10 => ?_)
  rotate_left
  · (rw [inB_N (by omega) (by omega) (by omega)] at hc10; exact absurd (of_decide_eq_false hc10) (by omega))
  refine g_iconst (pc' := 18) hE (nI 0) (by decide) dX9_look_17 rfl ?_
  refine g_iconst (pc' := 19) hE (nI 1) (by decide) dX9_look_18 rfl ?_
  refine g_callV (pc' := 22) (As := [.int (nI 0), .int (nI 1)]) (rest := []) hE (qX9_fails l D T mo r_tape r_output r_draft r_letters r_name r_kind r_vary r_flag r_rest r_more r_one r_two r_begin r_partName r_partType r_partNumber r_nextName r_nextKind r_nextVary r_nextFlag r_nextRest r_nextMore r_nextOne r_nextTwo r_nextBegin r_nextPartName r_nextPartType r_nextPartNumber r_apart r_leader r_number r_way r_seen r_told r_toldAt v_thrown v_taped v_written v_error v_stands v_many v_nextMany v_nextParts v_classes v_stringsAt v_stringsEnd v_drafted v_tolds v_stringsSize false 1) mX9_fails kX9_233 iX9_fails sX9_fails (by decide) rfl (by decide) 0 rfl rfl [0] rfl (by decide) rfl (Nat.le_of_ble_eq_true rfl) dX9_look_19 rfl (gBackU [0] rfl (fun v w1 y => by obtain ⟨_, rfl⟩ := y; rfl) ?_)
  rintro _ _ ⟨rfl, rfl⟩
  refine g_w (ws' := [(mo, .inr (8, [.int (nI 0), .ref r_tape, .int (nI v_taped), .ref r_output, .ref r_draft, .int (nI v_written), .int (nI v_error), .int (nI v_stands), .int (nI v_many), .ref r_letters, .ref r_name, .ref r_kind, .ref r_vary, .ref r_flag, .ref r_rest, .ref r_more, .ref r_one, .ref r_two, .ref r_begin, .ref r_partName, .ref r_partType, .ref r_partNumber, .int (nI v_nextMany), .int (nI v_nextParts), .ref r_nextName, .ref r_nextKind, .ref r_nextVary, .ref r_nextFlag, .ref r_nextRest, .ref r_nextMore, .ref r_nextOne, .ref r_nextTwo, .ref r_nextBegin, .ref r_nextPartName, .ref r_nextPartType, .ref r_nextPartNumber, .ref r_apart, .ref r_leader, .ref r_number, .int (nI v_classes), .int (nI v_stringsAt), .int (nI v_stringsEnd), .ref r_way, .ref r_seen, .int (nI v_drafted), .ref r_told, .ref r_toldAt, .int (nI v_tolds), .int (nI v_stringsSize)])), (r_apart, .inl (T 0, 40804, .inl (fun z9 => nI (f_apart z9))))]) (rfl) ?_
  refine g_st (st' := [.int (bI false)]) rfl ?_
  refine g_ifB_eq (pc' := 25) (tgt := 27) hE dX9_look_22 rfl rfl (fun hc22 => ?_) (fun hc22 => ?_)
  rotate_left
  · exact absurd hc22 (by decide)
  refine g_iload_n (pc' := 28) hE 1 rfl rfl dX9_look_27 rfl ?_
  have hs28_68 : (w = 0) → G l E D 2 0 0 [(mo, .inr (8, [.int (nI 0), .ref r_tape, .int (nI v_taped), .ref r_output, .ref r_draft, .int (nI v_written), .int (nI v_error), .int (nI v_stands), .int (nI v_many), .ref r_letters, .ref r_name, .ref r_kind, .ref r_vary, .ref r_flag, .ref r_rest, .ref r_more, .ref r_one, .ref r_two, .ref r_begin, .ref r_partName, .ref r_partType, .ref r_partNumber, .int (nI v_nextMany), .int (nI v_nextParts), .ref r_nextName, .ref r_nextKind, .ref r_nextVary, .ref r_nextFlag, .ref r_nextRest, .ref r_nextMore, .ref r_nextOne, .ref r_nextTwo, .ref r_nextBegin, .ref r_nextPartName, .ref r_nextPartType, .ref r_nextPartNumber, .ref r_apart, .ref r_leader, .ref r_number, .int (nI v_classes), .int (nI v_stringsAt), .int (nI v_stringsEnd), .ref r_way, .ref r_seen, .int (nI v_drafted), .ref r_told, .ref r_toldAt, .int (nI v_tolds), .int (nI v_stringsSize)])), (r_apart, .inl (T 0, 40804, .inl (fun z9 => nI (f_apart z9))))] [(0, .ref mo), (1, .int (nI w))] 68 [] := by
    intro hsw28
    refine g_aload_n (pc' := 69) hE 0 rfl rfl dX9_look_68 rfl ?_
    refine g_get (pc' := 72) hE gcX9 0 rfl 8 (by decide) rfl kX9_203 dX9_look_69 rfl ?_
    exact hE.iret (⟨rfl, _, rfl, by omega⟩) (Nat.zero_le _) (Nat.zero_le _) dX9_look_72
  have hs28_73 : (w = 1) → G l E D 2 0 0 [(mo, .inr (8, [.int (nI 0), .ref r_tape, .int (nI v_taped), .ref r_output, .ref r_draft, .int (nI v_written), .int (nI v_error), .int (nI v_stands), .int (nI v_many), .ref r_letters, .ref r_name, .ref r_kind, .ref r_vary, .ref r_flag, .ref r_rest, .ref r_more, .ref r_one, .ref r_two, .ref r_begin, .ref r_partName, .ref r_partType, .ref r_partNumber, .int (nI v_nextMany), .int (nI v_nextParts), .ref r_nextName, .ref r_nextKind, .ref r_nextVary, .ref r_nextFlag, .ref r_nextRest, .ref r_nextMore, .ref r_nextOne, .ref r_nextTwo, .ref r_nextBegin, .ref r_nextPartName, .ref r_nextPartType, .ref r_nextPartNumber, .ref r_apart, .ref r_leader, .ref r_number, .int (nI v_classes), .int (nI v_stringsAt), .int (nI v_stringsEnd), .ref r_way, .ref r_seen, .int (nI v_drafted), .ref r_told, .ref r_toldAt, .int (nI v_tolds), .int (nI v_stringsSize)])), (r_apart, .inl (T 0, 40804, .inl (fun z9 => nI (f_apart z9))))] [(0, .ref mo), (1, .int (nI w))] 73 [] := by
    intro hsw28
    refine g_aload_n (pc' := 74) hE 0 rfl rfl dX9_look_73 rfl ?_
    refine g_get (pc' := 77) hE gcX9 0 rfl 39 (by decide) rfl kX9_209 dX9_look_74 rfl ?_
    exact hE.iret (⟨rfl, _, rfl, by omega⟩) (Nat.zero_le _) (Nat.zero_le _) dX9_look_77
  have hs28_78 : (w = 2) → G l E D 2 0 0 [(mo, .inr (8, [.int (nI 0), .ref r_tape, .int (nI v_taped), .ref r_output, .ref r_draft, .int (nI v_written), .int (nI v_error), .int (nI v_stands), .int (nI v_many), .ref r_letters, .ref r_name, .ref r_kind, .ref r_vary, .ref r_flag, .ref r_rest, .ref r_more, .ref r_one, .ref r_two, .ref r_begin, .ref r_partName, .ref r_partType, .ref r_partNumber, .int (nI v_nextMany), .int (nI v_nextParts), .ref r_nextName, .ref r_nextKind, .ref r_nextVary, .ref r_nextFlag, .ref r_nextRest, .ref r_nextMore, .ref r_nextOne, .ref r_nextTwo, .ref r_nextBegin, .ref r_nextPartName, .ref r_nextPartType, .ref r_nextPartNumber, .ref r_apart, .ref r_leader, .ref r_number, .int (nI v_classes), .int (nI v_stringsAt), .int (nI v_stringsEnd), .ref r_way, .ref r_seen, .int (nI v_drafted), .ref r_told, .ref r_toldAt, .int (nI v_tolds), .int (nI v_stringsSize)])), (r_apart, .inl (T 0, 40804, .inl (fun z9 => nI (f_apart z9))))] [(0, .ref mo), (1, .int (nI w))] 78 [] := by
    intro hsw28
    refine g_aload_n (pc' := 79) hE 0 rfl rfl dX9_look_78 rfl ?_
    refine g_get (pc' := 82) hE gcX9 0 rfl 2 (by decide) rfl kX9_131 dX9_look_79 rfl ?_
    exact hE.iret (⟨rfl, _, rfl, by omega⟩) (Nat.zero_le _) (Nat.zero_le _) dX9_look_82
  have hs28_83 : (w = 3) → G l E D 2 0 0 [(mo, .inr (8, [.int (nI 0), .ref r_tape, .int (nI v_taped), .ref r_output, .ref r_draft, .int (nI v_written), .int (nI v_error), .int (nI v_stands), .int (nI v_many), .ref r_letters, .ref r_name, .ref r_kind, .ref r_vary, .ref r_flag, .ref r_rest, .ref r_more, .ref r_one, .ref r_two, .ref r_begin, .ref r_partName, .ref r_partType, .ref r_partNumber, .int (nI v_nextMany), .int (nI v_nextParts), .ref r_nextName, .ref r_nextKind, .ref r_nextVary, .ref r_nextFlag, .ref r_nextRest, .ref r_nextMore, .ref r_nextOne, .ref r_nextTwo, .ref r_nextBegin, .ref r_nextPartName, .ref r_nextPartType, .ref r_nextPartNumber, .ref r_apart, .ref r_leader, .ref r_number, .int (nI v_classes), .int (nI v_stringsAt), .int (nI v_stringsEnd), .ref r_way, .ref r_seen, .int (nI v_drafted), .ref r_told, .ref r_toldAt, .int (nI v_tolds), .int (nI v_stringsSize)])), (r_apart, .inl (T 0, 40804, .inl (fun z9 => nI (f_apart z9))))] [(0, .ref mo), (1, .int (nI w))] 83 [] := by
    intro hsw28
    refine g_aload_n (pc' := 84) hE 0 rfl rfl dX9_look_83 rfl ?_
    refine g_get (pc' := 87) hE gcX9 0 rfl 5 (by decide) rfl kX9_284 dX9_look_84 rfl ?_
    exact hE.iret (⟨rfl, _, rfl, by omega⟩) (Nat.zero_le _) (Nat.zero_le _) dX9_look_87
  have hs28_88 : (w = 4) → G l E D 2 0 0 [(mo, .inr (8, [.int (nI 0), .ref r_tape, .int (nI v_taped), .ref r_output, .ref r_draft, .int (nI v_written), .int (nI v_error), .int (nI v_stands), .int (nI v_many), .ref r_letters, .ref r_name, .ref r_kind, .ref r_vary, .ref r_flag, .ref r_rest, .ref r_more, .ref r_one, .ref r_two, .ref r_begin, .ref r_partName, .ref r_partType, .ref r_partNumber, .int (nI v_nextMany), .int (nI v_nextParts), .ref r_nextName, .ref r_nextKind, .ref r_nextVary, .ref r_nextFlag, .ref r_nextRest, .ref r_nextMore, .ref r_nextOne, .ref r_nextTwo, .ref r_nextBegin, .ref r_nextPartName, .ref r_nextPartType, .ref r_nextPartNumber, .ref r_apart, .ref r_leader, .ref r_number, .int (nI v_classes), .int (nI v_stringsAt), .int (nI v_stringsEnd), .ref r_way, .ref r_seen, .int (nI v_drafted), .ref r_told, .ref r_toldAt, .int (nI v_tolds), .int (nI v_stringsSize)])), (r_apart, .inl (T 0, 40804, .inl (fun z9 => nI (f_apart z9))))] [(0, .ref mo), (1, .int (nI w))] 88 [] := by
    intro hsw28
    refine g_aload_n (pc' := 89) hE 0 rfl rfl dX9_look_88 rfl ?_
    refine g_get (pc' := 92) hE gcX9 0 rfl 6 (by decide) rfl kX9_197 dX9_look_89 rfl ?_
    exact hE.iret (⟨rfl, _, rfl, by omega⟩) (Nat.zero_le _) (Nat.zero_le _) dX9_look_92
  have hs28_93 : (w = 5) → G l E D 2 0 0 [(mo, .inr (8, [.int (nI 0), .ref r_tape, .int (nI v_taped), .ref r_output, .ref r_draft, .int (nI v_written), .int (nI v_error), .int (nI v_stands), .int (nI v_many), .ref r_letters, .ref r_name, .ref r_kind, .ref r_vary, .ref r_flag, .ref r_rest, .ref r_more, .ref r_one, .ref r_two, .ref r_begin, .ref r_partName, .ref r_partType, .ref r_partNumber, .int (nI v_nextMany), .int (nI v_nextParts), .ref r_nextName, .ref r_nextKind, .ref r_nextVary, .ref r_nextFlag, .ref r_nextRest, .ref r_nextMore, .ref r_nextOne, .ref r_nextTwo, .ref r_nextBegin, .ref r_nextPartName, .ref r_nextPartType, .ref r_nextPartNumber, .ref r_apart, .ref r_leader, .ref r_number, .int (nI v_classes), .int (nI v_stringsAt), .int (nI v_stringsEnd), .ref r_way, .ref r_seen, .int (nI v_drafted), .ref r_told, .ref r_toldAt, .int (nI v_tolds), .int (nI v_stringsSize)])), (r_apart, .inl (T 0, 40804, .inl (fun z9 => nI (f_apart z9))))] [(0, .ref mo), (1, .int (nI w))] 93 [] := by
    intro hsw28
    refine g_aload_n (pc' := 94) hE 0 rfl rfl dX9_look_93 rfl ?_
    refine g_get (pc' := 97) hE gcX9 0 rfl 7 (by decide) rfl kX9_122 dX9_look_94 rfl ?_
    exact hE.iret (⟨rfl, _, rfl, by omega⟩) (Nat.zero_le _) (Nat.zero_le _) dX9_look_97
  have hs28_98 : (w ≠ 0 ∧ w ≠ 1 ∧ w ≠ 2 ∧ w ≠ 3 ∧ w ≠ 4 ∧ w ≠ 5) → G l E D 2 0 0 [(mo, .inr (8, [.int (nI 0), .ref r_tape, .int (nI v_taped), .ref r_output, .ref r_draft, .int (nI v_written), .int (nI v_error), .int (nI v_stands), .int (nI v_many), .ref r_letters, .ref r_name, .ref r_kind, .ref r_vary, .ref r_flag, .ref r_rest, .ref r_more, .ref r_one, .ref r_two, .ref r_begin, .ref r_partName, .ref r_partType, .ref r_partNumber, .int (nI v_nextMany), .int (nI v_nextParts), .ref r_nextName, .ref r_nextKind, .ref r_nextVary, .ref r_nextFlag, .ref r_nextRest, .ref r_nextMore, .ref r_nextOne, .ref r_nextTwo, .ref r_nextBegin, .ref r_nextPartName, .ref r_nextPartType, .ref r_nextPartNumber, .ref r_apart, .ref r_leader, .ref r_number, .int (nI v_classes), .int (nI v_stringsAt), .int (nI v_stringsEnd), .ref r_way, .ref r_seen, .int (nI v_drafted), .ref r_told, .ref r_toldAt, .int (nI v_tolds), .int (nI v_stringsSize)])), (r_apart, .inl (T 0, 40804, .inl (fun z9 => nI (f_apart z9))))] [(0, .ref mo), (1, .int (nI w))] 98 [] := by
    intro hsw28
    refine g_aload_n (pc' := 99) hE 0 rfl rfl dX9_look_98 rfl ?_
    refine g_callV (pc' := 102) (As := []) (rest := []) hE (qX9_deepest l D T mo r_tape r_output r_draft r_letters r_name r_kind r_vary r_flag r_rest r_more r_one r_two r_begin r_partName r_partType r_partNumber r_nextName r_nextKind r_nextVary r_nextFlag r_nextRest r_nextMore r_nextOne r_nextTwo r_nextBegin r_nextPartName r_nextPartType r_nextPartNumber r_apart r_leader r_number r_way r_seen r_told r_toldAt 0 v_taped v_written v_error v_stands v_many v_nextMany v_nextParts v_classes v_stringsAt v_stringsEnd v_drafted v_tolds v_stringsSize f_apart hm hA) mX9_deepest kX9_287 iX9_deepest sX9_deepest (by decide) rfl (by decide) 0 rfl rfl [0, 1] rfl (by decide) rfl (Nat.le_of_ble_eq_true rfl) dX9_look_99 rfl (gBackR [0, 1] rfl ?_)
    rintro _ ⟨g, rfl, hg⟩
    refine g_st (st' := [.int (nI (g - 1))]) rfl ?_
    exact hE.iret (⟨rfl, _, rfl, Or.inr (Or.inr (Or.inr (Or.inr (Or.inr (Or.inr ⟨by omega, g, rfl, hg⟩)))))⟩) (Nat.zero_le _) (Nat.zero_le _) dX9_look_102
  rcases (show w = 0 ∨ w = 1 ∨ w = 2 ∨ w = 3 ∨ w = 4 ∨ w = 5 ∨ ((w : Nat) < 0 ∨ 5 < w) by omega) with hz | hz | hz | hz | hz | hz | hz
  · exact g_tabIn (tgt := 68) hE 0 hz (by decide) (by decide) (by decide) dX9_look_28 rfl rfl (hs28_68 (by omega))
  · exact g_tabIn (tgt := 73) hE 1 hz (by decide) (by decide) (by decide) dX9_look_28 rfl rfl (hs28_73 (by omega))
  · exact g_tabIn (tgt := 78) hE 2 hz (by decide) (by decide) (by decide) dX9_look_28 rfl rfl (hs28_78 (by omega))
  · exact g_tabIn (tgt := 83) hE 3 hz (by decide) (by decide) (by decide) dX9_look_28 rfl rfl (hs28_83 (by omega))
  · exact g_tabIn (tgt := 88) hE 4 hz (by decide) (by decide) (by decide) dX9_look_28 rfl rfl (hs28_88 (by omega))
  · exact g_tabIn (tgt := 93) hE 5 hz (by decide) (by decide) (by decide) dX9_look_28 rfl rfl (hs28_93 (by omega))
  · exact g_tabOut (tgt := 98) hE (by omega) (by omega) dX9_look_28 rfl (hs28_98 (by omega))

set_option maxHeartbeats 4000000 in
set_option maxRecDepth 100000 in
theorem qX9_lookX (l : Launch) (D : va_G) (T : Nat → ClassId) (mo r_tape r_output r_draft r_letters r_name r_kind r_vary r_flag r_rest r_more r_one r_two r_begin r_partName r_partType r_partNumber r_nextName r_nextKind r_nextVary r_nextFlag r_nextRest r_nextMore r_nextOne r_nextTwo r_nextBegin r_nextPartName r_nextPartType r_nextPartNumber r_apart r_leader r_number r_way r_seen r_told r_toldAt v_thrown v_taped v_written v_error v_stands v_many v_nextMany v_nextParts v_classes v_stringsAt v_stringsEnd v_drafted v_tolds v_stringsSize : Nat) (x : Int32) (hv : ¬ inB x.toInt64 (lN 0) (lN 6) = true) : Con l D T yX9_look cX9_look 2 (some .int) 2 0 0 [.ref mo, .int x] [(mo, .inr (8, [.int (nI v_thrown), .ref r_tape, .int (nI v_taped), .ref r_output, .ref r_draft, .int (nI v_written), .int (nI v_error), .int (nI v_stands), .int (nI v_many), .ref r_letters, .ref r_name, .ref r_kind, .ref r_vary, .ref r_flag, .ref r_rest, .ref r_more, .ref r_one, .ref r_two, .ref r_begin, .ref r_partName, .ref r_partType, .ref r_partNumber, .int (nI v_nextMany), .int (nI v_nextParts), .ref r_nextName, .ref r_nextKind, .ref r_nextVary, .ref r_nextFlag, .ref r_nextRest, .ref r_nextMore, .ref r_nextOne, .ref r_nextTwo, .ref r_nextBegin, .ref r_nextPartName, .ref r_nextPartType, .ref r_nextPartNumber, .ref r_apart, .ref r_leader, .ref r_number, .int (nI v_classes), .int (nI v_stringsAt), .int (nI v_stringsEnd), .ref r_way, .ref r_seen, .int (nI v_drafted), .ref r_told, .ref r_toldAt, .int (nI v_tolds), .int (nI v_stringsSize)]))] (fun v w1 => v = some (.int (nI 0)) ∧ w1 = [(mo, .inr (8, [.int (nI 1), .ref r_tape, .int (nI v_taped), .ref r_output, .ref r_draft, .int (nI v_written), .int (nI v_error), .int (nI v_stands), .int (nI v_many), .ref r_letters, .ref r_name, .ref r_kind, .ref r_vary, .ref r_flag, .ref r_rest, .ref r_more, .ref r_one, .ref r_two, .ref r_begin, .ref r_partName, .ref r_partType, .ref r_partNumber, .int (nI v_nextMany), .int (nI v_nextParts), .ref r_nextName, .ref r_nextKind, .ref r_nextVary, .ref r_nextFlag, .ref r_nextRest, .ref r_nextMore, .ref r_nextOne, .ref r_nextTwo, .ref r_nextBegin, .ref r_nextPartName, .ref r_nextPartType, .ref r_nextPartNumber, .ref r_apart, .ref r_leader, .ref r_number, .int (nI v_classes), .int (nI v_stringsAt), .int (nI v_stringsEnd), .ref r_way, .ref r_seen, .int (nI v_drafted), .ref r_told, .ref r_toldAt, .int (nI v_tolds), .int (nI v_stringsSize)]))]) := by
  refine Con.of (by decide) (Nat.le_of_ble_eq_true rfl) ?_
  intro E hE
  refine g_lv (lv' := [(0, .ref mo), (1, .int x)]) [0, 1] rfl ?_
  refine g_aload_n (pc' := 1) hE 0 rfl rfl dX9_look_0 rfl ?_
  refine g_iload_n (pc' := 2) hE 1 rfl rfl dX9_look_1 rfl ?_
  refine g_i2l (pc' := 3) hE (x.toInt64) rfl dX9_look_2 rfl ?_
  refine g_lconst (pc' := 4) hE (lN 0) (by decide) dX9_look_3 rfl ?_
  refine g_ldc2 (pc' := 7) hE (v := lN 6) kX9_248 dX9_look_4 rfl ?_
  refine g_callS (pc' := 10) (As := [.long x.toInt64, .long (lN 0), .long (lN 6)]) (rest := [.ref mo]) hE (qX9_in l D T x.toInt64 (lN 0) (lN 6)) mX9_in kX9_174 iX9_in (by decide) rfl (by decide) [] rfl (by decide) rfl (Nat.le_of_ble_eq_true rfl) dX9_look_7 rfl (gBackR [] rfl ?_)
  rintro _ rfl
  refine g_st (st' := [.int (bI (inB x.toInt64 (lN 0) (lN 6))), .ref mo]) rfl ?_
  refine g_ifB_ne (pc' := 13) (tgt := 17) hE dX9_look_10 rfl rfl (fun hc10 => ?_) (fun hc10 => ?_)
  · exact absurd hc10 hv
  refine g_iconst (pc' := 14) hE (nI 1) (by decide) dX9_look_13 rfl ?_
  refine g_goto (tgt := 18) hE dX9_look_14 rfl ?_
  refine g_iconst (pc' := 19) hE (nI 1) (by decide) dX9_look_18 rfl ?_
  refine g_callV (pc' := 22) (As := [.int (nI 1), .int (nI 1)]) (rest := []) hE (qX9_fails l D T mo r_tape r_output r_draft r_letters r_name r_kind r_vary r_flag r_rest r_more r_one r_two r_begin r_partName r_partType r_partNumber r_nextName r_nextKind r_nextVary r_nextFlag r_nextRest r_nextMore r_nextOne r_nextTwo r_nextBegin r_nextPartName r_nextPartType r_nextPartNumber r_apart r_leader r_number r_way r_seen r_told r_toldAt v_thrown v_taped v_written v_error v_stands v_many v_nextMany v_nextParts v_classes v_stringsAt v_stringsEnd v_drafted v_tolds v_stringsSize true 1) mX9_fails kX9_233 iX9_fails sX9_fails (by decide) rfl (by decide) 0 rfl rfl [0] rfl (by decide) rfl (Nat.le_of_ble_eq_true rfl) dX9_look_19 rfl (gBackU [0] rfl (fun v w1 y => by obtain ⟨_, rfl⟩ := y; rfl) ?_)
  rintro _ _ ⟨rfl, rfl⟩
  refine g_w (ws' := [(mo, .inr (8, [.int (nI 1), .ref r_tape, .int (nI v_taped), .ref r_output, .ref r_draft, .int (nI v_written), .int (nI v_error), .int (nI v_stands), .int (nI v_many), .ref r_letters, .ref r_name, .ref r_kind, .ref r_vary, .ref r_flag, .ref r_rest, .ref r_more, .ref r_one, .ref r_two, .ref r_begin, .ref r_partName, .ref r_partType, .ref r_partNumber, .int (nI v_nextMany), .int (nI v_nextParts), .ref r_nextName, .ref r_nextKind, .ref r_nextVary, .ref r_nextFlag, .ref r_nextRest, .ref r_nextMore, .ref r_nextOne, .ref r_nextTwo, .ref r_nextBegin, .ref r_nextPartName, .ref r_nextPartType, .ref r_nextPartNumber, .ref r_apart, .ref r_leader, .ref r_number, .int (nI v_classes), .int (nI v_stringsAt), .int (nI v_stringsEnd), .ref r_way, .ref r_seen, .int (nI v_drafted), .ref r_told, .ref r_toldAt, .int (nI v_tolds), .int (nI v_stringsSize)]))]) (rfl) ?_
  refine g_st (st' := [.int (bI true)]) rfl ?_
  refine g_ifB_eq (pc' := 25) (tgt := 27) hE dX9_look_22 rfl rfl (fun hc22 => ?_) (fun hc22 => ?_)
  · exact absurd hc22 (by decide)
  refine g_iconst (pc' := 26) hE (nI 0) (by decide) dX9_look_25 rfl ?_
  exact hE.iret (⟨rfl, rfl⟩) (Nat.zero_le _) (Nat.zero_le _) dX9_look_26

set_option maxHeartbeats 4000000 in
set_option maxRecDepth 100000 in
theorem qX9_feed (l : Launch) (D : va_G) (T : Nat → ClassId) (mo r_tape r_output r_draft r_letters r_name r_kind r_vary r_flag r_rest r_more r_one r_two r_begin r_partName r_partType r_partNumber r_nextName r_nextKind r_nextVary r_nextFlag r_nextRest r_nextMore r_nextOne r_nextTwo r_nextBegin r_nextPartName r_nextPartType r_nextPartNumber r_apart r_leader r_number r_way r_seen r_told r_toldAt v_thrown v_taped v_written v_error v_stands v_many v_nextMany v_nextParts v_classes v_stringsAt v_stringsEnd v_drafted v_tolds v_stringsSize : Nat) (f_tape : Nat → Nat) (n : Nat) (x : Int64) (hn : 1 ≤ n ∧ n ≤ 8) (hc : v_taped + n ≤ 8192) : Con l D T yX9_feed cX9_feed 5 (some .int) 2 0 0 [.ref mo, .int (nI n), .long x] [(mo, .inr (8, [.int (nI v_thrown), .ref r_tape, .int (nI v_taped), .ref r_output, .ref r_draft, .int (nI v_written), .int (nI v_error), .int (nI v_stands), .int (nI v_many), .ref r_letters, .ref r_name, .ref r_kind, .ref r_vary, .ref r_flag, .ref r_rest, .ref r_more, .ref r_one, .ref r_two, .ref r_begin, .ref r_partName, .ref r_partType, .ref r_partNumber, .int (nI v_nextMany), .int (nI v_nextParts), .ref r_nextName, .ref r_nextKind, .ref r_nextVary, .ref r_nextFlag, .ref r_nextRest, .ref r_nextMore, .ref r_nextOne, .ref r_nextTwo, .ref r_nextBegin, .ref r_nextPartName, .ref r_nextPartType, .ref r_nextPartNumber, .ref r_apart, .ref r_leader, .ref r_number, .int (nI v_classes), .int (nI v_stringsAt), .int (nI v_stringsEnd), .ref r_way, .ref r_seen, .int (nI v_drafted), .ref r_told, .ref r_toldAt, .int (nI v_tolds), .int (nI v_stringsSize)])), (r_tape, .inl (T 0, 8192, .inl (fun z9 => nI (f_tape z9))))] (fun v w1 => v = some (.int (nI (v_taped + n))) ∧ w1 = [(mo, .inr (8, [.int (nI 0), .ref r_tape, .int (nI (v_taped + n)), .ref r_output, .ref r_draft, .int (nI v_written), .int (nI v_error), .int (nI v_stands), .int (nI v_many), .ref r_letters, .ref r_name, .ref r_kind, .ref r_vary, .ref r_flag, .ref r_rest, .ref r_more, .ref r_one, .ref r_two, .ref r_begin, .ref r_partName, .ref r_partType, .ref r_partNumber, .int (nI v_nextMany), .int (nI v_nextParts), .ref r_nextName, .ref r_nextKind, .ref r_nextVary, .ref r_nextFlag, .ref r_nextRest, .ref r_nextMore, .ref r_nextOne, .ref r_nextTwo, .ref r_nextBegin, .ref r_nextPartName, .ref r_nextPartType, .ref r_nextPartNumber, .ref r_apart, .ref r_leader, .ref r_number, .int (nI v_classes), .int (nI v_stringsAt), .int (nI v_stringsEnd), .ref r_way, .ref r_seen, .int (nI v_drafted), .ref r_told, .ref r_toldAt, .int (nI v_tolds), .int (nI v_stringsSize)])), (r_tape, .inl (T 0, 8192, .inl (fun z9 => nI ((app f_tape v_taped (vb x) n) z9))))]) := by
  refine Con.of (by decide) (Nat.le_of_ble_eq_true rfl) ?_
  intro E hE
  refine g_lv (lv' := [(0, .ref mo), (1, .int (nI n)), (2, .long x)]) [0, 1, 2] rfl ?_
  refine g_aload_n (pc' := 1) hE 0 rfl rfl dX9_feed_0 rfl ?_
  refine g_iload_n (pc' := 2) hE 1 rfl rfl dX9_feed_1 rfl ?_
  refine g_iconst (pc' := 3) hE (nI 1) (by decide) dX9_feed_2 rfl ?_
  refine g_icmpN_lt (pc' := 6) (tgt := 12) hE (by omega) (by omega) dX9_feed_3 rfl rfl (fun hc3 => ?_) (fun hc3 => ?_)
  · omega
  refine g_iload_n (pc' := 7) hE 1 rfl rfl dX9_feed_6 rfl ?_
  refine g_bipush (pc' := 9) hE (nI 8) (by decide) dX9_feed_7 rfl ?_
  refine g_icmpN_le (pc' := 12) (tgt := 16) hE (by omega) (by omega) dX9_feed_9 rfl rfl (fun hc9 => ?_) (fun hc9 => ?_)
  rotate_left
  · omega
  refine g_iconst (pc' := 17) hE (nI 0) (by decide) dX9_feed_16 rfl ?_
  refine g_iconst (pc' := 18) hE (nI 1) (by decide) dX9_feed_17 rfl ?_
  refine g_callV (pc' := 21) (As := [.int (nI 0), .int (nI 1)]) (rest := []) hE (qX9_fails l D T mo r_tape r_output r_draft r_letters r_name r_kind r_vary r_flag r_rest r_more r_one r_two r_begin r_partName r_partType r_partNumber r_nextName r_nextKind r_nextVary r_nextFlag r_nextRest r_nextMore r_nextOne r_nextTwo r_nextBegin r_nextPartName r_nextPartType r_nextPartNumber r_apart r_leader r_number r_way r_seen r_told r_toldAt v_thrown v_taped v_written v_error v_stands v_many v_nextMany v_nextParts v_classes v_stringsAt v_stringsEnd v_drafted v_tolds v_stringsSize false 1) mX9_fails kX9_233 iX9_fails sX9_fails (by decide) rfl (by decide) 0 rfl rfl [0] rfl (by decide) rfl (Nat.le_of_ble_eq_true rfl) dX9_feed_18 rfl (gBackU [0] rfl (fun v w1 y => by obtain ⟨_, rfl⟩ := y; rfl) ?_)
  rintro _ _ ⟨rfl, rfl⟩
  refine g_w (ws' := [(mo, .inr (8, [.int (nI 0), .ref r_tape, .int (nI v_taped), .ref r_output, .ref r_draft, .int (nI v_written), .int (nI v_error), .int (nI v_stands), .int (nI v_many), .ref r_letters, .ref r_name, .ref r_kind, .ref r_vary, .ref r_flag, .ref r_rest, .ref r_more, .ref r_one, .ref r_two, .ref r_begin, .ref r_partName, .ref r_partType, .ref r_partNumber, .int (nI v_nextMany), .int (nI v_nextParts), .ref r_nextName, .ref r_nextKind, .ref r_nextVary, .ref r_nextFlag, .ref r_nextRest, .ref r_nextMore, .ref r_nextOne, .ref r_nextTwo, .ref r_nextBegin, .ref r_nextPartName, .ref r_nextPartType, .ref r_nextPartNumber, .ref r_apart, .ref r_leader, .ref r_number, .int (nI v_classes), .int (nI v_stringsAt), .int (nI v_stringsEnd), .ref r_way, .ref r_seen, .int (nI v_drafted), .ref r_told, .ref r_toldAt, .int (nI v_tolds), .int (nI v_stringsSize)])), (r_tape, .inl (T 0, 8192, .inl (fun z9 => nI (f_tape z9))))]) (rfl) ?_
  refine g_st (st' := [.int (bI false)]) rfl ?_
  refine g_ifB_ne (pc' := 24) (tgt := 49) hE dX9_feed_21 rfl rfl (fun hc21 => ?_) (fun hc21 => ?_)
  · exact absurd hc21 (by decide)
  refine g_aload_n (pc' := 25) hE 0 rfl rfl dX9_feed_24 rfl ?_
  refine g_aload_n (pc' := 26) hE 0 rfl rfl dX9_feed_25 rfl ?_
  refine g_get (pc' := 29) hE gcX9 0 rfl 2 (by decide) rfl kX9_131 dX9_feed_26 rfl ?_
  refine g_iload_n (pc' := 30) hE 1 rfl rfl dX9_feed_29 rfl ?_
  refine g_iadd (pc' := 31) hE dX9_feed_30 rfl ?_
  refine g_eqi (show _ = nI (v_taped + n) from nI_add _ _) ?_
  refine g_sipush (pc' := 34) hE (nI 8192) (by decide) dX9_feed_31 rfl ?_
  refine g_icmpN_le (pc' := 37) (tgt := 41) hE (by omega) (by omega) dX9_feed_34 rfl rfl (fun hc34 => ?_) (fun hc34 => ?_)
  rotate_left
  · omega
  refine g_iconst (pc' := 42) hE (nI 0) (by decide) dX9_feed_41 rfl ?_
  refine g_iconst (pc' := 43) hE (nI 2) (by decide) dX9_feed_42 rfl ?_
  refine g_callV (pc' := 46) (As := [.int (nI 0), .int (nI 2)]) (rest := []) hE (qX9_fails l D T mo r_tape r_output r_draft r_letters r_name r_kind r_vary r_flag r_rest r_more r_one r_two r_begin r_partName r_partType r_partNumber r_nextName r_nextKind r_nextVary r_nextFlag r_nextRest r_nextMore r_nextOne r_nextTwo r_nextBegin r_nextPartName r_nextPartType r_nextPartNumber r_apart r_leader r_number r_way r_seen r_told r_toldAt 0 v_taped v_written v_error v_stands v_many v_nextMany v_nextParts v_classes v_stringsAt v_stringsEnd v_drafted v_tolds v_stringsSize false 2) mX9_fails kX9_233 iX9_fails sX9_fails (by decide) rfl (by decide) 0 rfl rfl [0] rfl (by decide) rfl (Nat.le_of_ble_eq_true rfl) dX9_feed_43 rfl (gBackU [0] rfl (fun v w1 y => by obtain ⟨_, rfl⟩ := y; rfl) ?_)
  rintro _ _ ⟨rfl, rfl⟩
  refine g_w (ws' := [(mo, .inr (8, [.int (nI 0), .ref r_tape, .int (nI v_taped), .ref r_output, .ref r_draft, .int (nI v_written), .int (nI v_error), .int (nI v_stands), .int (nI v_many), .ref r_letters, .ref r_name, .ref r_kind, .ref r_vary, .ref r_flag, .ref r_rest, .ref r_more, .ref r_one, .ref r_two, .ref r_begin, .ref r_partName, .ref r_partType, .ref r_partNumber, .int (nI v_nextMany), .int (nI v_nextParts), .ref r_nextName, .ref r_nextKind, .ref r_nextVary, .ref r_nextFlag, .ref r_nextRest, .ref r_nextMore, .ref r_nextOne, .ref r_nextTwo, .ref r_nextBegin, .ref r_nextPartName, .ref r_nextPartType, .ref r_nextPartNumber, .ref r_apart, .ref r_leader, .ref r_number, .int (nI v_classes), .int (nI v_stringsAt), .int (nI v_stringsEnd), .ref r_way, .ref r_seen, .int (nI v_drafted), .ref r_told, .ref r_toldAt, .int (nI v_tolds), .int (nI v_stringsSize)])), (r_tape, .inl (T 0, 8192, .inl (fun z9 => nI (f_tape z9))))]) (rfl) ?_
  refine g_st (st' := [.int (bI false)]) rfl ?_
  refine g_ifB_eq (pc' := 49) (tgt := 51) hE dX9_feed_46 rfl rfl (fun hc46 => ?_) (fun hc46 => ?_)
  rotate_left
  · exact absurd hc46 (by decide)
  refine g_iconst (pc' := 52) hE (nI 0) (by decide) dX9_feed_51 rfl ?_
  refine g_istore (pc' := 54) hE [(4, .int (nI 0)), (0, .ref mo), (1, .int (nI n)), (2, .long x)] dX9_feed_52 rfl (by decide) rfl ?_
  refine (show ∀ (d54 : Nat) (q : Nat), n - q = d54 → (q ≤ n) → G l E D 5 0 0 [(mo, .inr (8, [.int (nI 0), .ref r_tape, .int (nI v_taped), .ref r_output, .ref r_draft, .int (nI v_written), .int (nI v_error), .int (nI v_stands), .int (nI v_many), .ref r_letters, .ref r_name, .ref r_kind, .ref r_vary, .ref r_flag, .ref r_rest, .ref r_more, .ref r_one, .ref r_two, .ref r_begin, .ref r_partName, .ref r_partType, .ref r_partNumber, .int (nI v_nextMany), .int (nI v_nextParts), .ref r_nextName, .ref r_nextKind, .ref r_nextVary, .ref r_nextFlag, .ref r_nextRest, .ref r_nextMore, .ref r_nextOne, .ref r_nextTwo, .ref r_nextBegin, .ref r_nextPartName, .ref r_nextPartType, .ref r_nextPartNumber, .ref r_apart, .ref r_leader, .ref r_number, .int (nI v_classes), .int (nI v_stringsAt), .int (nI v_stringsEnd), .ref r_way, .ref r_seen, .int (nI v_drafted), .ref r_told, .ref r_toldAt, .int (nI v_tolds), .int (nI v_stringsSize)])), (r_tape, .inl (T 0, 8192, .inl (fun z9 => nI ((app f_tape v_taped (vb x) q) z9))))] [(4, .int (nI q)), (0, .ref mo), (1, .int (nI n)), (2, .long x)] 54 [] from ?_) _ 0 rfl (by omega)
  intro d54
  induction d54 using Nat.strongRecOn with
  | _ d54 ih54 =>
  intro q hd54 hq
  refine g_iload (pc' := 56) hE 0 rfl dX9_feed_54 rfl ?_
  refine g_iload_n (pc' := 57) hE 2 rfl rfl dX9_feed_56 rfl ?_
  refine g_icmpN_ge (pc' := 60) (tgt := 90) hE (by omega) (by omega) dX9_feed_57 rfl rfl (fun hc57 => ?_) (fun hc57 => ?_)
  · refine g_aload_n (pc' := 91) hE 1 rfl rfl dX9_feed_90 rfl ?_
    refine g_dup (pc' := 92) hE rfl dX9_feed_91 rfl ?_
    refine g_get (pc' := 95) hE gcX9 0 rfl 2 (by decide) rfl kX9_131 dX9_feed_92 rfl ?_
    refine g_iload_n (pc' := 96) hE 2 rfl rfl dX9_feed_95 rfl ?_
    refine g_iadd (pc' := 97) hE dX9_feed_96 rfl ?_
    refine g_eqi (show _ = nI (v_taped + n) from nI_add _ _) ?_
    refine g_put (pc' := 100) hE gcX9 0 rfl 2 [(mo, .inr (8, [.int (nI 0), .ref r_tape, .int (nI (v_taped + n)), .ref r_output, .ref r_draft, .int (nI v_written), .int (nI v_error), .int (nI v_stands), .int (nI v_many), .ref r_letters, .ref r_name, .ref r_kind, .ref r_vary, .ref r_flag, .ref r_rest, .ref r_more, .ref r_one, .ref r_two, .ref r_begin, .ref r_partName, .ref r_partType, .ref r_partNumber, .int (nI v_nextMany), .int (nI v_nextParts), .ref r_nextName, .ref r_nextKind, .ref r_nextVary, .ref r_nextFlag, .ref r_nextRest, .ref r_nextMore, .ref r_nextOne, .ref r_nextTwo, .ref r_nextBegin, .ref r_nextPartName, .ref r_nextPartType, .ref r_nextPartNumber, .ref r_apart, .ref r_leader, .ref r_number, .int (nI v_classes), .int (nI v_stringsAt), .int (nI v_stringsEnd), .ref r_way, .ref r_seen, .int (nI v_drafted), .ref r_told, .ref r_toldAt, .int (nI v_tolds), .int (nI v_stringsSize)])), (r_tape, .inl (T 0, 8192, .inl (fun z9 => nI ((app f_tape v_taped (vb x) q) z9))))] (by decide) (Nat.le_of_ble_eq_true rfl) rfl rfl rfl rfl kX9_131 dX9_feed_97 rfl ?_
    refine g_aload_n (pc' := 101) hE 1 rfl rfl dX9_feed_100 rfl ?_
    refine g_get (pc' := 104) hE gcX9 0 rfl 2 (by decide) rfl kX9_131 dX9_feed_101 rfl ?_
    exact hE.iret (⟨rfl, by rw [show q = n by omega]⟩) (Nat.zero_le _) (Nat.zero_le _) dX9_feed_104
  · refine g_aload_n (pc' := 61) hE 1 rfl rfl dX9_feed_60 rfl ?_
    refine g_get (pc' := 64) hE gcX9 0 rfl 1 (by decide) rfl kX9_7 dX9_feed_61 rfl ?_
    refine g_aload_n (pc' := 65) hE 1 rfl rfl dX9_feed_64 rfl ?_
    refine g_get (pc' := 68) hE gcX9 0 rfl 2 (by decide) rfl kX9_131 dX9_feed_65 rfl ?_
    refine g_iload (pc' := 70) hE 0 rfl dX9_feed_68 rfl ?_
    refine g_iadd (pc' := 71) hE dX9_feed_70 rfl ?_
    refine g_eqi (show _ = nI (v_taped + q) from nI_add _ _) ?_
    refine g_lload_n (pc' := 72) hE 3 rfl rfl dX9_feed_71 rfl ?_
    refine g_bipush (pc' := 74) hE (nI 8) (by decide) dX9_feed_72 rfl ?_
    refine g_iload (pc' := 76) hE 0 rfl dX9_feed_74 rfl ?_
    refine g_imul (pc' := 77) hE dX9_feed_76 rfl ?_
    refine g_eqi (show _ = nI (8 * q) from pk_mul _ _) ?_
    refine g_lshr (pc' := 78) hE (x >>> ((nI (8 * q)).toInt64 &&& 63)) rfl dX9_feed_77 rfl ?_
    refine g_ldc2 (pc' := 81) hE (v := lN 255) kX9_237 dX9_feed_78 rfl ?_
    refine g_land (pc' := 82) hE dX9_feed_81 rfl ?_
    refine g_eql (show _ = lN (vb x q) from wb_shrA x (by omega)) ?_
    refine g_l2i (pc' := 83) hE (nI (vb x q)) (lN_i _) dX9_feed_82 rfl ?_
    refine g_iast (pc' := 84) hE 1 [(mo, .inr (8, [.int (nI 0), .ref r_tape, .int (nI v_taped), .ref r_output, .ref r_draft, .int (nI v_written), .int (nI v_error), .int (nI v_stands), .int (nI v_many), .ref r_letters, .ref r_name, .ref r_kind, .ref r_vary, .ref r_flag, .ref r_rest, .ref r_more, .ref r_one, .ref r_two, .ref r_begin, .ref r_partName, .ref r_partType, .ref r_partNumber, .int (nI v_nextMany), .int (nI v_nextParts), .ref r_nextName, .ref r_nextKind, .ref r_nextVary, .ref r_nextFlag, .ref r_nextRest, .ref r_nextMore, .ref r_nextOne, .ref r_nextTwo, .ref r_nextBegin, .ref r_nextPartName, .ref r_nextPartType, .ref r_nextPartNumber, .ref r_apart, .ref r_leader, .ref r_number, .int (nI v_classes), .int (nI v_stringsAt), .int (nI v_stringsEnd), .ref r_way, .ref r_seen, .int (nI v_drafted), .ref r_told, .ref r_toldAt, .int (nI v_tolds), .int (nI v_stringsSize)])), (r_tape, .inl (T 0, 8192, .inl (fun z9 => nI ((app f_tape v_taped (vb x) (q + 1)) z9))))] rfl (by omega) (by omega) (gu_I _ _ _) rfl dX9_feed_83 rfl ?_
    refine g_iinc (pc' := 87) hE (nI (q + 1)) [(4, .int (nI (q + 1))), (0, .ref mo), (1, .int (nI n)), (2, .long x)] 0 rfl dX9_feed_84 rfl (g_incN _ 1) (by decide) rfl ?_
    refine g_goto (tgt := 54) hE dX9_feed_87 rfl ?_
    exact ih54 _ (by omega) (q + 1) rfl (by omega)

set_option maxHeartbeats 4000000 in
set_option maxRecDepth 100000 in
theorem qX9_feedX (l : Launch) (D : va_G) (T : Nat → ClassId) (mo r_tape r_output r_draft r_letters r_name r_kind r_vary r_flag r_rest r_more r_one r_two r_begin r_partName r_partType r_partNumber r_nextName r_nextKind r_nextVary r_nextFlag r_nextRest r_nextMore r_nextOne r_nextTwo r_nextBegin r_nextPartName r_nextPartType r_nextPartNumber r_apart r_leader r_number r_way r_seen r_told r_toldAt v_thrown v_taped v_written v_error v_stands v_many v_nextMany v_nextParts v_classes v_stringsAt v_stringsEnd v_drafted v_tolds v_stringsSize : Nat) (x : Int32) (y : Int64) (hv : ¬ (nI 1 ≤ x ∧ x ≤ nI 8)) : Con l D T yX9_feed cX9_feed 5 (some .int) 2 0 0 [.ref mo, .int x, .long y] [(mo, .inr (8, [.int (nI v_thrown), .ref r_tape, .int (nI v_taped), .ref r_output, .ref r_draft, .int (nI v_written), .int (nI v_error), .int (nI v_stands), .int (nI v_many), .ref r_letters, .ref r_name, .ref r_kind, .ref r_vary, .ref r_flag, .ref r_rest, .ref r_more, .ref r_one, .ref r_two, .ref r_begin, .ref r_partName, .ref r_partType, .ref r_partNumber, .int (nI v_nextMany), .int (nI v_nextParts), .ref r_nextName, .ref r_nextKind, .ref r_nextVary, .ref r_nextFlag, .ref r_nextRest, .ref r_nextMore, .ref r_nextOne, .ref r_nextTwo, .ref r_nextBegin, .ref r_nextPartName, .ref r_nextPartType, .ref r_nextPartNumber, .ref r_apart, .ref r_leader, .ref r_number, .int (nI v_classes), .int (nI v_stringsAt), .int (nI v_stringsEnd), .ref r_way, .ref r_seen, .int (nI v_drafted), .ref r_told, .ref r_toldAt, .int (nI v_tolds), .int (nI v_stringsSize)]))] (fun v w1 => v = some (.int (nI 0)) ∧ w1 = [(mo, .inr (8, [.int (nI 1), .ref r_tape, .int (nI v_taped), .ref r_output, .ref r_draft, .int (nI v_written), .int (nI v_error), .int (nI v_stands), .int (nI v_many), .ref r_letters, .ref r_name, .ref r_kind, .ref r_vary, .ref r_flag, .ref r_rest, .ref r_more, .ref r_one, .ref r_two, .ref r_begin, .ref r_partName, .ref r_partType, .ref r_partNumber, .int (nI v_nextMany), .int (nI v_nextParts), .ref r_nextName, .ref r_nextKind, .ref r_nextVary, .ref r_nextFlag, .ref r_nextRest, .ref r_nextMore, .ref r_nextOne, .ref r_nextTwo, .ref r_nextBegin, .ref r_nextPartName, .ref r_nextPartType, .ref r_nextPartNumber, .ref r_apart, .ref r_leader, .ref r_number, .int (nI v_classes), .int (nI v_stringsAt), .int (nI v_stringsEnd), .ref r_way, .ref r_seen, .int (nI v_drafted), .ref r_told, .ref r_toldAt, .int (nI v_tolds), .int (nI v_stringsSize)]))]) := by
  refine Con.of (by decide) (Nat.le_of_ble_eq_true rfl) ?_
  intro E hE
  refine g_lv (lv' := [(0, .ref mo), (1, .int x), (2, .long y)]) [0, 1, 2] rfl ?_
  refine g_aload_n (pc' := 1) hE 0 rfl rfl dX9_feed_0 rfl ?_
  refine g_iload_n (pc' := 2) hE 1 rfl rfl dX9_feed_1 rfl ?_
  refine g_iconst (pc' := 3) hE (nI 1) (by decide) dX9_feed_2 rfl ?_
  refine g_icmp_lt (pc' := 6) (tgt := 12) hE dX9_feed_3 rfl rfl (fun hc3 => ?_) (fun hc3 => ?_)
  · refine g_iconst (pc' := 13) hE (nI 1) (by decide) dX9_feed_12 rfl ?_
    refine g_goto (tgt := 17) hE dX9_feed_13 rfl ?_
    refine g_iconst (pc' := 18) hE (nI 1) (by decide) dX9_feed_17 rfl ?_
    refine g_callV (pc' := 21) (As := [.int (nI 1), .int (nI 1)]) (rest := []) hE (qX9_fails l D T mo r_tape r_output r_draft r_letters r_name r_kind r_vary r_flag r_rest r_more r_one r_two r_begin r_partName r_partType r_partNumber r_nextName r_nextKind r_nextVary r_nextFlag r_nextRest r_nextMore r_nextOne r_nextTwo r_nextBegin r_nextPartName r_nextPartType r_nextPartNumber r_apart r_leader r_number r_way r_seen r_told r_toldAt v_thrown v_taped v_written v_error v_stands v_many v_nextMany v_nextParts v_classes v_stringsAt v_stringsEnd v_drafted v_tolds v_stringsSize true 1) mX9_fails kX9_233 iX9_fails sX9_fails (by decide) rfl (by decide) 0 rfl rfl [0] rfl (by decide) rfl (Nat.le_of_ble_eq_true rfl) dX9_feed_18 rfl (gBackU [0] rfl (fun v w1 y => by obtain ⟨_, rfl⟩ := y; rfl) ?_)
    rintro _ _ ⟨rfl, rfl⟩
    refine g_w (ws' := [(mo, .inr (8, [.int (nI 1), .ref r_tape, .int (nI v_taped), .ref r_output, .ref r_draft, .int (nI v_written), .int (nI v_error), .int (nI v_stands), .int (nI v_many), .ref r_letters, .ref r_name, .ref r_kind, .ref r_vary, .ref r_flag, .ref r_rest, .ref r_more, .ref r_one, .ref r_two, .ref r_begin, .ref r_partName, .ref r_partType, .ref r_partNumber, .int (nI v_nextMany), .int (nI v_nextParts), .ref r_nextName, .ref r_nextKind, .ref r_nextVary, .ref r_nextFlag, .ref r_nextRest, .ref r_nextMore, .ref r_nextOne, .ref r_nextTwo, .ref r_nextBegin, .ref r_nextPartName, .ref r_nextPartType, .ref r_nextPartNumber, .ref r_apart, .ref r_leader, .ref r_number, .int (nI v_classes), .int (nI v_stringsAt), .int (nI v_stringsEnd), .ref r_way, .ref r_seen, .int (nI v_drafted), .ref r_told, .ref r_toldAt, .int (nI v_tolds), .int (nI v_stringsSize)]))]) (rfl) ?_
    refine g_st (st' := [.int (bI true)]) rfl ?_
    refine g_ifB_ne (pc' := 24) (tgt := 49) hE dX9_feed_21 rfl rfl (fun hc21 => ?_) (fun hc21 => ?_)
    rotate_left
    · exact absurd hc21 (by decide)
    refine g_iconst (pc' := 50) hE (nI 0) (by decide) dX9_feed_49 rfl ?_
    exact hE.iret (⟨rfl, rfl⟩) (Nat.zero_le _) (Nat.zero_le _) dX9_feed_50
  · refine g_iload_n (pc' := 7) hE 1 rfl rfl dX9_feed_6 rfl ?_
    refine g_bipush (pc' := 9) hE (nI 8) (by decide) dX9_feed_7 rfl ?_
    refine g_icmp_le (pc' := 12) (tgt := 16) hE dX9_feed_9 rfl rfl (fun hc9 => ?_) (fun hc9 => ?_)
    · exact absurd ⟨Int32.not_lt.mp hc3, hc9⟩ hv
    refine g_iconst (pc' := 13) hE (nI 1) (by decide) dX9_feed_12 rfl ?_
    refine g_goto (tgt := 17) hE dX9_feed_13 rfl ?_
    refine g_iconst (pc' := 18) hE (nI 1) (by decide) dX9_feed_17 rfl ?_
    refine g_callV (pc' := 21) (As := [.int (nI 1), .int (nI 1)]) (rest := []) hE (qX9_fails l D T mo r_tape r_output r_draft r_letters r_name r_kind r_vary r_flag r_rest r_more r_one r_two r_begin r_partName r_partType r_partNumber r_nextName r_nextKind r_nextVary r_nextFlag r_nextRest r_nextMore r_nextOne r_nextTwo r_nextBegin r_nextPartName r_nextPartType r_nextPartNumber r_apart r_leader r_number r_way r_seen r_told r_toldAt v_thrown v_taped v_written v_error v_stands v_many v_nextMany v_nextParts v_classes v_stringsAt v_stringsEnd v_drafted v_tolds v_stringsSize true 1) mX9_fails kX9_233 iX9_fails sX9_fails (by decide) rfl (by decide) 0 rfl rfl [0] rfl (by decide) rfl (Nat.le_of_ble_eq_true rfl) dX9_feed_18 rfl (gBackU [0] rfl (fun v w1 y => by obtain ⟨_, rfl⟩ := y; rfl) ?_)
    rintro _ _ ⟨rfl, rfl⟩
    refine g_w (ws' := [(mo, .inr (8, [.int (nI 1), .ref r_tape, .int (nI v_taped), .ref r_output, .ref r_draft, .int (nI v_written), .int (nI v_error), .int (nI v_stands), .int (nI v_many), .ref r_letters, .ref r_name, .ref r_kind, .ref r_vary, .ref r_flag, .ref r_rest, .ref r_more, .ref r_one, .ref r_two, .ref r_begin, .ref r_partName, .ref r_partType, .ref r_partNumber, .int (nI v_nextMany), .int (nI v_nextParts), .ref r_nextName, .ref r_nextKind, .ref r_nextVary, .ref r_nextFlag, .ref r_nextRest, .ref r_nextMore, .ref r_nextOne, .ref r_nextTwo, .ref r_nextBegin, .ref r_nextPartName, .ref r_nextPartType, .ref r_nextPartNumber, .ref r_apart, .ref r_leader, .ref r_number, .int (nI v_classes), .int (nI v_stringsAt), .int (nI v_stringsEnd), .ref r_way, .ref r_seen, .int (nI v_drafted), .ref r_told, .ref r_toldAt, .int (nI v_tolds), .int (nI v_stringsSize)]))]) (rfl) ?_
    refine g_st (st' := [.int (bI true)]) rfl ?_
    refine g_ifB_ne (pc' := 24) (tgt := 49) hE dX9_feed_21 rfl rfl (fun hc21 => ?_) (fun hc21 => ?_)
    rotate_left
    · exact absurd hc21 (by decide)
    refine g_iconst (pc' := 50) hE (nI 0) (by decide) dX9_feed_49 rfl ?_
    exact hE.iret (⟨rfl, rfl⟩) (Nat.zero_le _) (Nat.zero_le _) dX9_feed_50

set_option maxHeartbeats 4000000 in
set_option maxRecDepth 100000 in
theorem qX9_feedY (l : Launch) (D : va_G) (T : Nat → ClassId) (mo r_tape r_output r_draft r_letters r_name r_kind r_vary r_flag r_rest r_more r_one r_two r_begin r_partName r_partType r_partNumber r_nextName r_nextKind r_nextVary r_nextFlag r_nextRest r_nextMore r_nextOne r_nextTwo r_nextBegin r_nextPartName r_nextPartType r_nextPartNumber r_apart r_leader r_number r_way r_seen r_told r_toldAt v_thrown v_taped v_written v_error v_stands v_many v_nextMany v_nextParts v_classes v_stringsAt v_stringsEnd v_drafted v_tolds v_stringsSize : Nat) (n : Nat) (y : Int64) (hn : 1 ≤ n ∧ n ≤ 8) (ht : v_taped ≤ 8192) (hc : 8192 < v_taped + n) : Con l D T yX9_feed cX9_feed 5 (some .int) 2 0 0 [.ref mo, .int (nI n), .long y] [(mo, .inr (8, [.int (nI v_thrown), .ref r_tape, .int (nI v_taped), .ref r_output, .ref r_draft, .int (nI v_written), .int (nI v_error), .int (nI v_stands), .int (nI v_many), .ref r_letters, .ref r_name, .ref r_kind, .ref r_vary, .ref r_flag, .ref r_rest, .ref r_more, .ref r_one, .ref r_two, .ref r_begin, .ref r_partName, .ref r_partType, .ref r_partNumber, .int (nI v_nextMany), .int (nI v_nextParts), .ref r_nextName, .ref r_nextKind, .ref r_nextVary, .ref r_nextFlag, .ref r_nextRest, .ref r_nextMore, .ref r_nextOne, .ref r_nextTwo, .ref r_nextBegin, .ref r_nextPartName, .ref r_nextPartType, .ref r_nextPartNumber, .ref r_apart, .ref r_leader, .ref r_number, .int (nI v_classes), .int (nI v_stringsAt), .int (nI v_stringsEnd), .ref r_way, .ref r_seen, .int (nI v_drafted), .ref r_told, .ref r_toldAt, .int (nI v_tolds), .int (nI v_stringsSize)]))] (fun v w1 => v = some (.int (nI 0)) ∧ w1 = [(mo, .inr (8, [.int (nI 2), .ref r_tape, .int (nI v_taped), .ref r_output, .ref r_draft, .int (nI v_written), .int (nI v_error), .int (nI v_stands), .int (nI v_many), .ref r_letters, .ref r_name, .ref r_kind, .ref r_vary, .ref r_flag, .ref r_rest, .ref r_more, .ref r_one, .ref r_two, .ref r_begin, .ref r_partName, .ref r_partType, .ref r_partNumber, .int (nI v_nextMany), .int (nI v_nextParts), .ref r_nextName, .ref r_nextKind, .ref r_nextVary, .ref r_nextFlag, .ref r_nextRest, .ref r_nextMore, .ref r_nextOne, .ref r_nextTwo, .ref r_nextBegin, .ref r_nextPartName, .ref r_nextPartType, .ref r_nextPartNumber, .ref r_apart, .ref r_leader, .ref r_number, .int (nI v_classes), .int (nI v_stringsAt), .int (nI v_stringsEnd), .ref r_way, .ref r_seen, .int (nI v_drafted), .ref r_told, .ref r_toldAt, .int (nI v_tolds), .int (nI v_stringsSize)]))]) := by
  refine Con.of (by decide) (Nat.le_of_ble_eq_true rfl) ?_
  intro E hE
  refine g_lv (lv' := [(0, .ref mo), (1, .int (nI n)), (2, .long y)]) [0, 1, 2] rfl ?_
  refine g_aload_n (pc' := 1) hE 0 rfl rfl dX9_feed_0 rfl ?_
  refine g_iload_n (pc' := 2) hE 1 rfl rfl dX9_feed_1 rfl ?_
  refine g_iconst (pc' := 3) hE (nI 1) (by decide) dX9_feed_2 rfl ?_
  refine g_icmpN_lt (pc' := 6) (tgt := 12) hE (by omega) (by omega) dX9_feed_3 rfl rfl (fun hc3 => ?_) (fun hc3 => ?_)
  · omega
  refine g_iload_n (pc' := 7) hE 1 rfl rfl dX9_feed_6 rfl ?_
  refine g_bipush (pc' := 9) hE (nI 8) (by decide) dX9_feed_7 rfl ?_
  refine g_icmpN_le (pc' := 12) (tgt := 16) hE (by omega) (by omega) dX9_feed_9 rfl rfl (fun hc9 => ?_) (fun hc9 => ?_)
  rotate_left
  · omega
  refine g_iconst (pc' := 17) hE (nI 0) (by decide) dX9_feed_16 rfl ?_
  refine g_iconst (pc' := 18) hE (nI 1) (by decide) dX9_feed_17 rfl ?_
  refine g_callV (pc' := 21) (As := [.int (nI 0), .int (nI 1)]) (rest := []) hE (qX9_fails l D T mo r_tape r_output r_draft r_letters r_name r_kind r_vary r_flag r_rest r_more r_one r_two r_begin r_partName r_partType r_partNumber r_nextName r_nextKind r_nextVary r_nextFlag r_nextRest r_nextMore r_nextOne r_nextTwo r_nextBegin r_nextPartName r_nextPartType r_nextPartNumber r_apart r_leader r_number r_way r_seen r_told r_toldAt v_thrown v_taped v_written v_error v_stands v_many v_nextMany v_nextParts v_classes v_stringsAt v_stringsEnd v_drafted v_tolds v_stringsSize false 1) mX9_fails kX9_233 iX9_fails sX9_fails (by decide) rfl (by decide) 0 rfl rfl [0] rfl (by decide) rfl (Nat.le_of_ble_eq_true rfl) dX9_feed_18 rfl (gBackU [0] rfl (fun v w1 y => by obtain ⟨_, rfl⟩ := y; rfl) ?_)
  rintro _ _ ⟨rfl, rfl⟩
  refine g_w (ws' := [(mo, .inr (8, [.int (nI 0), .ref r_tape, .int (nI v_taped), .ref r_output, .ref r_draft, .int (nI v_written), .int (nI v_error), .int (nI v_stands), .int (nI v_many), .ref r_letters, .ref r_name, .ref r_kind, .ref r_vary, .ref r_flag, .ref r_rest, .ref r_more, .ref r_one, .ref r_two, .ref r_begin, .ref r_partName, .ref r_partType, .ref r_partNumber, .int (nI v_nextMany), .int (nI v_nextParts), .ref r_nextName, .ref r_nextKind, .ref r_nextVary, .ref r_nextFlag, .ref r_nextRest, .ref r_nextMore, .ref r_nextOne, .ref r_nextTwo, .ref r_nextBegin, .ref r_nextPartName, .ref r_nextPartType, .ref r_nextPartNumber, .ref r_apart, .ref r_leader, .ref r_number, .int (nI v_classes), .int (nI v_stringsAt), .int (nI v_stringsEnd), .ref r_way, .ref r_seen, .int (nI v_drafted), .ref r_told, .ref r_toldAt, .int (nI v_tolds), .int (nI v_stringsSize)]))]) (rfl) ?_
  refine g_st (st' := [.int (bI false)]) rfl ?_
  refine g_ifB_ne (pc' := 24) (tgt := 49) hE dX9_feed_21 rfl rfl (fun hc21 => ?_) (fun hc21 => ?_)
  · exact absurd hc21 (by decide)
  refine g_aload_n (pc' := 25) hE 0 rfl rfl dX9_feed_24 rfl ?_
  refine g_aload_n (pc' := 26) hE 0 rfl rfl dX9_feed_25 rfl ?_
  refine g_get (pc' := 29) hE gcX9 0 rfl 2 (by decide) rfl kX9_131 dX9_feed_26 rfl ?_
  refine g_iload_n (pc' := 30) hE 1 rfl rfl dX9_feed_29 rfl ?_
  refine g_iadd (pc' := 31) hE dX9_feed_30 rfl ?_
  refine g_eqi (show _ = nI (v_taped + n) from nI_add _ _) ?_
  refine g_sipush (pc' := 34) hE (nI 8192) (by decide) dX9_feed_31 rfl ?_
  refine g_icmpN_le (pc' := 37) (tgt := 41) hE (by omega) (by omega) dX9_feed_34 rfl rfl (fun hc34 => ?_) (fun hc34 => ?_)
  · omega
  refine g_iconst (pc' := 38) hE (nI 1) (by decide) dX9_feed_37 rfl ?_
  refine g_goto (tgt := 42) hE dX9_feed_38 rfl ?_
  refine g_iconst (pc' := 43) hE (nI 2) (by decide) dX9_feed_42 rfl ?_
  refine g_callV (pc' := 46) (As := [.int (nI 1), .int (nI 2)]) (rest := []) hE (qX9_fails l D T mo r_tape r_output r_draft r_letters r_name r_kind r_vary r_flag r_rest r_more r_one r_two r_begin r_partName r_partType r_partNumber r_nextName r_nextKind r_nextVary r_nextFlag r_nextRest r_nextMore r_nextOne r_nextTwo r_nextBegin r_nextPartName r_nextPartType r_nextPartNumber r_apart r_leader r_number r_way r_seen r_told r_toldAt 0 v_taped v_written v_error v_stands v_many v_nextMany v_nextParts v_classes v_stringsAt v_stringsEnd v_drafted v_tolds v_stringsSize true 2) mX9_fails kX9_233 iX9_fails sX9_fails (by decide) rfl (by decide) 0 rfl rfl [0] rfl (by decide) rfl (Nat.le_of_ble_eq_true rfl) dX9_feed_43 rfl (gBackU [0] rfl (fun v w1 y => by obtain ⟨_, rfl⟩ := y; rfl) ?_)
  rintro _ _ ⟨rfl, rfl⟩
  refine g_w (ws' := [(mo, .inr (8, [.int (nI 2), .ref r_tape, .int (nI v_taped), .ref r_output, .ref r_draft, .int (nI v_written), .int (nI v_error), .int (nI v_stands), .int (nI v_many), .ref r_letters, .ref r_name, .ref r_kind, .ref r_vary, .ref r_flag, .ref r_rest, .ref r_more, .ref r_one, .ref r_two, .ref r_begin, .ref r_partName, .ref r_partType, .ref r_partNumber, .int (nI v_nextMany), .int (nI v_nextParts), .ref r_nextName, .ref r_nextKind, .ref r_nextVary, .ref r_nextFlag, .ref r_nextRest, .ref r_nextMore, .ref r_nextOne, .ref r_nextTwo, .ref r_nextBegin, .ref r_nextPartName, .ref r_nextPartType, .ref r_nextPartNumber, .ref r_apart, .ref r_leader, .ref r_number, .int (nI v_classes), .int (nI v_stringsAt), .int (nI v_stringsEnd), .ref r_way, .ref r_seen, .int (nI v_drafted), .ref r_told, .ref r_toldAt, .int (nI v_tolds), .int (nI v_stringsSize)]))]) (rfl) ?_
  refine g_st (st' := [.int (bI true)]) rfl ?_
  refine g_ifB_eq (pc' := 49) (tgt := 51) hE dX9_feed_46 rfl rfl (fun hc46 => ?_) (fun hc46 => ?_)
  · exact absurd hc46 (by decide)
  refine g_iconst (pc' := 50) hE (nI 0) (by decide) dX9_feed_49 rfl ?_
  exact hE.iret (⟨rfl, rfl⟩) (Nat.zero_le _) (Nat.zero_le _) dX9_feed_50

set_option maxHeartbeats 4000000 in
set_option maxRecDepth 100000 in
theorem qX9_out (l : Launch) (D : va_G) (T : Nat → ClassId) (mo r_tape r_output r_draft r_letters r_name r_kind r_vary r_flag r_rest r_more r_one r_two r_begin r_partName r_partType r_partNumber r_nextName r_nextKind r_nextVary r_nextFlag r_nextRest r_nextMore r_nextOne r_nextTwo r_nextBegin r_nextPartName r_nextPartType r_nextPartNumber r_apart r_leader r_number r_way r_seen r_told r_toldAt v_thrown v_taped v_written v_error v_stands v_many v_nextMany v_nextParts v_classes v_stringsAt v_stringsEnd v_drafted v_tolds v_stringsSize : Nat) (f_output : Nat → Nat) (k : Nat) (hb : ∀ i, f_output i < 256) (hw : v_written ≤ 16384) (hk : k < v_written) : Con l D T yX9_out cX9_out 5 (some .long) 2 0 0 [.ref mo, .int (nI k)] [(mo, .inr (8, [.int (nI v_thrown), .ref r_tape, .int (nI v_taped), .ref r_output, .ref r_draft, .int (nI v_written), .int (nI v_error), .int (nI v_stands), .int (nI v_many), .ref r_letters, .ref r_name, .ref r_kind, .ref r_vary, .ref r_flag, .ref r_rest, .ref r_more, .ref r_one, .ref r_two, .ref r_begin, .ref r_partName, .ref r_partType, .ref r_partNumber, .int (nI v_nextMany), .int (nI v_nextParts), .ref r_nextName, .ref r_nextKind, .ref r_nextVary, .ref r_nextFlag, .ref r_nextRest, .ref r_nextMore, .ref r_nextOne, .ref r_nextTwo, .ref r_nextBegin, .ref r_nextPartName, .ref r_nextPartType, .ref r_nextPartNumber, .ref r_apart, .ref r_leader, .ref r_number, .int (nI v_classes), .int (nI v_stringsAt), .int (nI v_stringsEnd), .ref r_way, .ref r_seen, .int (nI v_drafted), .ref r_told, .ref r_toldAt, .int (nI v_tolds), .int (nI v_stringsSize)])), (r_output, .inl (T 0, 16384, .inl (fun z9 => nI (f_output z9))))] (fun v w1 => v = some (.long (lN (num (cut f_output v_written) k 8))) ∧ w1 = [(mo, .inr (8, [.int (nI 0), .ref r_tape, .int (nI v_taped), .ref r_output, .ref r_draft, .int (nI v_written), .int (nI v_error), .int (nI v_stands), .int (nI v_many), .ref r_letters, .ref r_name, .ref r_kind, .ref r_vary, .ref r_flag, .ref r_rest, .ref r_more, .ref r_one, .ref r_two, .ref r_begin, .ref r_partName, .ref r_partType, .ref r_partNumber, .int (nI v_nextMany), .int (nI v_nextParts), .ref r_nextName, .ref r_nextKind, .ref r_nextVary, .ref r_nextFlag, .ref r_nextRest, .ref r_nextMore, .ref r_nextOne, .ref r_nextTwo, .ref r_nextBegin, .ref r_nextPartName, .ref r_nextPartType, .ref r_nextPartNumber, .ref r_apart, .ref r_leader, .ref r_number, .int (nI v_classes), .int (nI v_stringsAt), .int (nI v_stringsEnd), .ref r_way, .ref r_seen, .int (nI v_drafted), .ref r_told, .ref r_toldAt, .int (nI v_tolds), .int (nI v_stringsSize)])), (r_output, .inl (T 0, 16384, .inl (fun z9 => nI (f_output z9))))]) := by
  refine Con.of (by decide) (Nat.le_of_ble_eq_true rfl) ?_
  intro E hE
  refine g_lv (lv' := [(0, .ref mo), (1, .int (nI k))]) [0, 1] rfl ?_
  refine g_aload_n (pc' := 1) hE 0 rfl rfl dX9_out_0 rfl ?_
  refine g_iload_n (pc' := 2) hE 1 rfl rfl dX9_out_1 rfl ?_
  refine g_ifN_lt (pc' := 5) (tgt := 13) hE (by omega) dX9_out_2 rfl rfl (fun hc2 => ?_) (fun hc2 => ?_)
  · exact hc2.elim
  refine g_iload_n (pc' := 6) hE 1 rfl rfl dX9_out_5 rfl ?_
  refine g_aload_n (pc' := 7) hE 0 rfl rfl dX9_out_6 rfl ?_
  refine g_get (pc' := 10) hE gcX9 0 rfl 5 (by decide) rfl kX9_284 dX9_out_7 rfl ?_
  refine g_icmpN_lt (pc' := 13) (tgt := 17) hE (by omega) (by omega) dX9_out_10 rfl rfl (fun hc10 => ?_) (fun hc10 => ?_)
  rotate_left
  · omega
  refine g_iconst (pc' := 18) hE (nI 0) (by decide) dX9_out_17 rfl ?_
  refine g_iconst (pc' := 19) hE (nI 1) (by decide) dX9_out_18 rfl ?_
  refine g_callV (pc' := 22) (As := [.int (nI 0), .int (nI 1)]) (rest := []) hE (qX9_fails l D T mo r_tape r_output r_draft r_letters r_name r_kind r_vary r_flag r_rest r_more r_one r_two r_begin r_partName r_partType r_partNumber r_nextName r_nextKind r_nextVary r_nextFlag r_nextRest r_nextMore r_nextOne r_nextTwo r_nextBegin r_nextPartName r_nextPartType r_nextPartNumber r_apart r_leader r_number r_way r_seen r_told r_toldAt v_thrown v_taped v_written v_error v_stands v_many v_nextMany v_nextParts v_classes v_stringsAt v_stringsEnd v_drafted v_tolds v_stringsSize false 1) mX9_fails kX9_233 iX9_fails sX9_fails (by decide) rfl (by decide) 0 rfl rfl [0] rfl (by decide) rfl (Nat.le_of_ble_eq_true rfl) dX9_out_19 rfl (gBackU [0] rfl (fun v w1 y => by obtain ⟨_, rfl⟩ := y; rfl) ?_)
  rintro _ _ ⟨rfl, rfl⟩
  refine g_w (ws' := [(mo, .inr (8, [.int (nI 0), .ref r_tape, .int (nI v_taped), .ref r_output, .ref r_draft, .int (nI v_written), .int (nI v_error), .int (nI v_stands), .int (nI v_many), .ref r_letters, .ref r_name, .ref r_kind, .ref r_vary, .ref r_flag, .ref r_rest, .ref r_more, .ref r_one, .ref r_two, .ref r_begin, .ref r_partName, .ref r_partType, .ref r_partNumber, .int (nI v_nextMany), .int (nI v_nextParts), .ref r_nextName, .ref r_nextKind, .ref r_nextVary, .ref r_nextFlag, .ref r_nextRest, .ref r_nextMore, .ref r_nextOne, .ref r_nextTwo, .ref r_nextBegin, .ref r_nextPartName, .ref r_nextPartType, .ref r_nextPartNumber, .ref r_apart, .ref r_leader, .ref r_number, .int (nI v_classes), .int (nI v_stringsAt), .int (nI v_stringsEnd), .ref r_way, .ref r_seen, .int (nI v_drafted), .ref r_told, .ref r_toldAt, .int (nI v_tolds), .int (nI v_stringsSize)])), (r_output, .inl (T 0, 16384, .inl (fun z9 => nI (f_output z9))))]) (rfl) ?_
  refine g_st (st' := [.int (bI false)]) rfl ?_
  refine g_ifB_eq (pc' := 25) (tgt := 27) hE dX9_out_22 rfl rfl (fun hc22 => ?_) (fun hc22 => ?_)
  rotate_left
  · exact absurd hc22 (by decide)
  refine g_lconst (pc' := 28) hE (lN 0) (by decide) dX9_out_27 rfl ?_
  refine g_lstore_n (pc' := 29) hE [(2, .long (lN 0)), (0, .ref mo), (1, .int (nI k))] dX9_out_28 rfl rfl (by decide) rfl ?_
  refine g_iconst (pc' := 30) hE (nI 0) (by decide) dX9_out_29 rfl ?_
  refine g_istore (pc' := 32) hE [(4, .int (nI 0)), (2, .long (lN 0)), (0, .ref mo), (1, .int (nI k))] dX9_out_30 rfl (by decide) rfl ?_
  refine (show ∀ (d32 : Nat) (q : Nat), 8 - q = d32 → (q ≤ 8) → G l E D 5 0 0 [(mo, .inr (8, [.int (nI 0), .ref r_tape, .int (nI v_taped), .ref r_output, .ref r_draft, .int (nI v_written), .int (nI v_error), .int (nI v_stands), .int (nI v_many), .ref r_letters, .ref r_name, .ref r_kind, .ref r_vary, .ref r_flag, .ref r_rest, .ref r_more, .ref r_one, .ref r_two, .ref r_begin, .ref r_partName, .ref r_partType, .ref r_partNumber, .int (nI v_nextMany), .int (nI v_nextParts), .ref r_nextName, .ref r_nextKind, .ref r_nextVary, .ref r_nextFlag, .ref r_nextRest, .ref r_nextMore, .ref r_nextOne, .ref r_nextTwo, .ref r_nextBegin, .ref r_nextPartName, .ref r_nextPartType, .ref r_nextPartNumber, .ref r_apart, .ref r_leader, .ref r_number, .int (nI v_classes), .int (nI v_stringsAt), .int (nI v_stringsEnd), .ref r_way, .ref r_seen, .int (nI v_drafted), .ref r_told, .ref r_toldAt, .int (nI v_tolds), .int (nI v_stringsSize)])), (r_output, .inl (T 0, 16384, .inl (fun z9 => nI (f_output z9))))] [(4, .int (nI q)), (2, .long (lN (num (cut f_output v_written) k q))), (0, .ref mo), (1, .int (nI k))] 32 [] from ?_) _ 0 rfl (by omega)
  intro d32
  induction d32 using Nat.strongRecOn with
  | _ d32 ih32 =>
  intro q hd32 hq
  refine g_iload (pc' := 34) hE 0 rfl dX9_out_32 rfl ?_
  refine g_bipush (pc' := 36) hE (nI 8) (by decide) dX9_out_34 rfl ?_
  refine g_icmpN_ge (pc' := 39) (tgt := 75) hE (by omega) (by omega) dX9_out_36 rfl rfl (fun hc36 => ?_) (fun hc36 => ?_)
  · refine g_lload_n (pc' := 76) hE 1 rfl rfl dX9_out_75 rfl ?_
    exact hE.lret (⟨by first | rw [show q = 8 by omega] | rw [show 8 = q + (8 - q) by omega, num_end (by omega)], rfl⟩) (Nat.zero_le _) (Nat.zero_le _) dX9_out_76
  · refine g_iload_n (pc' := 40) hE 3 rfl rfl dX9_out_39 rfl ?_
    refine g_iload (pc' := 42) hE 0 rfl dX9_out_40 rfl ?_
    refine g_iadd (pc' := 43) hE dX9_out_42 rfl ?_
    refine g_eqi (show _ = nI (k + q) from nI_add _ _) ?_
    refine g_aload_n (pc' := 44) hE 2 rfl rfl dX9_out_43 rfl ?_
    refine g_get (pc' := 47) hE gcX9 0 rfl 5 (by decide) rfl kX9_284 dX9_out_44 rfl ?_
    refine g_icmpN_ge (pc' := 50) (tgt := 75) hE (by omega) (by omega) dX9_out_47 rfl rfl (fun hc47 => ?_) (fun hc47 => ?_)
    · refine g_lload_n (pc' := 76) hE 1 rfl rfl dX9_out_75 rfl ?_
      exact hE.lret (⟨by first | rw [show q = 8 by omega] | rw [show 8 = q + (8 - q) by omega, num_end (by omega)], rfl⟩) (Nat.zero_le _) (Nat.zero_le _) dX9_out_76
    · refine g_lload_n (pc' := 51) hE 1 rfl rfl dX9_out_50 rfl ?_
      refine g_aload_n (pc' := 52) hE 2 rfl rfl dX9_out_51 rfl ?_
      refine g_get (pc' := 55) hE gcX9 0 rfl 3 (by decide) rfl kX9_13 dX9_out_52 rfl ?_
      refine g_iload_n (pc' := 56) hE 3 rfl rfl dX9_out_55 rfl ?_
      refine g_iload (pc' := 58) hE 0 rfl dX9_out_56 rfl ?_
      refine g_iadd (pc' := 59) hE dX9_out_58 rfl ?_
      refine g_eqi (show _ = nI (k + q) from nI_add _ _) ?_
      refine g_iald (pc' := 60) hE 1 rfl (by omega) (by omega) dX9_out_59 rfl ?_
      refine g_eqi (show _ = nI (cut f_output v_written (k + q)) from by rw [cut, if_pos hc47]) ?_
      refine g_i2l (pc' := 61) hE (lN (cut f_output v_written (k + q))) (nI_l (Nat.lt_trans (cut_lt hb _) (by decide))) dX9_out_60 rfl ?_
      refine g_bipush (pc' := 63) hE (nI 8) (by decide) dX9_out_61 rfl ?_
      refine g_iload (pc' := 65) hE 0 rfl dX9_out_63 rfl ?_
      refine g_imul (pc' := 66) hE dX9_out_65 rfl ?_
      refine g_eqi (show _ = nI (8 * q) from pk_mul _ _) ?_
      refine g_lshl (pc' := 67) hE (lN (cut f_output v_written (k + q)) <<< ((nI (8 * q)).toInt64 &&& 63)) rfl dX9_out_66 rfl ?_
      refine g_lor (pc' := 68) hE dX9_out_67 rfl ?_
      refine g_eql (show _ = lN (num (cut f_output v_written) k (q + 1)) from num_or (cut_lt hb) k q (by omega)) ?_
      refine g_lstore_n (pc' := 69) hE [(2, .long (lN (num (cut f_output v_written) k (q + 1)))), (4, .int (nI q)), (0, .ref mo), (1, .int (nI k))] dX9_out_68 rfl rfl (by decide) rfl ?_
      refine g_iinc (pc' := 72) hE (nI (q + 1)) [(4, .int (nI (q + 1))), (2, .long (lN (num (cut f_output v_written) k (q + 1)))), (0, .ref mo), (1, .int (nI k))] 1 rfl dX9_out_69 rfl (g_incN _ 1) (by decide) rfl ?_
      refine g_goto (tgt := 32) hE dX9_out_72 rfl ?_
      exact ih32 _ (by omega) (q + 1) rfl (by omega)

set_option maxHeartbeats 4000000 in
set_option maxRecDepth 100000 in
theorem qX9_outX (l : Launch) (D : va_G) (T : Nat → ClassId) (mo r_tape r_output r_draft r_letters r_name r_kind r_vary r_flag r_rest r_more r_one r_two r_begin r_partName r_partType r_partNumber r_nextName r_nextKind r_nextVary r_nextFlag r_nextRest r_nextMore r_nextOne r_nextTwo r_nextBegin r_nextPartName r_nextPartType r_nextPartNumber r_apart r_leader r_number r_way r_seen r_told r_toldAt v_thrown v_taped v_written v_error v_stands v_many v_nextMany v_nextParts v_classes v_stringsAt v_stringsEnd v_drafted v_tolds v_stringsSize : Nat) (x : Int32) (hv : ¬ (0 ≤ x ∧ x < nI v_written)) : Con l D T yX9_out cX9_out 5 (some .long) 2 0 0 [.ref mo, .int x] [(mo, .inr (8, [.int (nI v_thrown), .ref r_tape, .int (nI v_taped), .ref r_output, .ref r_draft, .int (nI v_written), .int (nI v_error), .int (nI v_stands), .int (nI v_many), .ref r_letters, .ref r_name, .ref r_kind, .ref r_vary, .ref r_flag, .ref r_rest, .ref r_more, .ref r_one, .ref r_two, .ref r_begin, .ref r_partName, .ref r_partType, .ref r_partNumber, .int (nI v_nextMany), .int (nI v_nextParts), .ref r_nextName, .ref r_nextKind, .ref r_nextVary, .ref r_nextFlag, .ref r_nextRest, .ref r_nextMore, .ref r_nextOne, .ref r_nextTwo, .ref r_nextBegin, .ref r_nextPartName, .ref r_nextPartType, .ref r_nextPartNumber, .ref r_apart, .ref r_leader, .ref r_number, .int (nI v_classes), .int (nI v_stringsAt), .int (nI v_stringsEnd), .ref r_way, .ref r_seen, .int (nI v_drafted), .ref r_told, .ref r_toldAt, .int (nI v_tolds), .int (nI v_stringsSize)]))] (fun v w1 => v = some (.long (lN 0)) ∧ w1 = [(mo, .inr (8, [.int (nI 1), .ref r_tape, .int (nI v_taped), .ref r_output, .ref r_draft, .int (nI v_written), .int (nI v_error), .int (nI v_stands), .int (nI v_many), .ref r_letters, .ref r_name, .ref r_kind, .ref r_vary, .ref r_flag, .ref r_rest, .ref r_more, .ref r_one, .ref r_two, .ref r_begin, .ref r_partName, .ref r_partType, .ref r_partNumber, .int (nI v_nextMany), .int (nI v_nextParts), .ref r_nextName, .ref r_nextKind, .ref r_nextVary, .ref r_nextFlag, .ref r_nextRest, .ref r_nextMore, .ref r_nextOne, .ref r_nextTwo, .ref r_nextBegin, .ref r_nextPartName, .ref r_nextPartType, .ref r_nextPartNumber, .ref r_apart, .ref r_leader, .ref r_number, .int (nI v_classes), .int (nI v_stringsAt), .int (nI v_stringsEnd), .ref r_way, .ref r_seen, .int (nI v_drafted), .ref r_told, .ref r_toldAt, .int (nI v_tolds), .int (nI v_stringsSize)]))]) := by
  refine Con.of (by decide) (Nat.le_of_ble_eq_true rfl) ?_
  intro E hE
  refine g_lv (lv' := [(0, .ref mo), (1, .int x)]) [0, 1] rfl ?_
  refine g_aload_n (pc' := 1) hE 0 rfl rfl dX9_out_0 rfl ?_
  refine g_iload_n (pc' := 2) hE 1 rfl rfl dX9_out_1 rfl ?_
  refine g_if_lt (pc' := 5) (tgt := 13) hE dX9_out_2 rfl rfl (fun hc2 => ?_) (fun hc2 => ?_)
  · refine g_iconst (pc' := 14) hE (nI 1) (by decide) dX9_out_13 rfl ?_
    refine g_goto (tgt := 18) hE dX9_out_14 rfl ?_
    refine g_iconst (pc' := 19) hE (nI 1) (by decide) dX9_out_18 rfl ?_
    refine g_callV (pc' := 22) (As := [.int (nI 1), .int (nI 1)]) (rest := []) hE (qX9_fails l D T mo r_tape r_output r_draft r_letters r_name r_kind r_vary r_flag r_rest r_more r_one r_two r_begin r_partName r_partType r_partNumber r_nextName r_nextKind r_nextVary r_nextFlag r_nextRest r_nextMore r_nextOne r_nextTwo r_nextBegin r_nextPartName r_nextPartType r_nextPartNumber r_apart r_leader r_number r_way r_seen r_told r_toldAt v_thrown v_taped v_written v_error v_stands v_many v_nextMany v_nextParts v_classes v_stringsAt v_stringsEnd v_drafted v_tolds v_stringsSize true 1) mX9_fails kX9_233 iX9_fails sX9_fails (by decide) rfl (by decide) 0 rfl rfl [0] rfl (by decide) rfl (Nat.le_of_ble_eq_true rfl) dX9_out_19 rfl (gBackU [0] rfl (fun v w1 y => by obtain ⟨_, rfl⟩ := y; rfl) ?_)
    rintro _ _ ⟨rfl, rfl⟩
    refine g_w (ws' := [(mo, .inr (8, [.int (nI 1), .ref r_tape, .int (nI v_taped), .ref r_output, .ref r_draft, .int (nI v_written), .int (nI v_error), .int (nI v_stands), .int (nI v_many), .ref r_letters, .ref r_name, .ref r_kind, .ref r_vary, .ref r_flag, .ref r_rest, .ref r_more, .ref r_one, .ref r_two, .ref r_begin, .ref r_partName, .ref r_partType, .ref r_partNumber, .int (nI v_nextMany), .int (nI v_nextParts), .ref r_nextName, .ref r_nextKind, .ref r_nextVary, .ref r_nextFlag, .ref r_nextRest, .ref r_nextMore, .ref r_nextOne, .ref r_nextTwo, .ref r_nextBegin, .ref r_nextPartName, .ref r_nextPartType, .ref r_nextPartNumber, .ref r_apart, .ref r_leader, .ref r_number, .int (nI v_classes), .int (nI v_stringsAt), .int (nI v_stringsEnd), .ref r_way, .ref r_seen, .int (nI v_drafted), .ref r_told, .ref r_toldAt, .int (nI v_tolds), .int (nI v_stringsSize)]))]) (rfl) ?_
    refine g_st (st' := [.int (bI true)]) rfl ?_
    refine g_ifB_eq (pc' := 25) (tgt := 27) hE dX9_out_22 rfl rfl (fun hc22 => ?_) (fun hc22 => ?_)
    · exact absurd hc22 (by decide)
    refine g_lconst (pc' := 26) hE (lN 0) (by decide) dX9_out_25 rfl ?_
    exact hE.lret (⟨rfl, rfl⟩) (Nat.zero_le _) (Nat.zero_le _) dX9_out_26
  · refine g_iload_n (pc' := 6) hE 1 rfl rfl dX9_out_5 rfl ?_
    refine g_aload_n (pc' := 7) hE 0 rfl rfl dX9_out_6 rfl ?_
    refine g_get (pc' := 10) hE gcX9 0 rfl 5 (by decide) rfl kX9_284 dX9_out_7 rfl ?_
    refine g_icmp_lt (pc' := 13) (tgt := 17) hE dX9_out_10 rfl rfl (fun hc10 => ?_) (fun hc10 => ?_)
    · exact absurd ⟨Int32.not_lt.mp hc2, hc10⟩ hv
    refine g_iconst (pc' := 14) hE (nI 1) (by decide) dX9_out_13 rfl ?_
    refine g_goto (tgt := 18) hE dX9_out_14 rfl ?_
    refine g_iconst (pc' := 19) hE (nI 1) (by decide) dX9_out_18 rfl ?_
    refine g_callV (pc' := 22) (As := [.int (nI 1), .int (nI 1)]) (rest := []) hE (qX9_fails l D T mo r_tape r_output r_draft r_letters r_name r_kind r_vary r_flag r_rest r_more r_one r_two r_begin r_partName r_partType r_partNumber r_nextName r_nextKind r_nextVary r_nextFlag r_nextRest r_nextMore r_nextOne r_nextTwo r_nextBegin r_nextPartName r_nextPartType r_nextPartNumber r_apart r_leader r_number r_way r_seen r_told r_toldAt v_thrown v_taped v_written v_error v_stands v_many v_nextMany v_nextParts v_classes v_stringsAt v_stringsEnd v_drafted v_tolds v_stringsSize true 1) mX9_fails kX9_233 iX9_fails sX9_fails (by decide) rfl (by decide) 0 rfl rfl [0] rfl (by decide) rfl (Nat.le_of_ble_eq_true rfl) dX9_out_19 rfl (gBackU [0] rfl (fun v w1 y => by obtain ⟨_, rfl⟩ := y; rfl) ?_)
    rintro _ _ ⟨rfl, rfl⟩
    refine g_w (ws' := [(mo, .inr (8, [.int (nI 1), .ref r_tape, .int (nI v_taped), .ref r_output, .ref r_draft, .int (nI v_written), .int (nI v_error), .int (nI v_stands), .int (nI v_many), .ref r_letters, .ref r_name, .ref r_kind, .ref r_vary, .ref r_flag, .ref r_rest, .ref r_more, .ref r_one, .ref r_two, .ref r_begin, .ref r_partName, .ref r_partType, .ref r_partNumber, .int (nI v_nextMany), .int (nI v_nextParts), .ref r_nextName, .ref r_nextKind, .ref r_nextVary, .ref r_nextFlag, .ref r_nextRest, .ref r_nextMore, .ref r_nextOne, .ref r_nextTwo, .ref r_nextBegin, .ref r_nextPartName, .ref r_nextPartType, .ref r_nextPartNumber, .ref r_apart, .ref r_leader, .ref r_number, .int (nI v_classes), .int (nI v_stringsAt), .int (nI v_stringsEnd), .ref r_way, .ref r_seen, .int (nI v_drafted), .ref r_told, .ref r_toldAt, .int (nI v_tolds), .int (nI v_stringsSize)]))]) (rfl) ?_
    refine g_st (st' := [.int (bI true)]) rfl ?_
    refine g_ifB_eq (pc' := 25) (tgt := 27) hE dX9_out_22 rfl rfl (fun hc22 => ?_) (fun hc22 => ?_)
    · exact absurd hc22 (by decide)
    refine g_lconst (pc' := 26) hE (lN 0) (by decide) dX9_out_25 rfl ?_
    exact hE.lret (⟨rfl, rfl⟩) (Nat.zero_le _) (Nat.zero_le _) dX9_out_26

set_option maxHeartbeats 4000000 in
set_option maxRecDepth 100000 in
theorem qX9_name (l : Launch) (D : va_G) (T : Nat → ClassId) (mo r_tape r_output r_draft r_letters r_name r_kind r_vary r_flag r_rest r_more r_one r_two r_begin r_partName r_partType r_partNumber r_nextName r_nextKind r_nextVary r_nextFlag r_nextRest r_nextMore r_nextOne r_nextTwo r_nextBegin r_nextPartName r_nextPartType r_nextPartNumber r_apart r_leader r_number r_way r_seen r_told r_toldAt v_thrown v_taped v_written v_error v_stands v_many v_nextMany v_nextParts v_classes v_stringsAt v_stringsEnd v_drafted v_tolds v_stringsSize : Nat) (t : Nat → Nat) (sg v_S : Nat) (f_letters : Nat → Nat) (f_name : Nat → Nat) (f_kind : Nat → Nat) (f_vary : Nat → Nat) (f_flag : Nat → Nat) (f_rest : Nat → Nat) (f_more : Nat → Nat) (f_one : Nat → Nat) (f_two : Nat → Nat) (f_begin : Nat → Nat) (f_partName : Nat → Nat) (f_partType : Nat → Nat) (f_partNumber : Nat → Nat) (f_apart : Nat → Nat) (f_leader : Nat → Nat) (f_number : Nat → Nat) (f_output : Nat → Nat) (i : Nat) (hS : MS t sg v_S v_many f_letters f_name f_kind f_vary f_flag f_rest f_more f_one f_two f_begin f_partName f_partType f_partNumber) (hb : ∀ i, f_output i < 256) (h1i : 1 ≤ i) (h2i : i ≤ v_many) : Con l D T yX9_name cX9_name 3 (some .int) 2 0 0 [.ref mo, .int (nI i)] [(mo, .inr (8, [.int (nI v_thrown), .ref r_tape, .int (nI v_taped), .ref r_output, .ref r_draft, .int (nI v_written), .int (nI v_error), .int (nI v_stands), .int (nI v_many), .ref r_letters, .ref r_name, .ref r_kind, .ref r_vary, .ref r_flag, .ref r_rest, .ref r_more, .ref r_one, .ref r_two, .ref r_begin, .ref r_partName, .ref r_partType, .ref r_partNumber, .int (nI v_nextMany), .int (nI v_nextParts), .ref r_nextName, .ref r_nextKind, .ref r_nextVary, .ref r_nextFlag, .ref r_nextRest, .ref r_nextMore, .ref r_nextOne, .ref r_nextTwo, .ref r_nextBegin, .ref r_nextPartName, .ref r_nextPartType, .ref r_nextPartNumber, .ref r_apart, .ref r_leader, .ref r_number, .int (nI v_classes), .int (nI v_stringsAt), .int (nI v_stringsEnd), .ref r_way, .ref r_seen, .int (nI v_drafted), .ref r_told, .ref r_toldAt, .int (nI v_tolds), .int (nI v_stringsSize)])), (r_name, .inl (T 0, 202, .inl (fun z9 => nI (f_name z9)))), (r_letters, .inl (T 0, 8192, .inl (fun z9 => nI (f_letters z9)))), (r_output, .inl (T 0, 16384, .inl (fun z9 => nI (f_output z9))))] (fun v w1 => ∃ O : Nat → Nat, v = some (.int (nI (lfr t (sg + wdT t i 0)))) ∧ w1 = [(mo, .inr (8, [.int (nI 0), .ref r_tape, .int (nI v_taped), .ref r_output, .ref r_draft, .int (nI (lfr t (sg + wdT t i 0))), .int (nI v_error), .int (nI v_stands), .int (nI v_many), .ref r_letters, .ref r_name, .ref r_kind, .ref r_vary, .ref r_flag, .ref r_rest, .ref r_more, .ref r_one, .ref r_two, .ref r_begin, .ref r_partName, .ref r_partType, .ref r_partNumber, .int (nI v_nextMany), .int (nI v_nextParts), .ref r_nextName, .ref r_nextKind, .ref r_nextVary, .ref r_nextFlag, .ref r_nextRest, .ref r_nextMore, .ref r_nextOne, .ref r_nextTwo, .ref r_nextBegin, .ref r_nextPartName, .ref r_nextPartType, .ref r_nextPartNumber, .ref r_apart, .ref r_leader, .ref r_number, .int (nI v_classes), .int (nI v_stringsAt), .int (nI v_stringsEnd), .ref r_way, .ref r_seen, .int (nI v_drafted), .ref r_told, .ref r_toldAt, .int (nI v_tolds), .int (nI v_stringsSize)])), (r_name, .inl (T 0, 202, .inl (fun z9 => nI (f_name z9)))), (r_letters, .inl (T 0, 8192, .inl (fun z9 => nI (f_letters z9)))), (r_output, .inl (T 0, 16384, .inl (fun z9 => nI (O z9))))] ∧ (∀ k, k < lfr t (sg + wdT t i 0) → O k = t (sg + wdT t i 0 + k)) ∧ ∀ k, O k < 256) := by
  refine Con.of (by decide) (Nat.le_of_ble_eq_true rfl) ?_
  intro E hE
  have hN := hS.1.1.1
  have hS8 := hS.1.2.2.2.1
  obtain ⟨ai, ⟨ni1, ni2⟩, ⟨ki1, ki2, ki3⟩, ⟨vi1, vi2⟩, ⟨fi1, fi2⟩, ⟨ri1, ri2⟩, ⟨mi1, mi2⟩, ⟨oi1, oi2⟩, ⟨ti1, ti2⟩, ⟨bi1, bi2, bi3⟩, ⟨gi1, gi2⟩, pi⟩ := hS.at h1i h2i
  have hlf := hS.lf ni2
  rw [ni1] at hlf
  have hlb := hS.2.1.2
  have hlq : lfr t (sg + wdT t i 0) < 8192 := by omega
  refine g_lv (lv' := [(0, .ref mo), (1, .int (nI i))]) [0, 1] rfl ?_
  refine g_aload_n (pc' := 1) hE 0 rfl rfl dX9_name_0 rfl ?_
  refine g_iload_n (pc' := 2) hE 1 rfl rfl dX9_name_1 rfl ?_
  refine g_i2l (pc' := 3) hE (lN i) (nI_l (by omega)) dX9_name_2 rfl ?_
  refine g_lconst (pc' := 4) hE (lN 1) (by decide) dX9_name_3 rfl ?_
  refine g_aload_n (pc' := 5) hE 0 rfl rfl dX9_name_4 rfl ?_
  refine g_get (pc' := 8) hE gcX9 0 rfl 8 (by decide) rfl kX9_203 dX9_name_5 rfl ?_
  refine g_i2l (pc' := 9) hE (lN v_many) (nI_l (by omega)) dX9_name_8 rfl ?_
  refine g_callS (pc' := 12) (As := [.long (lN i), .long (lN 1), .long (lN v_many)]) (rest := [.ref mo]) hE (qX9_in l D T (lN i) (lN 1) (lN v_many)) mX9_in kX9_174 iX9_in (by decide) rfl (by decide) [] rfl (by decide) rfl (Nat.le_of_ble_eq_true rfl) dX9_name_9 rfl (gBackR [] rfl ?_)
  rintro _ rfl
  refine g_st (st' := [.int (bI (inB (lN i) (lN 1) (lN v_many))), .ref mo]) rfl ?_
  refine g_ifB_ne (pc' := 15) (tgt := 19) hE dX9_name_12 rfl rfl (fun hc12 => ?_) (fun hc12 => ?_)
  rotate_left
  · (rw [inB_N (by omega) (by omega) (by omega)] at hc12; exact absurd (of_decide_eq_false hc12) (by omega))
  refine g_iconst (pc' := 20) hE (nI 0) (by decide) dX9_name_19 rfl ?_
  refine g_iconst (pc' := 21) hE (nI 1) (by decide) dX9_name_20 rfl ?_
  refine g_callV (pc' := 24) (As := [.int (nI 0), .int (nI 1)]) (rest := []) hE (qX9_fails l D T mo r_tape r_output r_draft r_letters r_name r_kind r_vary r_flag r_rest r_more r_one r_two r_begin r_partName r_partType r_partNumber r_nextName r_nextKind r_nextVary r_nextFlag r_nextRest r_nextMore r_nextOne r_nextTwo r_nextBegin r_nextPartName r_nextPartType r_nextPartNumber r_apart r_leader r_number r_way r_seen r_told r_toldAt v_thrown v_taped v_written v_error v_stands v_many v_nextMany v_nextParts v_classes v_stringsAt v_stringsEnd v_drafted v_tolds v_stringsSize false 1) mX9_fails kX9_233 iX9_fails sX9_fails (by decide) rfl (by decide) 0 rfl rfl [0] rfl (by decide) rfl (Nat.le_of_ble_eq_true rfl) dX9_name_21 rfl (gBackU [0] rfl (fun v w1 y => by obtain ⟨_, rfl⟩ := y; rfl) ?_)
  rintro _ _ ⟨rfl, rfl⟩
  refine g_w (ws' := [(mo, .inr (8, [.int (nI 0), .ref r_tape, .int (nI v_taped), .ref r_output, .ref r_draft, .int (nI v_written), .int (nI v_error), .int (nI v_stands), .int (nI v_many), .ref r_letters, .ref r_name, .ref r_kind, .ref r_vary, .ref r_flag, .ref r_rest, .ref r_more, .ref r_one, .ref r_two, .ref r_begin, .ref r_partName, .ref r_partType, .ref r_partNumber, .int (nI v_nextMany), .int (nI v_nextParts), .ref r_nextName, .ref r_nextKind, .ref r_nextVary, .ref r_nextFlag, .ref r_nextRest, .ref r_nextMore, .ref r_nextOne, .ref r_nextTwo, .ref r_nextBegin, .ref r_nextPartName, .ref r_nextPartType, .ref r_nextPartNumber, .ref r_apart, .ref r_leader, .ref r_number, .int (nI v_classes), .int (nI v_stringsAt), .int (nI v_stringsEnd), .ref r_way, .ref r_seen, .int (nI v_drafted), .ref r_told, .ref r_toldAt, .int (nI v_tolds), .int (nI v_stringsSize)])), (r_name, .inl (T 0, 202, .inl (fun z9 => nI (f_name z9)))), (r_letters, .inl (T 0, 8192, .inl (fun z9 => nI (f_letters z9)))), (r_output, .inl (T 0, 16384, .inl (fun z9 => nI (f_output z9))))]) (rfl) ?_
  refine g_st (st' := [.int (bI false)]) rfl ?_
  refine g_ifB_eq (pc' := 27) (tgt := 29) hE dX9_name_24 rfl rfl (fun hc24 => ?_) (fun hc24 => ?_)
  rotate_left
  · exact absurd hc24 (by decide)
  refine g_aload_n (pc' := 30) hE 0 rfl rfl dX9_name_29 rfl ?_
  refine g_aload_n (pc' := 31) hE 0 rfl rfl dX9_name_30 rfl ?_
  refine g_aload_n (pc' := 32) hE 0 rfl rfl dX9_name_31 rfl ?_
  refine g_get (pc' := 35) hE gcX9 0 rfl 10 (by decide) rfl kX9_22 dX9_name_32 rfl ?_
  refine g_iload_n (pc' := 36) hE 1 rfl rfl dX9_name_35 rfl ?_
  refine g_iald (pc' := 37) hE 1 rfl (by omega) (by omega) dX9_name_36 rfl ?_
  refine g_eqi (show _ = nI (wdT t i 0) from by rw [ni1]) ?_
  refine g_callV (pc' := 40) (As := [.int (nI (wdT t i 0))]) (rest := [.ref mo]) hE (qX9_sizeT l D T mo r_tape r_output r_draft r_letters r_name r_kind r_vary r_flag r_rest r_more r_one r_two r_begin r_partName r_partType r_partNumber r_nextName r_nextKind r_nextVary r_nextFlag r_nextRest r_nextMore r_nextOne r_nextTwo r_nextBegin r_nextPartName r_nextPartType r_nextPartNumber r_apart r_leader r_number r_way r_seen r_told r_toldAt 0 v_taped v_written v_error v_stands v_many v_nextMany v_nextParts v_classes v_stringsAt v_stringsEnd v_drafted v_tolds v_stringsSize t sg v_S f_letters f_name f_kind f_vary f_flag f_rest f_more f_one f_two f_begin f_partName f_partType f_partNumber (wdT t i 0) hS (by omega)) mX9_size kX9_239 iX9_size sX9_size (by decide) rfl (by decide) 0 rfl rfl [0, 2] rfl (by decide) rfl (Nat.le_of_ble_eq_true rfl) dX9_name_37 rfl (gBackR [0, 2] rfl ?_)
  rintro _ rfl
  refine g_st (st' := [.int (nI (lfr t (sg + wdT t i 0))), .ref mo]) rfl ?_
  refine g_put (pc' := 43) hE gcX9 0 rfl 5 [(mo, .inr (8, [.int (nI 0), .ref r_tape, .int (nI v_taped), .ref r_output, .ref r_draft, .int (nI (lfr t (sg + wdT t i 0))), .int (nI v_error), .int (nI v_stands), .int (nI v_many), .ref r_letters, .ref r_name, .ref r_kind, .ref r_vary, .ref r_flag, .ref r_rest, .ref r_more, .ref r_one, .ref r_two, .ref r_begin, .ref r_partName, .ref r_partType, .ref r_partNumber, .int (nI v_nextMany), .int (nI v_nextParts), .ref r_nextName, .ref r_nextKind, .ref r_nextVary, .ref r_nextFlag, .ref r_nextRest, .ref r_nextMore, .ref r_nextOne, .ref r_nextTwo, .ref r_nextBegin, .ref r_nextPartName, .ref r_nextPartType, .ref r_nextPartNumber, .ref r_apart, .ref r_leader, .ref r_number, .int (nI v_classes), .int (nI v_stringsAt), .int (nI v_stringsEnd), .ref r_way, .ref r_seen, .int (nI v_drafted), .ref r_told, .ref r_toldAt, .int (nI v_tolds), .int (nI v_stringsSize)])), (r_name, .inl (T 0, 202, .inl (fun z9 => nI (f_name z9)))), (r_letters, .inl (T 0, 8192, .inl (fun z9 => nI (f_letters z9)))), (r_output, .inl (T 0, 16384, .inl (fun z9 => nI (f_output z9))))] (by decide) (Nat.le_of_ble_eq_true rfl) rfl rfl rfl rfl kX9_284 dX9_name_40 rfl ?_
  refine g_iconst (pc' := 44) hE (nI 0) (by decide) dX9_name_43 rfl ?_
  refine g_istore_n (pc' := 45) hE [(2, .int (nI 0)), (0, .ref mo), (1, .int (nI i))] dX9_name_44 rfl rfl (by decide) rfl ?_
  refine (show ∀ (d45 : Nat) (q : Nat) (O : Nat → Nat), lfr t (sg + wdT t i 0) - q = d45 → (q ≤ lfr t (sg + wdT t i 0)) → (∀ k, k < q → O k = t (sg + wdT t i 0 + k)) → (∀ k, O k < 256) → G l E D 3 0 0 [(mo, .inr (8, [.int (nI 0), .ref r_tape, .int (nI v_taped), .ref r_output, .ref r_draft, .int (nI (lfr t (sg + wdT t i 0))), .int (nI v_error), .int (nI v_stands), .int (nI v_many), .ref r_letters, .ref r_name, .ref r_kind, .ref r_vary, .ref r_flag, .ref r_rest, .ref r_more, .ref r_one, .ref r_two, .ref r_begin, .ref r_partName, .ref r_partType, .ref r_partNumber, .int (nI v_nextMany), .int (nI v_nextParts), .ref r_nextName, .ref r_nextKind, .ref r_nextVary, .ref r_nextFlag, .ref r_nextRest, .ref r_nextMore, .ref r_nextOne, .ref r_nextTwo, .ref r_nextBegin, .ref r_nextPartName, .ref r_nextPartType, .ref r_nextPartNumber, .ref r_apart, .ref r_leader, .ref r_number, .int (nI v_classes), .int (nI v_stringsAt), .int (nI v_stringsEnd), .ref r_way, .ref r_seen, .int (nI v_drafted), .ref r_told, .ref r_toldAt, .int (nI v_tolds), .int (nI v_stringsSize)])), (r_name, .inl (T 0, 202, .inl (fun z9 => nI (f_name z9)))), (r_letters, .inl (T 0, 8192, .inl (fun z9 => nI (f_letters z9)))), (r_output, .inl (T 0, 16384, .inl (fun z9 => nI (O z9))))] [(2, .int (nI q)), (0, .ref mo), (1, .int (nI i))] 45 [] from ?_) _ 0 f_output rfl (by omega) (fun k hk => absurd hk (by omega)) hb
  intro d45
  induction d45 using Nat.strongRecOn with
  | _ d45 ih45 =>
  intro q O hd45 hq hO hOb
  refine g_iload_n (pc' := 46) hE 0 rfl rfl dX9_name_45 rfl ?_
  refine g_aload_n (pc' := 47) hE 1 rfl rfl dX9_name_46 rfl ?_
  refine g_get (pc' := 50) hE gcX9 0 rfl 5 (by decide) rfl kX9_284 dX9_name_47 rfl ?_
  refine g_icmpN_ge (pc' := 53) (tgt := 78) hE (by omega) (by omega) dX9_name_50 rfl rfl (fun hc50 => ?_) (fun hc50 => ?_)
  · refine g_aload_n (pc' := 79) hE 1 rfl rfl dX9_name_78 rfl ?_
    refine g_get (pc' := 82) hE gcX9 0 rfl 5 (by decide) rfl kX9_284 dX9_name_79 rfl ?_
    exact hE.iret (⟨O, rfl, rfl, fun k hk => hO k (by omega), hOb⟩) (Nat.zero_le _) (Nat.zero_le _) dX9_name_82
  · refine g_aload_n (pc' := 54) hE 1 rfl rfl dX9_name_53 rfl ?_
    refine g_get (pc' := 57) hE gcX9 0 rfl 3 (by decide) rfl kX9_13 dX9_name_54 rfl ?_
    refine g_iload_n (pc' := 58) hE 0 rfl rfl dX9_name_57 rfl ?_
    refine g_aload_n (pc' := 59) hE 1 rfl rfl dX9_name_58 rfl ?_
    refine g_get (pc' := 62) hE gcX9 0 rfl 9 (by decide) rfl kX9_19 dX9_name_59 rfl ?_
    refine g_aload_n (pc' := 63) hE 1 rfl rfl dX9_name_62 rfl ?_
    refine g_get (pc' := 66) hE gcX9 0 rfl 10 (by decide) rfl kX9_22 dX9_name_63 rfl ?_
    refine g_iload_n (pc' := 67) hE 2 rfl rfl dX9_name_66 rfl ?_
    refine g_iald (pc' := 68) hE 1 rfl (by omega) (by omega) dX9_name_67 rfl ?_
    refine g_eqi (show _ = nI (wdT t i 0) from by rw [ni1]) ?_
    refine g_iload_n (pc' := 69) hE 0 rfl rfl dX9_name_68 rfl ?_
    refine g_iadd (pc' := 70) hE dX9_name_69 rfl ?_
    refine g_eqi (show _ = nI (wdT t i 0 + q) from nI_add _ _) ?_
    refine g_iald (pc' := 71) hE 2 rfl (by omega) (by omega) dX9_name_70 rfl ?_
    refine g_eqi (show _ = nI (t (sg + wdT t i 0 + q)) from by rw [hlf.2.2 q (by omega)]) ?_
    refine g_iast (pc' := 72) hE 3 [(mo, .inr (8, [.int (nI 0), .ref r_tape, .int (nI v_taped), .ref r_output, .ref r_draft, .int (nI (lfr t (sg + wdT t i 0))), .int (nI v_error), .int (nI v_stands), .int (nI v_many), .ref r_letters, .ref r_name, .ref r_kind, .ref r_vary, .ref r_flag, .ref r_rest, .ref r_more, .ref r_one, .ref r_two, .ref r_begin, .ref r_partName, .ref r_partType, .ref r_partNumber, .int (nI v_nextMany), .int (nI v_nextParts), .ref r_nextName, .ref r_nextKind, .ref r_nextVary, .ref r_nextFlag, .ref r_nextRest, .ref r_nextMore, .ref r_nextOne, .ref r_nextTwo, .ref r_nextBegin, .ref r_nextPartName, .ref r_nextPartType, .ref r_nextPartNumber, .ref r_apart, .ref r_leader, .ref r_number, .int (nI v_classes), .int (nI v_stringsAt), .int (nI v_stringsEnd), .ref r_way, .ref r_seen, .int (nI v_drafted), .ref r_told, .ref r_toldAt, .int (nI v_tolds), .int (nI v_stringsSize)])), (r_name, .inl (T 0, 202, .inl (fun z9 => nI (f_name z9)))), (r_letters, .inl (T 0, 8192, .inl (fun z9 => nI (f_letters z9)))), (r_output, .inl (T 0, 16384, .inl (fun z9 => nI ((gu O q (t (sg + wdT t i 0 + q))) z9))))] rfl (by omega) (by omega) (gu_I _ _ _) rfl dX9_name_71 rfl ?_
    refine g_iinc (pc' := 75) hE (nI (q + 1)) [(2, .int (nI (q + 1))), (0, .ref mo), (1, .int (nI i))] 0 rfl dX9_name_72 rfl (g_incN _ 1) (by decide) rfl ?_
    refine g_goto (tgt := 45) hE dX9_name_75 rfl ?_
    exact ih45 _ (by omega) (q + 1) (gu O q (t (sg + wdT t i 0 + q))) rfl (by omega) (cp1 (f := fun k => t (sg + wdT t i 0 + k)) hO) (gu_ltB hOb (hS.1.2.2.2.2 _))

set_option maxHeartbeats 4000000 in
set_option maxRecDepth 100000 in
theorem qX9_nameX (l : Launch) (D : va_G) (T : Nat → ClassId) (mo r_tape r_output r_draft r_letters r_name r_kind r_vary r_flag r_rest r_more r_one r_two r_begin r_partName r_partType r_partNumber r_nextName r_nextKind r_nextVary r_nextFlag r_nextRest r_nextMore r_nextOne r_nextTwo r_nextBegin r_nextPartName r_nextPartType r_nextPartNumber r_apart r_leader r_number r_way r_seen r_told r_toldAt v_thrown v_taped v_written v_error v_stands v_many v_nextMany v_nextParts v_classes v_stringsAt v_stringsEnd v_drafted v_tolds v_stringsSize : Nat) (x : Int32) (hm : v_many ≤ 200) (hv : ¬ inB x.toInt64 (lN 1) (lN v_many) = true) : Con l D T yX9_name cX9_name 3 (some .int) 2 0 0 [.ref mo, .int x] [(mo, .inr (8, [.int (nI v_thrown), .ref r_tape, .int (nI v_taped), .ref r_output, .ref r_draft, .int (nI v_written), .int (nI v_error), .int (nI v_stands), .int (nI v_many), .ref r_letters, .ref r_name, .ref r_kind, .ref r_vary, .ref r_flag, .ref r_rest, .ref r_more, .ref r_one, .ref r_two, .ref r_begin, .ref r_partName, .ref r_partType, .ref r_partNumber, .int (nI v_nextMany), .int (nI v_nextParts), .ref r_nextName, .ref r_nextKind, .ref r_nextVary, .ref r_nextFlag, .ref r_nextRest, .ref r_nextMore, .ref r_nextOne, .ref r_nextTwo, .ref r_nextBegin, .ref r_nextPartName, .ref r_nextPartType, .ref r_nextPartNumber, .ref r_apart, .ref r_leader, .ref r_number, .int (nI v_classes), .int (nI v_stringsAt), .int (nI v_stringsEnd), .ref r_way, .ref r_seen, .int (nI v_drafted), .ref r_told, .ref r_toldAt, .int (nI v_tolds), .int (nI v_stringsSize)]))] (fun v w1 => v = some (.int (nI 0)) ∧ w1 = [(mo, .inr (8, [.int (nI 1), .ref r_tape, .int (nI v_taped), .ref r_output, .ref r_draft, .int (nI v_written), .int (nI v_error), .int (nI v_stands), .int (nI v_many), .ref r_letters, .ref r_name, .ref r_kind, .ref r_vary, .ref r_flag, .ref r_rest, .ref r_more, .ref r_one, .ref r_two, .ref r_begin, .ref r_partName, .ref r_partType, .ref r_partNumber, .int (nI v_nextMany), .int (nI v_nextParts), .ref r_nextName, .ref r_nextKind, .ref r_nextVary, .ref r_nextFlag, .ref r_nextRest, .ref r_nextMore, .ref r_nextOne, .ref r_nextTwo, .ref r_nextBegin, .ref r_nextPartName, .ref r_nextPartType, .ref r_nextPartNumber, .ref r_apart, .ref r_leader, .ref r_number, .int (nI v_classes), .int (nI v_stringsAt), .int (nI v_stringsEnd), .ref r_way, .ref r_seen, .int (nI v_drafted), .ref r_told, .ref r_toldAt, .int (nI v_tolds), .int (nI v_stringsSize)]))]) := by
  refine Con.of (by decide) (Nat.le_of_ble_eq_true rfl) ?_
  intro E hE
  refine g_lv (lv' := [(0, .ref mo), (1, .int x)]) [0, 1] rfl ?_
  refine g_aload_n (pc' := 1) hE 0 rfl rfl dX9_name_0 rfl ?_
  refine g_iload_n (pc' := 2) hE 1 rfl rfl dX9_name_1 rfl ?_
  refine g_i2l (pc' := 3) hE (x.toInt64) rfl dX9_name_2 rfl ?_
  refine g_lconst (pc' := 4) hE (lN 1) (by decide) dX9_name_3 rfl ?_
  refine g_aload_n (pc' := 5) hE 0 rfl rfl dX9_name_4 rfl ?_
  refine g_get (pc' := 8) hE gcX9 0 rfl 8 (by decide) rfl kX9_203 dX9_name_5 rfl ?_
  refine g_i2l (pc' := 9) hE (lN v_many) (nI_l (by omega)) dX9_name_8 rfl ?_
  refine g_callS (pc' := 12) (As := [.long x.toInt64, .long (lN 1), .long (lN v_many)]) (rest := [.ref mo]) hE (qX9_in l D T x.toInt64 (lN 1) (lN v_many)) mX9_in kX9_174 iX9_in (by decide) rfl (by decide) [] rfl (by decide) rfl (Nat.le_of_ble_eq_true rfl) dX9_name_9 rfl (gBackR [] rfl ?_)
  rintro _ rfl
  refine g_st (st' := [.int (bI (inB x.toInt64 (lN 1) (lN v_many))), .ref mo]) rfl ?_
  refine g_ifB_ne (pc' := 15) (tgt := 19) hE dX9_name_12 rfl rfl (fun hc12 => ?_) (fun hc12 => ?_)
  · exact absurd hc12 hv
  refine g_iconst (pc' := 16) hE (nI 1) (by decide) dX9_name_15 rfl ?_
  refine g_goto (tgt := 20) hE dX9_name_16 rfl ?_
  refine g_iconst (pc' := 21) hE (nI 1) (by decide) dX9_name_20 rfl ?_
  refine g_callV (pc' := 24) (As := [.int (nI 1), .int (nI 1)]) (rest := []) hE (qX9_fails l D T mo r_tape r_output r_draft r_letters r_name r_kind r_vary r_flag r_rest r_more r_one r_two r_begin r_partName r_partType r_partNumber r_nextName r_nextKind r_nextVary r_nextFlag r_nextRest r_nextMore r_nextOne r_nextTwo r_nextBegin r_nextPartName r_nextPartType r_nextPartNumber r_apart r_leader r_number r_way r_seen r_told r_toldAt v_thrown v_taped v_written v_error v_stands v_many v_nextMany v_nextParts v_classes v_stringsAt v_stringsEnd v_drafted v_tolds v_stringsSize true 1) mX9_fails kX9_233 iX9_fails sX9_fails (by decide) rfl (by decide) 0 rfl rfl [0] rfl (by decide) rfl (Nat.le_of_ble_eq_true rfl) dX9_name_21 rfl (gBackU [0] rfl (fun v w1 y => by obtain ⟨_, rfl⟩ := y; rfl) ?_)
  rintro _ _ ⟨rfl, rfl⟩
  refine g_w (ws' := [(mo, .inr (8, [.int (nI 1), .ref r_tape, .int (nI v_taped), .ref r_output, .ref r_draft, .int (nI v_written), .int (nI v_error), .int (nI v_stands), .int (nI v_many), .ref r_letters, .ref r_name, .ref r_kind, .ref r_vary, .ref r_flag, .ref r_rest, .ref r_more, .ref r_one, .ref r_two, .ref r_begin, .ref r_partName, .ref r_partType, .ref r_partNumber, .int (nI v_nextMany), .int (nI v_nextParts), .ref r_nextName, .ref r_nextKind, .ref r_nextVary, .ref r_nextFlag, .ref r_nextRest, .ref r_nextMore, .ref r_nextOne, .ref r_nextTwo, .ref r_nextBegin, .ref r_nextPartName, .ref r_nextPartType, .ref r_nextPartNumber, .ref r_apart, .ref r_leader, .ref r_number, .int (nI v_classes), .int (nI v_stringsAt), .int (nI v_stringsEnd), .ref r_way, .ref r_seen, .int (nI v_drafted), .ref r_told, .ref r_toldAt, .int (nI v_tolds), .int (nI v_stringsSize)]))]) (rfl) ?_
  refine g_st (st' := [.int (bI true)]) rfl ?_
  refine g_ifB_eq (pc' := 27) (tgt := 29) hE dX9_name_24 rfl rfl (fun hc24 => ?_) (fun hc24 => ?_)
  · exact absurd hc24 (by decide)
  refine g_iconst (pc' := 28) hE (nI 0) (by decide) dX9_name_27 rfl ?_
  exact hE.iret (⟨rfl, rfl⟩) (Nat.zero_le _) (Nat.zero_le _) dX9_name_28
