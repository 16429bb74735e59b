set_option maxHeartbeats 4000000 in
set_option maxRecDepth 100000 in
theorem qX9_find (l : Launch) (D : va_G) (T : Nat → ClassId) (mo r_tape r_output r_draft r_letters r_name r_kind r_vary r_flag r_rest r_more r_one r_two r_begin r_partName r_partType r_partNumber r_nextName r_nextKind r_nextVary r_nextFlag r_nextRest r_nextMore r_nextOne r_nextTwo r_nextBegin r_nextPartName r_nextPartType r_nextPartNumber r_apart r_leader r_number r_way r_seen r_told r_toldAt v_thrown v_taped v_written v_error v_stands v_many v_nextMany v_nextParts v_classes v_stringsAt v_stringsEnd v_drafted v_tolds v_stringsSize : Nat) (t : Nat → Nat) (sg v_S : Nat) (f_letters : Nat → Nat) (f_name : Nat → Nat) (f_kind : Nat → Nat) (f_vary : Nat → Nat) (f_flag : Nat → Nat) (f_rest : Nat → Nat) (f_more : Nat → Nat) (f_one : Nat → Nat) (f_two : Nat → Nat) (f_begin : Nat → Nat) (f_partName : Nat → Nat) (f_partType : Nat → Nat) (f_partNumber : Nat → Nat) (f_tape : Nat → Nat) (k f : Nat) (hS : MS t sg v_S v_many f_letters f_name f_kind f_vary f_flag f_rest f_more f_one f_two f_begin f_partName f_partType f_partNumber) (ht : ∀ i, f_tape i < 256) (htc : v_taped ≤ 8192) (hk : k ≤ 13) (hf : 1 ≤ f ∧ f < 2 ^ 31) : Con l D T yX9_find cX9_find 5 (some .int) 2 0 0 [.ref mo, .int (nI k), .int (nI f)] [(mo, .inr (8, [.int (nI v_thrown), .ref r_tape, .int (nI v_taped), .ref r_output, .ref r_draft, .int (nI v_written), .int (nI v_error), .int (nI v_stands), .int (nI v_many), .ref r_letters, .ref r_name, .ref r_kind, .ref r_vary, .ref r_flag, .ref r_rest, .ref r_more, .ref r_one, .ref r_two, .ref r_begin, .ref r_partName, .ref r_partType, .ref r_partNumber, .int (nI v_nextMany), .int (nI v_nextParts), .ref r_nextName, .ref r_nextKind, .ref r_nextVary, .ref r_nextFlag, .ref r_nextRest, .ref r_nextMore, .ref r_nextOne, .ref r_nextTwo, .ref r_nextBegin, .ref r_nextPartName, .ref r_nextPartType, .ref r_nextPartNumber, .ref r_apart, .ref r_leader, .ref r_number, .int (nI v_classes), .int (nI v_stringsAt), .int (nI v_stringsEnd), .ref r_way, .ref r_seen, .int (nI v_drafted), .ref r_told, .ref r_toldAt, .int (nI v_tolds), .int (nI v_stringsSize)])), (r_kind, .inl (T 0, 202, .inl (fun z9 => nI (f_kind z9)))), (r_name, .inl (T 0, 202, .inl (fun z9 => nI (f_name z9)))), (r_letters, .inl (T 0, 8192, .inl (fun z9 => nI (f_letters z9)))), (r_tape, .inl (T 0, 8192, .inl (fun z9 => nI (f_tape z9))))] (fun v w1 => ∃ r : Nat, v = some (.int (nI r)) ∧ w1 = [(mo, .inr (8, [.int (nI 0), .ref r_tape, .int (nI 0), .ref r_output, .ref r_draft, .int (nI v_written), .int (nI v_error), .int (nI v_stands), .int (nI v_many), .ref r_letters, .ref r_name, .ref r_kind, .ref r_vary, .ref r_flag, .ref r_rest, .ref r_more, .ref r_one, .ref r_two, .ref r_begin, .ref r_partName, .ref r_partType, .ref r_partNumber, .int (nI v_nextMany), .int (nI v_nextParts), .ref r_nextName, .ref r_nextKind, .ref r_nextVary, .ref r_nextFlag, .ref r_nextRest, .ref r_nextMore, .ref r_nextOne, .ref r_nextTwo, .ref r_nextBegin, .ref r_nextPartName, .ref r_nextPartType, .ref r_nextPartNumber, .ref r_apart, .ref r_leader, .ref r_number, .int (nI v_classes), .int (nI v_stringsAt), .int (nI v_stringsEnd), .ref r_way, .ref r_seen, .int (nI v_drafted), .ref r_told, .ref r_toldAt, .int (nI v_tolds), .int (nI v_stringsSize)])), (r_kind, .inl (T 0, 202, .inl (fun z9 => nI (f_kind z9)))), (r_name, .inl (T 0, 202, .inl (fun z9 => nI (f_name z9)))), (r_letters, .inl (T 0, 8192, .inl (fun z9 => nI (f_letters z9)))), (r_tape, .inl (T 0, 8192, .inl (fun z9 => nI (f_tape z9))))] ∧ Least t sg v_many f_tape v_taped k f r) := by
  refine Con.of (by decide) (Nat.le_of_ble_eq_true rfl) ?_
  intro E hE
  have hN := hS.1.1.1
  have hS8 := hS.1.2.2.2.1
  refine g_lv (lv' := [(0, .ref mo), (1, .int (nI k)), (2, .int (nI f))]) [0, 1, 2] rfl ?_
  refine g_aload_n (pc' := 1) hE 0 rfl rfl dX9_find_0 rfl ?_
  refine g_iload_n (pc' := 2) hE 1 rfl rfl dX9_find_1 rfl ?_
  refine g_i2l (pc' := 3) hE (lN k) (nI_l (by omega)) dX9_find_2 rfl ?_
  refine g_lconst (pc' := 4) hE (lN 0) (by decide) dX9_find_3 rfl ?_
  refine g_ldc2 (pc' := 7) hE (v := lN 13) kX9_252 dX9_find_4 rfl ?_
  refine g_callS (pc' := 10) (As := [.long (lN k), .long (lN 0), .long (lN 13)]) (rest := [.ref mo]) hE (qX9_in l D T (lN k) (lN 0) (lN 13)) mX9_in kX9_174 iX9_in (by decide) rfl (by decide) [] rfl (by decide) rfl (Nat.le_of_ble_eq_true rfl) dX9_find_7 rfl (gBackR [] rfl ?_)
  rintro _ rfl
  refine g_st (st' := [.int (bI (inB (lN k) (lN 0) (lN 13))), .ref mo]) rfl ?_
  refine g_ifB_eq (pc' := 13) (tgt := 18) hE dX9_find_10 rfl rfl (fun hc10 => ?_) (fun hc10 => ?_)
  · (rw [inB_N (by omega) (by omega) (by omega)] at hc10; exact absurd (of_decide_eq_false hc10) (by omega))
  refine g_iload_n (pc' := 14) hE 2 rfl rfl dX9_find_13 rfl ?_
  refine g_iconst (pc' := 15) hE (nI 1) (by decide) dX9_find_14 rfl ?_
  refine g_icmpN_ge (pc' := 18) (tgt := 22) hE (by omega) (by omega) dX9_find_15 rfl rfl (fun hc15 => ?_) (fun hc15 => ?_)
  rotate_left
  · omega
  refine g_iconst (pc' := 23) hE (nI 0) (by decide) dX9_find_22 rfl ?_
  refine g_iconst (pc' := 24) hE (nI 1) (by decide) dX9_find_23 rfl ?_
  refine g_callV (pc' := 27) (As := [.int (nI 0), .int (nI 1)]) (rest := []) hE (qX9_fails l D T mo r_tape r_output r_draft r_letters r_name r_kind r_vary r_flag r_rest r_more r_one r_two r_begin r_partName r_partType r_partNumber r_nextName r_nextKind r_nextVary r_nextFlag r_nextRest r_nextMore r_nextOne r_nextTwo r_nextBegin r_nextPartName r_nextPartType r_nextPartNumber r_apart r_leader r_number r_way r_seen r_told r_toldAt v_thrown v_taped v_written v_error v_stands v_many v_nextMany v_nextParts v_classes v_stringsAt v_stringsEnd v_drafted v_tolds v_stringsSize false 1) mX9_fails kX9_233 iX9_fails sX9_fails (by decide) rfl (by decide) 0 rfl rfl [0] rfl (by decide) rfl (Nat.le_of_ble_eq_true rfl) dX9_find_24 rfl (gBackU [0] rfl (fun v w1 y => by obtain ⟨_, rfl⟩ := y; rfl) ?_)
  rintro _ _ ⟨rfl, rfl⟩
  refine g_w (ws' := [(mo, .inr (8, [.int (nI 0), .ref r_tape, .int (nI v_taped), .ref r_output, .ref r_draft, .int (nI v_written), .int (nI v_error), .int (nI v_stands), .int (nI v_many), .ref r_letters, .ref r_name, .ref r_kind, .ref r_vary, .ref r_flag, .ref r_rest, .ref r_more, .ref r_one, .ref r_two, .ref r_begin, .ref r_partName, .ref r_partType, .ref r_partNumber, .int (nI v_nextMany), .int (nI v_nextParts), .ref r_nextName, .ref r_nextKind, .ref r_nextVary, .ref r_nextFlag, .ref r_nextRest, .ref r_nextMore, .ref r_nextOne, .ref r_nextTwo, .ref r_nextBegin, .ref r_nextPartName, .ref r_nextPartType, .ref r_nextPartNumber, .ref r_apart, .ref r_leader, .ref r_number, .int (nI v_classes), .int (nI v_stringsAt), .int (nI v_stringsEnd), .ref r_way, .ref r_seen, .int (nI v_drafted), .ref r_told, .ref r_toldAt, .int (nI v_tolds), .int (nI v_stringsSize)])), (r_kind, .inl (T 0, 202, .inl (fun z9 => nI (f_kind z9)))), (r_name, .inl (T 0, 202, .inl (fun z9 => nI (f_name z9)))), (r_letters, .inl (T 0, 8192, .inl (fun z9 => nI (f_letters z9)))), (r_tape, .inl (T 0, 8192, .inl (fun z9 => nI (f_tape z9))))]) (rfl) ?_
  refine g_st (st' := [.int (bI false)]) rfl ?_
  refine g_ifB_eq (pc' := 30) (tgt := 32) hE dX9_find_27 rfl rfl (fun hc27 => ?_) (fun hc27 => ?_)
  rotate_left
  · exact absurd hc27 (by decide)
  refine g_iconst (pc' := 33) hE (nI 0) (by decide) dX9_find_32 rfl ?_
  refine g_istore_n (pc' := 34) hE [(3, .int (nI 0)), (0, .ref mo), (1, .int (nI k)), (2, .int (nI f))] dX9_find_33 rfl rfl (by decide) rfl ?_
  refine g_iload_n (pc' := 35) hE 3 rfl rfl dX9_find_34 rfl ?_
  refine g_istore (pc' := 37) hE [(4, .int (nI f)), (3, .int (nI 0)), (0, .ref mo), (1, .int (nI k)), (2, .int (nI f))] dX9_find_35 rfl (by decide) rfl ?_
  refine (show ∀ (d37 : Nat) (u : Nat) (r : Nat), v_many + 1 - u = d37 → (f ≤ u ∧ u < 2 ^ 31) → (r ≤ v_many) → ((r = 0 ∧ ∀ i, f ≤ i → i < u → i ≤ v_many → ¬ Named t sg f_tape v_taped k i) ∨ (r ≠ 0 ∧ f ≤ r ∧ r ≤ v_many ∧ Named t sg f_tape v_taped k r ∧ ∀ i, f ≤ i → i < r → ¬ Named t sg f_tape v_taped k i)) → G l E D 5 0 0 [(mo, .inr (8, [.int (nI 0), .ref r_tape, .int (nI v_taped), .ref r_output, .ref r_draft, .int (nI v_written), .int (nI v_error), .int (nI v_stands), .int (nI v_many), .ref r_letters, .ref r_name, .ref r_kind, .ref r_vary, .ref r_flag, .ref r_rest, .ref r_more, .ref r_one, .ref r_two, .ref r_begin, .ref r_partName, .ref r_partType, .ref r_partNumber, .int (nI v_nextMany), .int (nI v_nextParts), .ref r_nextName, .ref r_nextKind, .ref r_nextVary, .ref r_nextFlag, .ref r_nextRest, .ref r_nextMore, .ref r_nextOne, .ref r_nextTwo, .ref r_nextBegin, .ref r_nextPartName, .ref r_nextPartType, .ref r_nextPartNumber, .ref r_apart, .ref r_leader, .ref r_number, .int (nI v_classes), .int (nI v_stringsAt), .int (nI v_stringsEnd), .ref r_way, .ref r_seen, .int (nI v_drafted), .ref r_told, .ref r_toldAt, .int (nI v_tolds), .int (nI v_stringsSize)])), (r_kind, .inl (T 0, 202, .inl (fun z9 => nI (f_kind z9)))), (r_name, .inl (T 0, 202, .inl (fun z9 => nI (f_name z9)))), (r_letters, .inl (T 0, 8192, .inl (fun z9 => nI (f_letters z9)))), (r_tape, .inl (T 0, 8192, .inl (fun z9 => nI (f_tape z9))))] [(4, .int (nI u)), (3, .int (nI r)), (0, .ref mo), (1, .int (nI k)), (2, .int (nI f))] 37 [] from ?_) _ f 0 rfl (by omega) (by omega) (Or.inl ⟨rfl, fun i a b => absurd b (by omega)⟩)
  intro d37
  induction d37 using Nat.strongRecOn with
  | _ d37 ih37 =>
  intro u r hd37 hu hr hL
  refine g_iload (pc' := 39) hE 0 rfl dX9_find_37 rfl ?_
  refine g_aload_n (pc' := 40) hE 2 rfl rfl dX9_find_39 rfl ?_
  refine g_get (pc' := 43) hE gcX9 0 rfl 8 (by decide) rfl kX9_203 dX9_find_40 rfl ?_
  refine g_icmpN_gt (pc' := 46) (tgt := 92) hE (by omega) (by omega) dX9_find_43 rfl rfl (fun hc43 => ?_) (fun hc43 => ?_)
  · refine g_aload_n (pc' := 93) hE 2 rfl rfl dX9_find_92 rfl ?_
    refine g_iconst (pc' := 94) hE (nI 0) (by decide) dX9_find_93 rfl ?_
    refine g_put (pc' := 97) hE gcX9 0 rfl 2 [(mo, .inr (8, [.int (nI 0), .ref r_tape, .int (nI 0), .ref r_output, .ref r_draft, .int (nI v_written), .int (nI v_error), .int (nI v_stands), .int (nI v_many), .ref r_letters, .ref r_name, .ref r_kind, .ref r_vary, .ref r_flag, .ref r_rest, .ref r_more, .ref r_one, .ref r_two, .ref r_begin, .ref r_partName, .ref r_partType, .ref r_partNumber, .int (nI v_nextMany), .int (nI v_nextParts), .ref r_nextName, .ref r_nextKind, .ref r_nextVary, .ref r_nextFlag, .ref r_nextRest, .ref r_nextMore, .ref r_nextOne, .ref r_nextTwo, .ref r_nextBegin, .ref r_nextPartName, .ref r_nextPartType, .ref r_nextPartNumber, .ref r_apart, .ref r_leader, .ref r_number, .int (nI v_classes), .int (nI v_stringsAt), .int (nI v_stringsEnd), .ref r_way, .ref r_seen, .int (nI v_drafted), .ref r_told, .ref r_toldAt, .int (nI v_tolds), .int (nI v_stringsSize)])), (r_kind, .inl (T 0, 202, .inl (fun z9 => nI (f_kind z9)))), (r_name, .inl (T 0, 202, .inl (fun z9 => nI (f_name z9)))), (r_letters, .inl (T 0, 8192, .inl (fun z9 => nI (f_letters z9)))), (r_tape, .inl (T 0, 8192, .inl (fun z9 => nI (f_tape z9))))] (by decide) (Nat.le_of_ble_eq_true rfl) rfl rfl rfl rfl kX9_131 dX9_find_94 rfl ?_
    refine g_iload_n (pc' := 98) hE 1 rfl rfl dX9_find_97 rfl ?_
    exact hE.iret (⟨r, rfl, rfl, by rcases hL with ⟨h1, h2⟩ | ⟨h1, h2, h3, h4, h5⟩; (exact Or.inl ⟨h1, fun i a b => h2 i a (by omega) b⟩); exact Or.inr ⟨h2, h3, h4, h5⟩⟩) (Nat.zero_le _) (Nat.zero_le _) dX9_find_98
  · refine g_iload_n (pc' := 47) hE 1 rfl rfl dX9_find_46 rfl ?_
    refine g_ifN_ne (pc' := 50) (tgt := 92) hE (by omega) dX9_find_47 rfl rfl (fun hc47 => ?_) (fun hc47 => ?_)
    · refine g_aload_n (pc' := 93) hE 2 rfl rfl dX9_find_92 rfl ?_
      refine g_iconst (pc' := 94) hE (nI 0) (by decide) dX9_find_93 rfl ?_
      refine g_put (pc' := 97) hE gcX9 0 rfl 2 [(mo, .inr (8, [.int (nI 0), .ref r_tape, .int (nI 0), .ref r_output, .ref r_draft, .int (nI v_written), .int (nI v_error), .int (nI v_stands), .int (nI v_many), .ref r_letters, .ref r_name, .ref r_kind, .ref r_vary, .ref r_flag, .ref r_rest, .ref r_more, .ref r_one, .ref r_two, .ref r_begin, .ref r_partName, .ref r_partType, .ref r_partNumber, .int (nI v_nextMany), .int (nI v_nextParts), .ref r_nextName, .ref r_nextKind, .ref r_nextVary, .ref r_nextFlag, .ref r_nextRest, .ref r_nextMore, .ref r_nextOne, .ref r_nextTwo, .ref r_nextBegin, .ref r_nextPartName, .ref r_nextPartType, .ref r_nextPartNumber, .ref r_apart, .ref r_leader, .ref r_number, .int (nI v_classes), .int (nI v_stringsAt), .int (nI v_stringsEnd), .ref r_way, .ref r_seen, .int (nI v_drafted), .ref r_told, .ref r_toldAt, .int (nI v_tolds), .int (nI v_stringsSize)])), (r_kind, .inl (T 0, 202, .inl (fun z9 => nI (f_kind z9)))), (r_name, .inl (T 0, 202, .inl (fun z9 => nI (f_name z9)))), (r_letters, .inl (T 0, 8192, .inl (fun z9 => nI (f_letters z9)))), (r_tape, .inl (T 0, 8192, .inl (fun z9 => nI (f_tape z9))))] (by decide) (Nat.le_of_ble_eq_true rfl) rfl rfl rfl rfl kX9_131 dX9_find_94 rfl ?_
      refine g_iload_n (pc' := 98) hE 1 rfl rfl dX9_find_97 rfl ?_
      exact hE.iret (⟨r, rfl, rfl, by rcases hL with ⟨h1, h2⟩ | ⟨h1, h2, h3, h4, h5⟩; (exact Or.inl ⟨h1, fun i a b => h2 i a (by omega) b⟩); exact Or.inr ⟨h2, h3, h4, h5⟩⟩) (Nat.zero_le _) (Nat.zero_le _) dX9_find_98
    · have h1u : 1 ≤ u := by omega
      have h2u : u ≤ v_many := by omega
      obtain ⟨au, ⟨nu1, nu2⟩, ⟨ku1, ku2, ku3⟩, ⟨vu1, vu2⟩, ⟨fu1, fu2⟩, ⟨ru1, ru2⟩, ⟨mu1, mu2⟩, ⟨ou1, ou2⟩, ⟨tu1, tu2⟩, ⟨bu1, bu2, bu3⟩, ⟨gu1, gu2⟩, pu⟩ := hS.at h1u h2u
      have hL0 : ∀ i, f ≤ i → i < u → i ≤ v_many → ¬ Named t sg f_tape v_taped k i := by rcases hL with ⟨_, h⟩ | ⟨h, _⟩; exact h; exact absurd hc47 h
      have hnm := hS.named (tb := f_tape) (tc := v_taped) (k := k) h1u h2u
      refine g_iload_n (pc' := 51) hE 3 rfl rfl dX9_find_50 rfl ?_
      refine g_ifN_eq (pc' := 54) (tgt := 65) hE (by omega) dX9_find_51 rfl rfl (fun hc51 => ?_) (fun hc51 => ?_)
      · refine g_aload_n (pc' := 66) hE 2 rfl rfl dX9_find_65 rfl ?_
        refine g_aload_n (pc' := 67) hE 2 rfl rfl dX9_find_66 rfl ?_
        refine g_get (pc' := 70) hE gcX9 0 rfl 10 (by decide) rfl kX9_22 dX9_find_67 rfl ?_
        refine g_iload (pc' := 72) hE 0 rfl dX9_find_70 rfl ?_
        refine g_iald (pc' := 73) hE 2 rfl (by omega) (by omega) dX9_find_72 rfl ?_
        refine g_callV (pc' := 76) (As := [.int (nI (f_name u))]) (rest := []) hE (qX9_isTape l D T mo r_tape r_output r_draft r_letters r_name r_kind r_vary r_flag r_rest r_more r_one r_two r_begin r_partName r_partType r_partNumber r_nextName r_nextKind r_nextVary r_nextFlag r_nextRest r_nextMore r_nextOne r_nextTwo r_nextBegin r_nextPartName r_nextPartType r_nextPartNumber r_apart r_leader r_number r_way r_seen r_told r_toldAt 0 v_taped v_written v_error v_stands v_many v_nextMany v_nextParts v_classes v_stringsAt v_stringsEnd v_drafted v_tolds v_stringsSize f_letters f_tape v_S (f_name u) hS.2.1.2 (by omega) hS.z nu2 ht htc) mX9_isTape kX9_254 iX9_isTape sX9_isTape (by decide) rfl (by decide) 0 rfl rfl [0, 3, 4] rfl (by decide) rfl (Nat.le_of_ble_eq_true rfl) dX9_find_73 rfl (gBackR [0, 3, 4] rfl ?_)
        rintro _ ⟨z, rfl, hz⟩
        refine g_st (st' := [.int (bI z)]) rfl ?_
        refine g_ifB_eq (pc' := 79) (tgt := 84) hE dX9_find_76 rfl rfl (fun hc76 => ?_) (fun hc76 => ?_)
        · refine g_iconst (pc' := 85) hE (nI 0) (by decide) dX9_find_84 rfl ?_
          refine g_istore_n (pc' := 86) hE [(3, .int (nI 0)), (4, .int (nI u)), (0, .ref mo), (1, .int (nI k)), (2, .int (nI f))] dX9_find_85 rfl rfl (by decide) rfl ?_
          refine g_iinc (pc' := 89) hE (nI (u + 1)) [(4, .int (nI (u + 1))), (3, .int (nI 0)), (0, .ref mo), (1, .int (nI k)), (2, .int (nI f))] 1 rfl dX9_find_86 rfl (g_incN _ 1) (by decide) rfl ?_
          refine g_goto (tgt := 37) hE dX9_find_89 rfl ?_
          exact ih37 _ (by omega) (u + 1) 0 rfl (by omega) (by omega) (Or.inl ⟨rfl, fun i a b c => by by_cases e : i = u; (subst e; intro h; rw [hz.mpr (hnm.mp h).2] at hc76; cases hc76); exact hL0 i a (by omega) c⟩)
        · refine g_iload (pc' := 81) hE 0 rfl dX9_find_79 rfl ?_
          refine g_goto (tgt := 85) hE dX9_find_81 rfl ?_
          refine g_istore_n (pc' := 86) hE [(3, .int (nI u)), (4, .int (nI u)), (0, .ref mo), (1, .int (nI k)), (2, .int (nI f))] dX9_find_85 rfl rfl (by decide) rfl ?_
          refine g_iinc (pc' := 89) hE (nI (u + 1)) [(4, .int (nI (u + 1))), (3, .int (nI u)), (0, .ref mo), (1, .int (nI k)), (2, .int (nI f))] 1 rfl dX9_find_86 rfl (g_incN _ 1) (by decide) rfl ?_
          refine g_goto (tgt := 37) hE dX9_find_89 rfl ?_
          exact ih37 _ (by omega) (u + 1) u rfl (by omega) (by omega) (Or.inr ⟨by omega, by omega, h2u, hnm.mpr ⟨by omega, hz.mp hc76⟩, fun i a b => hL0 i a b (by omega)⟩)
      · refine g_aload_n (pc' := 55) hE 2 rfl rfl dX9_find_54 rfl ?_
        refine g_get (pc' := 58) hE gcX9 0 rfl 11 (by decide) rfl kX9_25 dX9_find_55 rfl ?_
        refine g_iload (pc' := 60) hE 0 rfl dX9_find_58 rfl ?_
        refine g_iald (pc' := 61) hE 1 rfl (by omega) (by omega) dX9_find_60 rfl ?_
        refine g_iload_n (pc' := 62) hE 3 rfl rfl dX9_find_61 rfl ?_
        refine g_icmpN_ne (pc' := 65) (tgt := 84) hE (by omega) (by omega) dX9_find_62 rfl rfl (fun hc62 => ?_) (fun hc62 => ?_)
        · refine g_iconst (pc' := 85) hE (nI 0) (by decide) dX9_find_84 rfl ?_
          refine g_istore_n (pc' := 86) hE [(3, .int (nI 0)), (4, .int (nI u)), (0, .ref mo), (1, .int (nI k)), (2, .int (nI f))] dX9_find_85 rfl rfl (by decide) rfl ?_
          refine g_iinc (pc' := 89) hE (nI (u + 1)) [(4, .int (nI (u + 1))), (3, .int (nI 0)), (0, .ref mo), (1, .int (nI k)), (2, .int (nI f))] 1 rfl dX9_find_86 rfl (g_incN _ 1) (by decide) rfl ?_
          refine g_goto (tgt := 37) hE dX9_find_89 rfl ?_
          exact ih37 _ (by omega) (u + 1) 0 rfl (by omega) (by omega) (Or.inl ⟨rfl, fun i a b c => by by_cases e : i = u; (subst e; intro h; have := (hnm.mp h).1; omega); exact hL0 i a (by omega) c⟩)
        · refine g_aload_n (pc' := 66) hE 2 rfl rfl dX9_find_65 rfl ?_
          refine g_aload_n (pc' := 67) hE 2 rfl rfl dX9_find_66 rfl ?_
          refine g_get (pc' := 70) hE gcX9 0 rfl 10 (by decide) rfl kX9_22 dX9_find_67 rfl ?_
          refine g_iload (pc' := 72) hE 0 rfl dX9_find_70 rfl ?_
          refine g_iald (pc' := 73) hE 2 rfl (by omega) (by omega) dX9_find_72 rfl ?_
          refine g_callV (pc' := 76) (As := [.int (nI (f_name u))]) (rest := []) hE (qX9_isTape l D T mo r_tape r_output r_draft r_letters r_name r_kind r_vary r_flag r_rest r_more r_one r_two r_begin r_partName r_partType r_partNumber r_nextName r_nextKind r_nextVary r_nextFlag r_nextRest r_nextMore r_nextOne r_nextTwo r_nextBegin r_nextPartName r_nextPartType r_nextPartNumber r_apart r_leader r_number r_way r_seen r_told r_toldAt 0 v_taped v_written v_error v_stands v_many v_nextMany v_nextParts v_classes v_stringsAt v_stringsEnd v_drafted v_tolds v_stringsSize f_letters f_tape v_S (f_name u) hS.2.1.2 (by omega) hS.z nu2 ht htc) mX9_isTape kX9_254 iX9_isTape sX9_isTape (by decide) rfl (by decide) 0 rfl rfl [0, 3, 4] rfl (by decide) rfl (Nat.le_of_ble_eq_true rfl) dX9_find_73 rfl (gBackR [0, 3, 4] rfl ?_)
          rintro _ ⟨z, rfl, hz⟩
          refine g_st (st' := [.int (bI z)]) rfl ?_
          refine g_ifB_eq (pc' := 79) (tgt := 84) hE dX9_find_76 rfl rfl (fun hc76 => ?_) (fun hc76 => ?_)
          · refine g_iconst (pc' := 85) hE (nI 0) (by decide) dX9_find_84 rfl ?_
            refine g_istore_n (pc' := 86) hE [(3, .int (nI 0)), (4, .int (nI u)), (0, .ref mo), (1, .int (nI k)), (2, .int (nI f))] dX9_find_85 rfl rfl (by decide) rfl ?_
            refine g_iinc (pc' := 89) hE (nI (u + 1)) [(4, .int (nI (u + 1))), (3, .int (nI 0)), (0, .ref mo), (1, .int (nI k)), (2, .int (nI f))] 1 rfl dX9_find_86 rfl (g_incN _ 1) (by decide) rfl ?_
            refine g_goto (tgt := 37) hE dX9_find_89 rfl ?_
            exact ih37 _ (by omega) (u + 1) 0 rfl (by omega) (by omega) (Or.inl ⟨rfl, fun i a b c => by by_cases e : i = u; (subst e; intro h; rw [hz.mpr (hnm.mp h).2] at hc76; cases hc76); exact hL0 i a (by omega) c⟩)
          · refine g_iload (pc' := 81) hE 0 rfl dX9_find_79 rfl ?_
            refine g_goto (tgt := 85) hE dX9_find_81 rfl ?_
            refine g_istore_n (pc' := 86) hE [(3, .int (nI u)), (4, .int (nI u)), (0, .ref mo), (1, .int (nI k)), (2, .int (nI f))] dX9_find_85 rfl rfl (by decide) rfl ?_
            refine g_iinc (pc' := 89) hE (nI (u + 1)) [(4, .int (nI (u + 1))), (3, .int (nI u)), (0, .ref mo), (1, .int (nI k)), (2, .int (nI f))] 1 rfl dX9_find_86 rfl (g_incN _ 1) (by decide) rfl ?_
            refine g_goto (tgt := 37) hE dX9_find_89 rfl ?_
            exact ih37 _ (by omega) (u + 1) u rfl (by omega) (by omega) (Or.inr ⟨by omega, by omega, h2u, hnm.mpr ⟨by omega, hz.mp hc76⟩, fun i a b => hL0 i a b (by omega)⟩)

set_option maxHeartbeats 4000000 in
set_option maxRecDepth 100000 in
theorem qX9_findX (l : Launch) (D : va_G) (T : Nat → ClassId) (mo r_tape r_output r_draft r_letters r_name r_kind r_vary r_flag r_rest r_more r_one r_two r_begin r_partName r_partType r_partNumber r_nextName r_nextKind r_nextVary r_nextFlag r_nextRest r_nextMore r_nextOne r_nextTwo r_nextBegin r_nextPartName r_nextPartType r_nextPartNumber r_apart r_leader r_number r_way r_seen r_told r_toldAt v_thrown v_taped v_written v_error v_stands v_many v_nextMany v_nextParts v_classes v_stringsAt v_stringsEnd v_drafted v_tolds v_stringsSize : Nat) (x y : Int32) (hv : ¬ (inB x.toInt64 (lN 0) (lN 13) = true ∧ nI 1 ≤ y)) : Con l D T yX9_find cX9_find 5 (some .int) 2 0 0 [.ref mo, .int x, .int y] [(mo, .inr (8, [.int (nI v_thrown), .ref r_tape, .int (nI v_taped), .ref r_output, .ref r_draft, .int (nI v_written), .int (nI v_error), .int (nI v_stands), .int (nI v_many), .ref r_letters, .ref r_name, .ref r_kind, .ref r_vary, .ref r_flag, .ref r_rest, .ref r_more, .ref r_one, .ref r_two, .ref r_begin, .ref r_partName, .ref r_partType, .ref r_partNumber, .int (nI v_nextMany), .int (nI v_nextParts), .ref r_nextName, .ref r_nextKind, .ref r_nextVary, .ref r_nextFlag, .ref r_nextRest, .ref r_nextMore, .ref r_nextOne, .ref r_nextTwo, .ref r_nextBegin, .ref r_nextPartName, .ref r_nextPartType, .ref r_nextPartNumber, .ref r_apart, .ref r_leader, .ref r_number, .int (nI v_classes), .int (nI v_stringsAt), .int (nI v_stringsEnd), .ref r_way, .ref r_seen, .int (nI v_drafted), .ref r_told, .ref r_toldAt, .int (nI v_tolds), .int (nI v_stringsSize)]))] (fun v w1 => v = some (.int (nI 0)) ∧ w1 = [(mo, .inr (8, [.int (nI 1), .ref r_tape, .int (nI v_taped), .ref r_output, .ref r_draft, .int (nI v_written), .int (nI v_error), .int (nI v_stands), .int (nI v_many), .ref r_letters, .ref r_name, .ref r_kind, .ref r_vary, .ref r_flag, .ref r_rest, .ref r_more, .ref r_one, .ref r_two, .ref r_begin, .ref r_partName, .ref r_partType, .ref r_partNumber, .int (nI v_nextMany), .int (nI v_nextParts), .ref r_nextName, .ref r_nextKind, .ref r_nextVary, .ref r_nextFlag, .ref r_nextRest, .ref r_nextMore, .ref r_nextOne, .ref r_nextTwo, .ref r_nextBegin, .ref r_nextPartName, .ref r_nextPartType, .ref r_nextPartNumber, .ref r_apart, .ref r_leader, .ref r_number, .int (nI v_classes), .int (nI v_stringsAt), .int (nI v_stringsEnd), .ref r_way, .ref r_seen, .int (nI v_drafted), .ref r_told, .ref r_toldAt, .int (nI v_tolds), .int (nI v_stringsSize)]))]) := by
  refine Con.of (by decide) (Nat.le_of_ble_eq_true rfl) ?_
  intro E hE
  refine g_lv (lv' := [(0, .ref mo), (1, .int x), (2, .int y)]) [0, 1, 2] rfl ?_
  refine g_aload_n (pc' := 1) hE 0 rfl rfl dX9_find_0 rfl ?_
  refine g_iload_n (pc' := 2) hE 1 rfl rfl dX9_find_1 rfl ?_
  refine g_i2l (pc' := 3) hE (x.toInt64) rfl dX9_find_2 rfl ?_
  refine g_lconst (pc' := 4) hE (lN 0) (by decide) dX9_find_3 rfl ?_
  refine g_ldc2 (pc' := 7) hE (v := lN 13) kX9_252 dX9_find_4 rfl ?_
  refine g_callS (pc' := 10) (As := [.long x.toInt64, .long (lN 0), .long (lN 13)]) (rest := [.ref mo]) hE (qX9_in l D T x.toInt64 (lN 0) (lN 13)) mX9_in kX9_174 iX9_in (by decide) rfl (by decide) [] rfl (by decide) rfl (Nat.le_of_ble_eq_true rfl) dX9_find_7 rfl (gBackR [] rfl ?_)
  rintro _ rfl
  refine g_st (st' := [.int (bI (inB x.toInt64 (lN 0) (lN 13))), .ref mo]) rfl ?_
  refine g_ifB_eq (pc' := 13) (tgt := 18) hE dX9_find_10 rfl rfl (fun hc10 => ?_) (fun hc10 => ?_)
  · refine g_iconst (pc' := 19) hE (nI 1) (by decide) dX9_find_18 rfl ?_
    refine g_goto (tgt := 23) hE dX9_find_19 rfl ?_
    refine g_iconst (pc' := 24) hE (nI 1) (by decide) dX9_find_23 rfl ?_
    refine g_callV (pc' := 27) (As := [.int (nI 1), .int (nI 1)]) (rest := []) hE (qX9_fails l D T mo r_tape r_output r_draft r_letters r_name r_kind r_vary r_flag r_rest r_more r_one r_two r_begin r_partName r_partType r_partNumber r_nextName r_nextKind r_nextVary r_nextFlag r_nextRest r_nextMore r_nextOne r_nextTwo r_nextBegin r_nextPartName r_nextPartType r_nextPartNumber r_apart r_leader r_number r_way r_seen r_told r_toldAt v_thrown v_taped v_written v_error v_stands v_many v_nextMany v_nextParts v_classes v_stringsAt v_stringsEnd v_drafted v_tolds v_stringsSize true 1) mX9_fails kX9_233 iX9_fails sX9_fails (by decide) rfl (by decide) 0 rfl rfl [0] rfl (by decide) rfl (Nat.le_of_ble_eq_true rfl) dX9_find_24 rfl (gBackU [0] rfl (fun v w1 y => by obtain ⟨_, rfl⟩ := y; rfl) ?_)
    rintro _ _ ⟨rfl, rfl⟩
    refine g_w (ws' := [(mo, .inr (8, [.int (nI 1), .ref r_tape, .int (nI v_taped), .ref r_output, .ref r_draft, .int (nI v_written), .int (nI v_error), .int (nI v_stands), .int (nI v_many), .ref r_letters, .ref r_name, .ref r_kind, .ref r_vary, .ref r_flag, .ref r_rest, .ref r_more, .ref r_one, .ref r_two, .ref r_begin, .ref r_partName, .ref r_partType, .ref r_partNumber, .int (nI v_nextMany), .int (nI v_nextParts), .ref r_nextName, .ref r_nextKind, .ref r_nextVary, .ref r_nextFlag, .ref r_nextRest, .ref r_nextMore, .ref r_nextOne, .ref r_nextTwo, .ref r_nextBegin, .ref r_nextPartName, .ref r_nextPartType, .ref r_nextPartNumber, .ref r_apart, .ref r_leader, .ref r_number, .int (nI v_classes), .int (nI v_stringsAt), .int (nI v_stringsEnd), .ref r_way, .ref r_seen, .int (nI v_drafted), .ref r_told, .ref r_toldAt, .int (nI v_tolds), .int (nI v_stringsSize)]))]) (rfl) ?_
    refine g_st (st' := [.int (bI true)]) rfl ?_
    refine g_ifB_eq (pc' := 30) (tgt := 32) hE dX9_find_27 rfl rfl (fun hc27 => ?_) (fun hc27 => ?_)
    · exact absurd hc27 (by decide)
    refine g_iconst (pc' := 31) hE (nI 0) (by decide) dX9_find_30 rfl ?_
    exact hE.iret (⟨rfl, rfl⟩) (Nat.zero_le _) (Nat.zero_le _) dX9_find_31
  · refine g_iload_n (pc' := 14) hE 2 rfl rfl dX9_find_13 rfl ?_
    refine g_iconst (pc' := 15) hE (nI 1) (by decide) dX9_find_14 rfl ?_
    refine g_icmp_ge (pc' := 18) (tgt := 22) hE dX9_find_15 rfl rfl (fun hc15 => ?_) (fun hc15 => ?_)
    · exact absurd ⟨hc10, hc15⟩ hv
    refine g_iconst (pc' := 19) hE (nI 1) (by decide) dX9_find_18 rfl ?_
    refine g_goto (tgt := 23) hE dX9_find_19 rfl ?_
    refine g_iconst (pc' := 24) hE (nI 1) (by decide) dX9_find_23 rfl ?_
    refine g_callV (pc' := 27) (As := [.int (nI 1), .int (nI 1)]) (rest := []) hE (qX9_fails l D T mo r_tape r_output r_draft r_letters r_name r_kind r_vary r_flag r_rest r_more r_one r_two r_begin r_partName r_partType r_partNumber r_nextName r_nextKind r_nextVary r_nextFlag r_nextRest r_nextMore r_nextOne r_nextTwo r_nextBegin r_nextPartName r_nextPartType r_nextPartNumber r_apart r_leader r_number r_way r_seen r_told r_toldAt v_thrown v_taped v_written v_error v_stands v_many v_nextMany v_nextParts v_classes v_stringsAt v_stringsEnd v_drafted v_tolds v_stringsSize true 1) mX9_fails kX9_233 iX9_fails sX9_fails (by decide) rfl (by decide) 0 rfl rfl [0] rfl (by decide) rfl (Nat.le_of_ble_eq_true rfl) dX9_find_24 rfl (gBackU [0] rfl (fun v w1 y => by obtain ⟨_, rfl⟩ := y; rfl) ?_)
    rintro _ _ ⟨rfl, rfl⟩
    refine g_w (ws' := [(mo, .inr (8, [.int (nI 1), .ref r_tape, .int (nI v_taped), .ref r_output, .ref r_draft, .int (nI v_written), .int (nI v_error), .int (nI v_stands), .int (nI v_many), .ref r_letters, .ref r_name, .ref r_kind, .ref r_vary, .ref r_flag, .ref r_rest, .ref r_more, .ref r_one, .ref r_two, .ref r_begin, .ref r_partName, .ref r_partType, .ref r_partNumber, .int (nI v_nextMany), .int (nI v_nextParts), .ref r_nextName, .ref r_nextKind, .ref r_nextVary, .ref r_nextFlag, .ref r_nextRest, .ref r_nextMore, .ref r_nextOne, .ref r_nextTwo, .ref r_nextBegin, .ref r_nextPartName, .ref r_nextPartType, .ref r_nextPartNumber, .ref r_apart, .ref r_leader, .ref r_number, .int (nI v_classes), .int (nI v_stringsAt), .int (nI v_stringsEnd), .ref r_way, .ref r_seen, .int (nI v_drafted), .ref r_told, .ref r_toldAt, .int (nI v_tolds), .int (nI v_stringsSize)]))]) (rfl) ?_
    refine g_st (st' := [.int (bI true)]) rfl ?_
    refine g_ifB_eq (pc' := 30) (tgt := 32) hE dX9_find_27 rfl rfl (fun hc27 => ?_) (fun hc27 => ?_)
    · exact absurd hc27 (by decide)
    refine g_iconst (pc' := 31) hE (nI 0) (by decide) dX9_find_30 rfl ?_
    exact hE.iret (⟨rfl, rfl⟩) (Nat.zero_le _) (Nat.zero_le _) dX9_find_31

set_option maxHeartbeats 4000000 in
set_option maxRecDepth 100000 in
theorem qX9_sized (l : Launch) (D : va_G) (T : Nat → ClassId) (mo r_tape r_output r_draft r_letters r_name r_kind r_vary r_flag r_rest r_more r_one r_two r_begin r_partName r_partType r_partNumber r_nextName r_nextKind r_nextVary r_nextFlag r_nextRest r_nextMore r_nextOne r_nextTwo r_nextBegin r_nextPartName r_nextPartType r_nextPartNumber r_apart r_leader r_number r_way r_seen r_told r_toldAt v_thrown v_taped v_written v_error v_stands v_many v_nextMany v_nextParts v_classes v_stringsAt v_stringsEnd v_drafted v_tolds v_stringsSize : Nat) (t : Nat → Nat) (sg v_S : Nat) (f_letters : Nat → Nat) (f_name : Nat → Nat) (f_kind : Nat → Nat) (f_vary : Nat → Nat) (f_flag : Nat → Nat) (f_rest : Nat → Nat) (f_more : Nat → Nat) (f_one : Nat → Nat) (f_two : Nat → Nat) (f_begin : Nat → Nat) (f_partName : Nat → Nat) (f_partType : Nat → Nat) (f_partNumber : Nat → Nat) (f_way : Nat → Nat) (i : Nat) (hS : MS t sg v_S v_many f_letters f_name f_kind f_vary f_flag f_rest f_more f_one f_two f_begin f_partName f_partType f_partNumber) (hi : i ≤ v_many) : Con l D T yX9_sized cX9_sized 10 (some .long) 1 0 0 [.ref mo, .int (nI i)] [(mo, .inr (8, [.int (nI v_thrown), .ref r_tape, .int (nI v_taped), .ref r_output, .ref r_draft, .int (nI v_written), .int (nI v_error), .int (nI v_stands), .int (nI v_many), .ref r_letters, .ref r_name, .ref r_kind, .ref r_vary, .ref r_flag, .ref r_rest, .ref r_more, .ref r_one, .ref r_two, .ref r_begin, .ref r_partName, .ref r_partType, .ref r_partNumber, .int (nI v_nextMany), .int (nI v_nextParts), .ref r_nextName, .ref r_nextKind, .ref r_nextVary, .ref r_nextFlag, .ref r_nextRest, .ref r_nextMore, .ref r_nextOne, .ref r_nextTwo, .ref r_nextBegin, .ref r_nextPartName, .ref r_nextPartType, .ref r_nextPartNumber, .ref r_apart, .ref r_leader, .ref r_number, .int (nI v_classes), .int (nI v_stringsAt), .int (nI v_stringsEnd), .ref r_way, .ref r_seen, .int (nI v_drafted), .ref r_told, .ref r_toldAt, .int (nI v_tolds), .int (nI v_stringsSize)])), (r_kind, .inl (T 0, 202, .inl (fun z9 => nI (f_kind z9)))), (r_one, .inl (T 1, 202, .inr (.inl (fun z9 => lN (f_one z9))))), (r_two, .inl (T 1, 202, .inr (.inl (fun z9 => lN (f_two z9))))), (r_begin, .inl (T 0, 203, .inl (fun z9 => nI (f_begin z9)))), (r_rest, .inl (T 1, 202, .inr (.inl (fun z9 => lN (f_rest z9))))), (r_partType, .inl (T 1, 601, .inr (.inl (fun z9 => lN (f_partType z9))))), (r_more, .inl (T 1, 202, .inr (.inl (fun z9 => lN (f_more z9))))), (r_way, .inl (T 0, 204, .inl (fun z9 => nI (f_way z9))))] (fun v w1 => ∃ (wy : Nat → Nat) (r : Option Nat), v = some (.long (oL r)) ∧ w1 = [(mo, .inr (8, [.int (nI v_thrown), .ref r_tape, .int (nI v_taped), .ref r_output, .ref r_draft, .int (nI v_written), .int (nI v_error), .int (nI v_stands), .int (nI v_many), .ref r_letters, .ref r_name, .ref r_kind, .ref r_vary, .ref r_flag, .ref r_rest, .ref r_more, .ref r_one, .ref r_two, .ref r_begin, .ref r_partName, .ref r_partType, .ref r_partNumber, .int (nI v_nextMany), .int (nI v_nextParts), .ref r_nextName, .ref r_nextKind, .ref r_nextVary, .ref r_nextFlag, .ref r_nextRest, .ref r_nextMore, .ref r_nextOne, .ref r_nextTwo, .ref r_nextBegin, .ref r_nextPartName, .ref r_nextPartType, .ref r_nextPartNumber, .ref r_apart, .ref r_leader, .ref r_number, .int (nI v_classes), .int (nI v_stringsAt), .int (nI v_stringsEnd), .ref r_way, .ref r_seen, .int (nI v_drafted), .ref r_told, .ref r_toldAt, .int (nI v_tolds), .int (nI v_stringsSize)])), (r_kind, .inl (T 0, 202, .inl (fun z9 => nI (f_kind z9)))), (r_one, .inl (T 1, 202, .inr (.inl (fun z9 => lN (f_one z9))))), (r_two, .inl (T 1, 202, .inr (.inl (fun z9 => lN (f_two z9))))), (r_begin, .inl (T 0, 203, .inl (fun z9 => nI (f_begin z9)))), (r_rest, .inl (T 1, 202, .inr (.inl (fun z9 => lN (f_rest z9))))), (r_partType, .inl (T 1, 601, .inr (.inl (fun z9 => lN (f_partType z9))))), (r_more, .inl (T 1, 202, .inr (.inl (fun z9 => lN (f_more z9))))), (r_way, .inl (T 0, 204, .inl (fun z9 => nI (wy z9))))] ∧ SzR t v_many i r) := by
  refine Con.of (by decide) (Nat.le_of_ble_eq_true rfl) ?_
  intro E hE
  have hN := hS.1.1.1
  have hS8 := hS.1.2.2.2.1
  have hh := hS.1.2.1
  refine g_lv (lv' := [(0, .ref mo), (1, .int (nI i))]) [0, 1] rfl ?_
  refine g_iconst (pc' := 1) hE (nI 0) (by decide) dX9_sized_0 rfl ?_
  refine g_istore_n (pc' := 2) hE [(2, .int (nI 0)), (0, .ref mo), (1, .int (nI i))] dX9_sized_1 rfl rfl (by decide) rfl ?_
  refine g_iload_n (pc' := 3) hE 2 rfl rfl dX9_sized_2 rfl ?_
  refine g_istore_n (pc' := 4) hE [(3, .int (nI i)), (2, .int (nI 0)), (0, .ref mo), (1, .int (nI i))] dX9_sized_3 rfl rfl (by decide) rfl ?_
  refine (show ∀ (d4 : Nat) (n : Nat) (wy : Nat → Nat), v_many + 1 - n = d4 → (n ≤ v_many + 1) → (pth t v_many i n ≤ v_many) → (∀ k, k < n → leans (kdT t v_many (pth t v_many i k)) = true ∧ wy k = pth t v_many i k) → G l E D 10 0 0 [(mo, .inr (8, [.int (nI v_thrown), .ref r_tape, .int (nI v_taped), .ref r_output, .ref r_draft, .int (nI v_written), .int (nI v_error), .int (nI v_stands), .int (nI v_many), .ref r_letters, .ref r_name, .ref r_kind, .ref r_vary, .ref r_flag, .ref r_rest, .ref r_more, .ref r_one, .ref r_two, .ref r_begin, .ref r_partName, .ref r_partType, .ref r_partNumber, .int (nI v_nextMany), .int (nI v_nextParts), .ref r_nextName, .ref r_nextKind, .ref r_nextVary, .ref r_nextFlag, .ref r_nextRest, .ref r_nextMore, .ref r_nextOne, .ref r_nextTwo, .ref r_nextBegin, .ref r_nextPartName, .ref r_nextPartType, .ref r_nextPartNumber, .ref r_apart, .ref r_leader, .ref r_number, .int (nI v_classes), .int (nI v_stringsAt), .int (nI v_stringsEnd), .ref r_way, .ref r_seen, .int (nI v_drafted), .ref r_told, .ref r_toldAt, .int (nI v_tolds), .int (nI v_stringsSize)])), (r_kind, .inl (T 0, 202, .inl (fun z9 => nI (f_kind z9)))), (r_one, .inl (T 1, 202, .inr (.inl (fun z9 => lN (f_one z9))))), (r_two, .inl (T 1, 202, .inr (.inl (fun z9 => lN (f_two z9))))), (r_begin, .inl (T 0, 203, .inl (fun z9 => nI (f_begin z9)))), (r_rest, .inl (T 1, 202, .inr (.inl (fun z9 => lN (f_rest z9))))), (r_partType, .inl (T 1, 601, .inr (.inl (fun z9 => lN (f_partType z9))))), (r_more, .inl (T 1, 202, .inr (.inl (fun z9 => lN (f_more z9))))), (r_way, .inl (T 0, 204, .inl (fun z9 => nI (wy z9))))] [(3, .int (nI (pth t v_many i n))), (2, .int (nI n)), (0, .ref mo), (1, .int (nI i))] 4 [] from ?_) _ 0 f_way rfl (by omega) hi (fun k hk => absurd hk (by omega))
  intro d4
  induction d4 using Nat.strongRecOn with
  | _ d4 ih4 =>
  intro n wy hd4 hn hp hwy
  have hJ65 : (n = v_many + 1 ∨ leans (kdT t v_many (pth t v_many i n)) = false) → G l E D 10 0 0 [(mo, .inr (8, [.int (nI v_thrown), .ref r_tape, .int (nI v_taped), .ref r_output, .ref r_draft, .int (nI v_written), .int (nI v_error), .int (nI v_stands), .int (nI v_many), .ref r_letters, .ref r_name, .ref r_kind, .ref r_vary, .ref r_flag, .ref r_rest, .ref r_more, .ref r_one, .ref r_two, .ref r_begin, .ref r_partName, .ref r_partType, .ref r_partNumber, .int (nI v_nextMany), .int (nI v_nextParts), .ref r_nextName, .ref r_nextKind, .ref r_nextVary, .ref r_nextFlag, .ref r_nextRest, .ref r_nextMore, .ref r_nextOne, .ref r_nextTwo, .ref r_nextBegin, .ref r_nextPartName, .ref r_nextPartType, .ref r_nextPartNumber, .ref r_apart, .ref r_leader, .ref r_number, .int (nI v_classes), .int (nI v_stringsAt), .int (nI v_stringsEnd), .ref r_way, .ref r_seen, .int (nI v_drafted), .ref r_told, .ref r_toldAt, .int (nI v_tolds), .int (nI v_stringsSize)])), (r_kind, .inl (T 0, 202, .inl (fun z9 => nI (f_kind z9)))), (r_one, .inl (T 1, 202, .inr (.inl (fun z9 => lN (f_one z9))))), (r_two, .inl (T 1, 202, .inr (.inl (fun z9 => lN (f_two z9))))), (r_begin, .inl (T 0, 203, .inl (fun z9 => nI (f_begin z9)))), (r_rest, .inl (T 1, 202, .inr (.inl (fun z9 => lN (f_rest z9))))), (r_partType, .inl (T 1, 601, .inr (.inl (fun z9 => lN (f_partType z9))))), (r_more, .inl (T 1, 202, .inr (.inl (fun z9 => lN (f_more z9))))), (r_way, .inl (T 0, 204, .inl (fun z9 => nI (wy z9))))] [(3, .int (nI (pth t v_many i n))), (2, .int (nI n)), (0, .ref mo), (1, .int (nI i))] 65 [] := by
    intro  hst
    refine g_iload_n (pc' := 66) hE 1 rfl rfl dX9_sized_65 rfl ?_
    refine g_aload_n (pc' := 67) hE 2 rfl rfl dX9_sized_66 rfl ?_
    refine g_get (pc' := 70) hE gcX9 0 rfl 8 (by decide) rfl kX9_203 dX9_sized_67 rfl ?_
    refine g_icmpN_gt (pc' := 73) (tgt := 77) hE (by omega) (by omega) dX9_sized_70 rfl rfl (fun hc70 => ?_) (fun hc70 => ?_)
    · refine g_ldc2 (pc' := 80) hE (v := (-1)) kX9_246 dX9_sized_77 rfl ?_
      exact hE.lret (⟨wy, none, rfl, rfl, ⟨v_many, Nat.le_refl _, fun k hk => (hwy k (by omega)).1, Or.inl rfl, by rw [leans_own (hwy v_many (by omega)).1, fdZ_none]⟩⟩) (Nat.zero_le _) (Nat.zero_le _) dX9_sized_80
    · refine g_iload_n (pc' := 74) hE 0 rfl rfl dX9_sized_73 rfl ?_
      refine g_ifN_ne (pc' := 77) (tgt := 81) hE (by omega) dX9_sized_74 rfl rfl (fun hc74 => ?_) (fun hc74 => ?_)
      · have h1 : 1 ≤ pth t v_many i n := by omega
        obtain ⟨-, -, ⟨k1, k2, k3⟩, -, -, ⟨r1, r2⟩, -⟩ := hS.at h1 hp
        have kT := kdT_eq (t := t) h1 hp
        have hno : n ≤ v_many ∧ leans (kdT t v_many (pth t v_many i n)) = false := by rcases hst with h | h; omega; exact ⟨by omega, h⟩
        have hJ125 : ∀ (zh : Bool), (zh = true ↔ (f_kind (pth t v_many i n) = 1 ∨ f_kind (pth t v_many i n) = 2 ∨ 4 ≤ f_kind (pth t v_many i n) ∧ f_kind (pth t v_many i n) ≤ 6)) → G l E D 10 0 0 [(mo, .inr (8, [.int (nI v_thrown), .ref r_tape, .int (nI v_taped), .ref r_output, .ref r_draft, .int (nI v_written), .int (nI v_error), .int (nI v_stands), .int (nI v_many), .ref r_letters, .ref r_name, .ref r_kind, .ref r_vary, .ref r_flag, .ref r_rest, .ref r_more, .ref r_one, .ref r_two, .ref r_begin, .ref r_partName, .ref r_partType, .ref r_partNumber, .int (nI v_nextMany), .int (nI v_nextParts), .ref r_nextName, .ref r_nextKind, .ref r_nextVary, .ref r_nextFlag, .ref r_nextRest, .ref r_nextMore, .ref r_nextOne, .ref r_nextTwo, .ref r_nextBegin, .ref r_nextPartName, .ref r_nextPartType, .ref r_nextPartNumber, .ref r_apart, .ref r_leader, .ref r_number, .int (nI v_classes), .int (nI v_stringsAt), .int (nI v_stringsEnd), .ref r_way, .ref r_seen, .int (nI v_drafted), .ref r_told, .ref r_toldAt, .int (nI v_tolds), .int (nI v_stringsSize)])), (r_kind, .inl (T 0, 202, .inl (fun z9 => nI (f_kind z9)))), (r_one, .inl (T 1, 202, .inr (.inl (fun z9 => lN (f_one z9))))), (r_two, .inl (T 1, 202, .inr (.inl (fun z9 => lN (f_two z9))))), (r_begin, .inl (T 0, 203, .inl (fun z9 => nI (f_begin z9)))), (r_rest, .inl (T 1, 202, .inr (.inl (fun z9 => lN (f_rest z9))))), (r_partType, .inl (T 1, 601, .inr (.inl (fun z9 => lN (f_partType z9))))), (r_more, .inl (T 1, 202, .inr (.inl (fun z9 => lN (f_more z9))))), (r_way, .inl (T 0, 204, .inl (fun z9 => nI (wy z9))))] [(3, .int (nI (pth t v_many i n))), (2, .int (nI n)), (0, .ref mo), (1, .int (nI i))] 125 [.int (bI zh)] := by
          intro zh hzh
          refine g_istore (pc' := 127) hE [(4, .int (bI zh)), (3, .int (nI (pth t v_many i n))), (2, .int (nI n)), (0, .ref mo), (1, .int (nI i))] dX9_sized_125 rfl (by decide) rfl ?_
          refine g_iload (pc' := 129) hE 0 rfl dX9_sized_127 rfl ?_
          refine g_ifB_ne (pc' := 132) (tgt := 136) hE dX9_sized_129 rfl rfl (fun hc129 => ?_) (fun hc129 => ?_)
          · have hJ158 : ∀ (sz : Nat), (ownZ t v_many (pth t v_many i n) = some sz ∧ sz < 2 ^ 32) → G l E D 10 0 0 [(mo, .inr (8, [.int (nI v_thrown), .ref r_tape, .int (nI v_taped), .ref r_output, .ref r_draft, .int (nI v_written), .int (nI v_error), .int (nI v_stands), .int (nI v_many), .ref r_letters, .ref r_name, .ref r_kind, .ref r_vary, .ref r_flag, .ref r_rest, .ref r_more, .ref r_one, .ref r_two, .ref r_begin, .ref r_partName, .ref r_partType, .ref r_partNumber, .int (nI v_nextMany), .int (nI v_nextParts), .ref r_nextName, .ref r_nextKind, .ref r_nextVary, .ref r_nextFlag, .ref r_nextRest, .ref r_nextMore, .ref r_nextOne, .ref r_nextTwo, .ref r_nextBegin, .ref r_nextPartName, .ref r_nextPartType, .ref r_nextPartNumber, .ref r_apart, .ref r_leader, .ref r_number, .int (nI v_classes), .int (nI v_stringsAt), .int (nI v_stringsEnd), .ref r_way, .ref r_seen, .int (nI v_drafted), .ref r_told, .ref r_toldAt, .int (nI v_tolds), .int (nI v_stringsSize)])), (r_kind, .inl (T 0, 202, .inl (fun z9 => nI (f_kind z9)))), (r_one, .inl (T 1, 202, .inr (.inl (fun z9 => lN (f_one z9))))), (r_two, .inl (T 1, 202, .inr (.inl (fun z9 => lN (f_two z9))))), (r_begin, .inl (T 0, 203, .inl (fun z9 => nI (f_begin z9)))), (r_rest, .inl (T 1, 202, .inr (.inl (fun z9 => lN (f_rest z9))))), (r_partType, .inl (T 1, 601, .inr (.inl (fun z9 => lN (f_partType z9))))), (r_more, .inl (T 1, 202, .inr (.inl (fun z9 => lN (f_more z9))))), (r_way, .inl (T 0, 204, .inl (fun z9 => nI (wy z9))))] [(3, .int (nI (pth t v_many i n))), (2, .int (nI n)), (0, .ref mo), (1, .int (nI i))] 158 [.long (lN sz)] := by
              intro sz hsz
              refine g_lstore (pc' := 160) hE [(5, .long (lN sz)), (3, .int (nI (pth t v_many i n))), (2, .int (nI n)), (0, .ref mo), (1, .int (nI i))] dX9_sized_158 rfl (by decide) rfl ?_
              refine g_iload_n (pc' := 161) hE 2 rfl rfl dX9_sized_160 rfl ?_
              refine g_iconst (pc' := 162) hE (nI 1) (by decide) dX9_sized_161 rfl ?_
              refine g_isub (pc' := 163) hE dX9_sized_162 rfl ?_
              refine g_istore (pc' := 165) hE [(7, .int ((nI n) - (nI 1))), (5, .long (lN sz)), (3, .int (nI (pth t v_many i n))), (2, .int (nI n)), (0, .ref mo), (1, .int (nI i))] dX9_sized_163 rfl (by decide) rfl ?_
              refine (show ∀ (d165 : Nat) (k : Nat) (z : Nat), k = d165 → (k ≤ n) → (z ≤ 1000000000000) → (fdZ t v_many i k (some z) = fdZ t v_many i n (ownZ t v_many (pth t v_many i n))) → G l E D 10 0 0 [(mo, .inr (8, [.int (nI v_thrown), .ref r_tape, .int (nI v_taped), .ref r_output, .ref r_draft, .int (nI v_written), .int (nI v_error), .int (nI v_stands), .int (nI v_many), .ref r_letters, .ref r_name, .ref r_kind, .ref r_vary, .ref r_flag, .ref r_rest, .ref r_more, .ref r_one, .ref r_two, .ref r_begin, .ref r_partName, .ref r_partType, .ref r_partNumber, .int (nI v_nextMany), .int (nI v_nextParts), .ref r_nextName, .ref r_nextKind, .ref r_nextVary, .ref r_nextFlag, .ref r_nextRest, .ref r_nextMore, .ref r_nextOne, .ref r_nextTwo, .ref r_nextBegin, .ref r_nextPartName, .ref r_nextPartType, .ref r_nextPartNumber, .ref r_apart, .ref r_leader, .ref r_number, .int (nI v_classes), .int (nI v_stringsAt), .int (nI v_stringsEnd), .ref r_way, .ref r_seen, .int (nI v_drafted), .ref r_told, .ref r_toldAt, .int (nI v_tolds), .int (nI v_stringsSize)])), (r_kind, .inl (T 0, 202, .inl (fun z9 => nI (f_kind z9)))), (r_one, .inl (T 1, 202, .inr (.inl (fun z9 => lN (f_one z9))))), (r_two, .inl (T 1, 202, .inr (.inl (fun z9 => lN (f_two z9))))), (r_begin, .inl (T 0, 203, .inl (fun z9 => nI (f_begin z9)))), (r_rest, .inl (T 1, 202, .inr (.inl (fun z9 => lN (f_rest z9))))), (r_partType, .inl (T 1, 601, .inr (.inl (fun z9 => lN (f_partType z9))))), (r_more, .inl (T 1, 202, .inr (.inl (fun z9 => lN (f_more z9))))), (r_way, .inl (T 0, 204, .inl (fun z9 => nI (wy z9))))] [(7, .int ((nI k) - (nI 1))), (5, .long (lN z)), (3, .int (nI (pth t v_many i n))), (2, .int (nI n)), (0, .ref mo), (1, .int (nI i))] 165 [] from ?_) _ n sz rfl (Nat.le_refl _) (by omega) (by rw [hsz.1])
              intro d165
              induction d165 using Nat.strongRecOn with
              | _ d165 ih165 =>
              intro k z hd165 hk hz hfd
              refine g_iload (pc' := 167) hE 0 rfl dX9_sized_165 rfl ?_
              refine g_if_lt (pc' := 170) (tgt := 239) hE dX9_sized_167 rfl rfl (fun hc167 => ?_) (fun hc167 => ?_)
              · have hk0 := (dn_neg (by omega)).mp hc167
                refine g_lload (pc' := 241) hE 1 rfl dX9_sized_239 rfl ?_
                exact hE.lret (⟨wy, some z, rfl, rfl, n, hno.1, fun k hk => (hwy k hk).1, Or.inr hno.2, by rw [← hfd, hk0]; rfl⟩) (Nat.zero_le _) (Nat.zero_le _) dX9_sized_241
              · have hk0 : 1 ≤ k := by rcases Nat.eq_zero_or_pos k with z | z; exact absurd ((dn_neg (by omega)).mpr z) hc167; exact z
                refine g_lvw (lv' := [(7, .int (nI (k - 1))), (5, .long (lN z)), (3, .int (nI (pth t v_many i n))), (2, .int (nI n)), (0, .ref mo), (1, .int (nI i))]) (by rw [pk_sub hk0]) ?_
                have hpk := hwy (k - 1) (by omega)
                have hq1 : 1 ≤ pth t v_many i (k - 1) ∧ pth t v_many i (k - 1) ≤ v_many := kdT_in (t := t) (N := v_many) (i := pth t v_many i (k - 1)) (by have := of_decide_eq_true hpk.1; omega)
                obtain ⟨-, -, ⟨q1, q2, q3⟩, -, -, -, ⟨q4, q5⟩, -⟩ := hS.at hq1.1 hq1.2
                have qT := kdT_eq (t := t) hq1.1 hq1.2
                refine g_aload_n (pc' := 171) hE 4 rfl rfl dX9_sized_170 rfl ?_
                refine g_get (pc' := 174) hE gcX9 0 rfl 11 (by decide) rfl kX9_25 dX9_sized_171 rfl ?_
                refine g_aload_n (pc' := 175) hE 4 rfl rfl dX9_sized_174 rfl ?_
                refine g_get (pc' := 178) hE gcX9 0 rfl 42 (by decide) rfl kX9_105 dX9_sized_175 rfl ?_
                refine g_iload (pc' := 180) hE 0 rfl dX9_sized_178 rfl ?_
                refine g_iald (pc' := 181) hE 8 rfl (by omega) (by omega) dX9_sized_180 rfl ?_
                refine g_eqi (show _ = nI (pth t v_many i (k - 1)) from by rw [hpk.2]) ?_
                refine g_iald (pc' := 182) hE 1 rfl (by omega) (by omega) dX9_sized_181 rfl ?_
                refine g_iconst (pc' := 183) hE (nI 3) (by decide) dX9_sized_182 rfl ?_
                refine g_icmpN_eq (pc' := 186) (tgt := 189) hE (by omega) (by omega) dX9_sized_183 rfl rfl (fun hc183 => ?_) (fun hc183 => ?_)
                · have hmo : f_more (pth t v_many i (k - 1)) = wdT t (pth t v_many i (k - 1)) 5 := by rw [q4]; unfold moT; rw [if_neg (by omega), if_pos (by omega)]
                  have hst3 : stZ t v_many (pth t v_many i (k - 1)) (some z) = tmZ z (f_more (pth t v_many i (k - 1))) := by unfold stZ; simp only; rw [if_pos (by omega), hmo]
                  refine g_aload_n (pc' := 190) hE 4 rfl rfl dX9_sized_189 rfl ?_
                  refine g_get (pc' := 193) hE gcX9 0 rfl 15 (by decide) rfl kX9_38 dX9_sized_190 rfl ?_
                  refine g_aload_n (pc' := 194) hE 4 rfl rfl dX9_sized_193 rfl ?_
                  refine g_get (pc' := 197) hE gcX9 0 rfl 42 (by decide) rfl kX9_105 dX9_sized_194 rfl ?_
                  refine g_iload (pc' := 199) hE 0 rfl dX9_sized_197 rfl ?_
                  refine g_iald (pc' := 200) hE 8 rfl (by omega) (by omega) dX9_sized_199 rfl ?_
                  refine g_eqi (show _ = nI (pth t v_many i (k - 1)) from by rw [hpk.2]) ?_
                  refine g_lald (pc' := 201) hE 7 rfl (by omega) (by omega) dX9_sized_200 rfl ?_
                  refine g_lstore (pc' := 203) hE [(8, .long (lN (f_more (pth t v_many i (k - 1))))), (7, .int (nI (k - 1))), (5, .long (lN z)), (3, .int (nI (pth t v_many i n))), (2, .int (nI n)), (0, .ref mo), (1, .int (nI i))] dX9_sized_201 rfl (by decide) rfl ?_
                  refine g_lload (pc' := 205) hE 0 rfl dX9_sized_203 rfl ?_
                  refine g_lconst (pc' := 206) hE (lN 0) (by decide) dX9_sized_205 rfl ?_
                  refine g_lcmp (pc' := 207) hE dX9_sized_206 rfl ?_
                  refine g_ifcN_le (pc' := 210) (tgt := 226) hE (by omega) (by omega) dX9_sized_207 rfl rfl (fun hc207 => ?_) (fun hc207 => ?_)
                  · refine g_lload (pc' := 228) hE 2 rfl dX9_sized_226 rfl ?_
                    refine g_lload (pc' := 230) hE 0 rfl dX9_sized_228 rfl ?_
                    refine g_lmul (pc' := 231) hE dX9_sized_230 rfl ?_
                    refine g_eql (show _ = lN (z * (f_more (pth t v_many i (k - 1)))) from lN_mul _ _) ?_
                    refine g_lstore (pc' := 233) hE [(5, .long (lN (z * (f_more (pth t v_many i (k - 1)))))), (8, .long (lN (f_more (pth t v_many i (k - 1))))), (7, .int (nI (k - 1))), (3, .int (nI (pth t v_many i n))), (2, .int (nI n)), (0, .ref mo), (1, .int (nI i))] dX9_sized_231 rfl (by decide) rfl ?_
                    refine g_iinc (pc' := 236) hE ((nI (k - 1)) - (nI 1)) [(7, .int ((nI (k - 1)) - (nI 1))), (5, .long (lN (z * (f_more (pth t v_many i (k - 1)))))), (8, .long (lN (f_more (pth t v_many i (k - 1))))), (3, .int (nI (pth t v_many i n))), (2, .int (nI n)), (0, .ref mo), (1, .int (nI i))] 2 rfl dX9_sized_233 rfl (dn_dec _) (by decide) rfl ?_
                    refine g_goto (tgt := 165) hE dX9_sized_236 rfl ?_
                    refine g_lv [0, 1, 3, 4, 5, 6] (lv' := [(7, .int ((nI (k - 1)) - (nI 1))), (5, .long (lN (z * (f_more (pth t v_many i (k - 1)))))), (3, .int (nI (pth t v_many i n))), (2, .int (nI n)), (0, .ref mo), (1, .int (nI i))]) rfl ?_
                    exact ih165 _ (by omega) (k - 1) (z * (f_more (pth t v_many i (k - 1)))) rfl (by omega) (by rw [show f_more (pth t v_many i (k - 1)) = 0 by omega]; omega) (by rw [← hfd, ← fdZ_s hk0, hst3]; unfold tmZ; rw [if_pos (by rw [show f_more (pth t v_many i (k - 1)) = 0 by omega]; omega)])
                  · refine g_lload (pc' := 212) hE 2 rfl dX9_sized_210 rfl ?_
                    refine g_ldc2 (pc' := 215) hE (v := lN 1000000000000) kX9_250 dX9_sized_212 rfl ?_
                    refine g_lload (pc' := 217) hE 0 rfl dX9_sized_215 rfl ?_
                    refine g_ldiv (pc' := 218) hE (fun y => (show f_more (pth t v_many i (k - 1)) ≠ 0 by omega) ((pk_lEQ (by omega) (by decide)).mp y)) dX9_sized_217 rfl ?_
                    refine g_eql (show _ = lN (1000000000000 / f_more (pth t v_many i (k - 1))) from pk_lDiv (by decide) (by omega) (by omega)) ?_
                    refine g_lcmp (pc' := 219) hE dX9_sized_218 rfl ?_
                    refine g_ifcN_le (pc' := 222) (tgt := 226) hE (by omega) (Nat.lt_of_le_of_lt (Nat.div_le_self _ _) (by decide)) dX9_sized_219 rfl rfl (fun hc219 => ?_) (fun hc219 => ?_)
                    · have hmul := (Nat.le_div_iff_mul_le (show 0 < f_more (pth t v_many i (k - 1)) by omega)).mp hc219
                      refine g_lload (pc' := 228) hE 2 rfl dX9_sized_226 rfl ?_
                      refine g_lload (pc' := 230) hE 0 rfl dX9_sized_228 rfl ?_
                      refine g_lmul (pc' := 231) hE dX9_sized_230 rfl ?_
                      refine g_eql (show _ = lN (z * (f_more (pth t v_many i (k - 1)))) from lN_mul _ _) ?_
                      refine g_lstore (pc' := 233) hE [(5, .long (lN (z * (f_more (pth t v_many i (k - 1)))))), (8, .long (lN (f_more (pth t v_many i (k - 1))))), (7, .int (nI (k - 1))), (3, .int (nI (pth t v_many i n))), (2, .int (nI n)), (0, .ref mo), (1, .int (nI i))] dX9_sized_231 rfl (by decide) rfl ?_
                      refine g_iinc (pc' := 236) hE ((nI (k - 1)) - (nI 1)) [(7, .int ((nI (k - 1)) - (nI 1))), (5, .long (lN (z * (f_more (pth t v_many i (k - 1)))))), (8, .long (lN (f_more (pth t v_many i (k - 1))))), (3, .int (nI (pth t v_many i n))), (2, .int (nI n)), (0, .ref mo), (1, .int (nI i))] 2 rfl dX9_sized_233 rfl (dn_dec _) (by decide) rfl ?_
                      refine g_goto (tgt := 165) hE dX9_sized_236 rfl ?_
                      refine g_lv [0, 1, 3, 4, 5, 6] (lv' := [(7, .int ((nI (k - 1)) - (nI 1))), (5, .long (lN (z * (f_more (pth t v_many i (k - 1)))))), (3, .int (nI (pth t v_many i n))), (2, .int (nI n)), (0, .ref mo), (1, .int (nI i))]) rfl ?_
                      exact ih165 _ (by omega) (k - 1) (z * (f_more (pth t v_many i (k - 1)))) rfl (by omega) hmul (by rw [← hfd, ← fdZ_s hk0, hst3]; unfold tmZ; rw [if_pos hmul])
                    · have hbig : ¬ z * f_more (pth t v_many i (k - 1)) ≤ 1000000000000 := fun g => by have := (Nat.le_div_iff_mul_le (show 0 < f_more (pth t v_many i (k - 1)) by omega)).mpr g; omega
                      refine g_ldc2 (pc' := 225) hE (v := (-1)) kX9_246 dX9_sized_222 rfl ?_
                      exact hE.lret (⟨wy, none, rfl, rfl, ⟨n, hno.1, fun k hk => (hwy k hk).1, Or.inr hno.2, by rw [← hfd, ← fdZ_s hk0, hst3]; unfold tmZ; rw [if_neg hbig, fdZ_none]⟩⟩) (Nat.zero_le _) (Nat.zero_le _) dX9_sized_225
                · refine g_goto (tgt := 233) hE dX9_sized_186 rfl ?_
                  refine g_iinc (pc' := 236) hE ((nI (k - 1)) - (nI 1)) [(7, .int ((nI (k - 1)) - (nI 1))), (5, .long (lN z)), (3, .int (nI (pth t v_many i n))), (2, .int (nI n)), (0, .ref mo), (1, .int (nI i))] 0 rfl dX9_sized_233 rfl (dn_dec _) (by decide) rfl ?_
                  refine g_goto (tgt := 165) hE dX9_sized_236 rfl ?_
                  exact ih165 _ (by omega) (k - 1) z rfl (by omega) hz (by rw [← hfd, ← fdZ_s hk0]; unfold stZ; simp only; rw [if_neg (by omega)])
            refine g_aload_n (pc' := 137) hE 3 rfl rfl dX9_sized_136 rfl ?_
            refine g_get (pc' := 140) hE gcX9 0 rfl 11 (by decide) rfl kX9_25 dX9_sized_137 rfl ?_
            refine g_iload_n (pc' := 141) hE 1 rfl rfl dX9_sized_140 rfl ?_
            refine g_iald (pc' := 142) hE 1 rfl (by omega) (by omega) dX9_sized_141 rfl ?_
            refine g_iconst (pc' := 143) hE (nI 2) (by decide) dX9_sized_142 rfl ?_
            refine g_icmpN_ne (pc' := 146) (tgt := 152) hE (by omega) (by omega) dX9_sized_143 rfl rfl (fun hc143 => ?_) (fun hc143 => ?_)
            · refine g_aload_n (pc' := 153) hE 3 rfl rfl dX9_sized_152 rfl ?_
              refine g_get (pc' := 156) hE gcX9 0 rfl 14 (by decide) rfl kX9_34 dX9_sized_153 rfl ?_
              refine g_iload_n (pc' := 157) hE 1 rfl rfl dX9_sized_156 rfl ?_
              refine g_lald (pc' := 158) hE 5 rfl (by omega) (by omega) dX9_sized_157 rfl ?_
              refine g_lv [1, 2, 3, 4] (lv' := [(3, .int (nI (pth t v_many i n))), (2, .int (nI n)), (0, .ref mo), (1, .int (nI i))]) rfl ?_
              exact hJ158 (f_rest (pth t v_many i n)) (⟨by unfold ownZ; rw [kT, ← k1]; have := hzh.mp hc129; first | rw [if_neg (by omega), if_pos hc143] | (rw [if_pos (by omega), ← r1]), by omega⟩)
            · refine g_ldc2 (pc' := 149) hE (v := lN 8) kX9_168 dX9_sized_146 rfl ?_
              refine g_goto (tgt := 158) hE dX9_sized_149 rfl ?_
              refine g_lv [1, 2, 3, 4] (lv' := [(3, .int (nI (pth t v_many i n))), (2, .int (nI n)), (0, .ref mo), (1, .int (nI i))]) rfl ?_
              exact hJ158 8 (⟨by unfold ownZ; rw [kT, ← k1]; have := hzh.mp hc129; first | rw [if_neg (by omega), if_pos hc143] | (rw [if_pos (by omega), ← r1]), by omega⟩)
          · refine g_ldc2 (pc' := 135) hE (v := (-1)) kX9_246 dX9_sized_132 rfl ?_
            exact hE.lret (⟨wy, none, rfl, rfl, ⟨n, hno.1, fun k hk => (hwy k hk).1, Or.inr hno.2, by rw [show ownZ t v_many (pth t v_many i n) = none from by unfold ownZ; rw [kT, ← k1]; have hzz : ¬ (_ ∨ _ ∨ _) := fun g => (by rw [hzh.mpr g] at hc129; cases hc129); rw [if_neg (by omega), if_neg (by omega)], fdZ_none]⟩⟩) (Nat.zero_le _) (Nat.zero_le _) dX9_sized_135
        refine g_aload_n (pc' := 82) hE 2 rfl rfl dX9_sized_81 rfl ?_
        refine g_get (pc' := 85) hE gcX9 0 rfl 11 (by decide) rfl kX9_25 dX9_sized_82 rfl ?_
        refine g_iload_n (pc' := 86) hE 0 rfl rfl dX9_sized_85 rfl ?_
        refine g_iald (pc' := 87) hE 1 rfl (by omega) (by omega) dX9_sized_86 rfl ?_
        refine g_iconst (pc' := 88) hE (nI 1) (by decide) dX9_sized_87 rfl ?_
        refine g_icmpN_eq (pc' := 91) (tgt := 120) hE (by omega) (by omega) dX9_sized_88 rfl rfl (fun hc88 => ?_) (fun hc88 => ?_)
        · refine g_iconst (pc' := 121) hE (nI 1) (by decide) dX9_sized_120 rfl ?_
          refine g_goto (tgt := 125) hE dX9_sized_121 rfl ?_
          refine g_st (st' := [.int (bI true)]) rfl ?_
          exact hJ125 true (⟨fun _ => by first | omega | (have := of_decide_eq_true (by rw [inB_N (by omega) (by omega) (by omega)] at hc117; exact hc117); omega), fun _ => rfl⟩)
        · refine g_aload_n (pc' := 92) hE 2 rfl rfl dX9_sized_91 rfl ?_
          refine g_get (pc' := 95) hE gcX9 0 rfl 11 (by decide) rfl kX9_25 dX9_sized_92 rfl ?_
          refine g_iload_n (pc' := 96) hE 0 rfl rfl dX9_sized_95 rfl ?_
          refine g_iald (pc' := 97) hE 1 rfl (by omega) (by omega) dX9_sized_96 rfl ?_
          refine g_iconst (pc' := 98) hE (nI 2) (by decide) dX9_sized_97 rfl ?_
          refine g_icmpN_eq (pc' := 101) (tgt := 120) hE (by omega) (by omega) dX9_sized_98 rfl rfl (fun hc98 => ?_) (fun hc98 => ?_)
          · refine g_iconst (pc' := 121) hE (nI 1) (by decide) dX9_sized_120 rfl ?_
            refine g_goto (tgt := 125) hE dX9_sized_121 rfl ?_
            refine g_st (st' := [.int (bI true)]) rfl ?_
            exact hJ125 true (⟨fun _ => by first | omega | (have := of_decide_eq_true (by rw [inB_N (by omega) (by omega) (by omega)] at hc117; exact hc117); omega), fun _ => rfl⟩)
          · refine g_aload_n (pc' := 102) hE 2 rfl rfl dX9_sized_101 rfl ?_
            refine g_get (pc' := 105) hE gcX9 0 rfl 11 (by decide) rfl kX9_25 dX9_sized_102 rfl ?_
            refine g_iload_n (pc' := 106) hE 0 rfl rfl dX9_sized_105 rfl ?_
            refine g_iald (pc' := 107) hE 1 rfl (by omega) (by omega) dX9_sized_106 rfl ?_
            refine g_i2l (pc' := 108) hE (lN (f_kind (pth t v_many i n))) (nI_l (by omega)) dX9_sized_107 rfl ?_
            refine g_ldc2 (pc' := 111) hE (v := lN 4) kX9_166 dX9_sized_108 rfl ?_
            refine g_ldc2 (pc' := 114) hE (v := lN 6) kX9_248 dX9_sized_111 rfl ?_
            refine g_callS (pc' := 117) (As := [.long (lN (f_kind (pth t v_many i n))), .long (lN 4), .long (lN 6)]) (rest := []) hE (qX9_in l D T (lN (f_kind (pth t v_many i n))) (lN 4) (lN 6)) mX9_in kX9_174 iX9_in (by decide) rfl (by decide) [] rfl (by decide) rfl (Nat.le_of_ble_eq_true rfl) dX9_sized_114 rfl (gBackR [] rfl ?_)
            rintro _ rfl
            refine g_st (st' := [.int (bI (inB (lN (f_kind (pth t v_many i n))) (lN 4) (lN 6)))]) rfl ?_
            refine g_ifB_eq (pc' := 120) (tgt := 124) hE dX9_sized_117 rfl rfl (fun hc117 => ?_) (fun hc117 => ?_)
            · refine g_iconst (pc' := 125) hE (nI 0) (by decide) dX9_sized_124 rfl ?_
              refine g_st (st' := [.int (bI false)]) rfl ?_
              exact hJ125 false (⟨fun y => (by cases y), fun y => by have := of_decide_eq_false (by rw [inB_N (by omega) (by omega) (by omega)] at hc117; exact hc117); omega⟩)
            · refine g_iconst (pc' := 121) hE (nI 1) (by decide) dX9_sized_120 rfl ?_
              refine g_goto (tgt := 125) hE dX9_sized_121 rfl ?_
              refine g_st (st' := [.int (bI true)]) rfl ?_
              exact hJ125 true (⟨fun _ => by first | omega | (have := of_decide_eq_true (by rw [inB_N (by omega) (by omega) (by omega)] at hc117; exact hc117); omega), fun _ => rfl⟩)
      · refine g_ldc2 (pc' := 80) hE (v := (-1)) kX9_246 dX9_sized_77 rfl ?_
        exact hE.lret (⟨wy, none, rfl, rfl, by rcases hst with h | h; omega; exact ⟨n, by omega, fun k hk => (hwy k hk).1, Or.inr h, by rw [show pth t v_many i n = 0 by omega, (leans_0 _ _).2, fdZ_none]⟩⟩) (Nat.zero_le _) (Nat.zero_le _) dX9_sized_80
  refine g_iload_n (pc' := 5) hE 1 rfl rfl dX9_sized_4 rfl ?_
  refine g_aload_n (pc' := 6) hE 2 rfl rfl dX9_sized_5 rfl ?_
  refine g_get (pc' := 9) hE gcX9 0 rfl 8 (by decide) rfl kX9_203 dX9_sized_6 rfl ?_
  refine g_icmpN_gt (pc' := 12) (tgt := 65) hE (by omega) (by omega) dX9_sized_9 rfl rfl (fun hc9 => ?_) (fun hc9 => ?_)
  · exact hJ65  (Or.inl (by omega))
  · refine g_iload_n (pc' := 13) hE 0 rfl rfl dX9_sized_12 rfl ?_
    refine g_ifN_le (pc' := 16) (tgt := 65) hE (by omega) dX9_sized_13 rfl rfl (fun hc13 => ?_) (fun hc13 => ?_)
    · exact hJ65  (Or.inr (by rw [show pth t v_many i n = 0 by omega]; exact (leans_0 _ _).1))
    · have h1 : 1 ≤ pth t v_many i n := by omega
      obtain ⟨-, -, ⟨k1, k2, k3⟩, -⟩ := hS.at h1 hp
      have kT := kdT_eq (t := t) h1 hp
      refine g_aload_n (pc' := 17) hE 2 rfl rfl dX9_sized_16 rfl ?_
      refine g_get (pc' := 20) hE gcX9 0 rfl 11 (by decide) rfl kX9_25 dX9_sized_17 rfl ?_
      refine g_iload_n (pc' := 21) hE 0 rfl rfl dX9_sized_20 rfl ?_
      refine g_iald (pc' := 22) hE 1 rfl (by omega) (by omega) dX9_sized_21 rfl ?_
      refine g_iconst (pc' := 23) hE (nI 3) (by decide) dX9_sized_22 rfl ?_
      refine g_icmpN_eq (pc' := 26) (tgt := 45) hE (by omega) (by omega) dX9_sized_23 rfl rfl (fun hc23 => ?_) (fun hc23 => ?_)
      · have hlt : leans (kdT t v_many (pth t v_many i n)) = true := decide_eq_true (by rw [kT, ← k1]; first | omega | (have := of_decide_eq_true (by rw [inB_N (by omega) (by omega) (by omega)] at hc42; exact hc42); omega))
        refine g_aload_n (pc' := 46) hE 2 rfl rfl dX9_sized_45 rfl ?_
        refine g_get (pc' := 49) hE gcX9 0 rfl 42 (by decide) rfl kX9_105 dX9_sized_46 rfl ?_
        refine g_iload_n (pc' := 50) hE 1 rfl rfl dX9_sized_49 rfl ?_
        refine g_iload_n (pc' := 51) hE 0 rfl rfl dX9_sized_50 rfl ?_
        refine g_iast (pc' := 52) hE 8 [(mo, .inr (8, [.int (nI v_thrown), .ref r_tape, .int (nI v_taped), .ref r_output, .ref r_draft, .int (nI v_written), .int (nI v_error), .int (nI v_stands), .int (nI v_many), .ref r_letters, .ref r_name, .ref r_kind, .ref r_vary, .ref r_flag, .ref r_rest, .ref r_more, .ref r_one, .ref r_two, .ref r_begin, .ref r_partName, .ref r_partType, .ref r_partNumber, .int (nI v_nextMany), .int (nI v_nextParts), .ref r_nextName, .ref r_nextKind, .ref r_nextVary, .ref r_nextFlag, .ref r_nextRest, .ref r_nextMore, .ref r_nextOne, .ref r_nextTwo, .ref r_nextBegin, .ref r_nextPartName, .ref r_nextPartType, .ref r_nextPartNumber, .ref r_apart, .ref r_leader, .ref r_number, .int (nI v_classes), .int (nI v_stringsAt), .int (nI v_stringsEnd), .ref r_way, .ref r_seen, .int (nI v_drafted), .ref r_told, .ref r_toldAt, .int (nI v_tolds), .int (nI v_stringsSize)])), (r_kind, .inl (T 0, 202, .inl (fun z9 => nI (f_kind z9)))), (r_one, .inl (T 1, 202, .inr (.inl (fun z9 => lN (f_one z9))))), (r_two, .inl (T 1, 202, .inr (.inl (fun z9 => lN (f_two z9))))), (r_begin, .inl (T 0, 203, .inl (fun z9 => nI (f_begin z9)))), (r_rest, .inl (T 1, 202, .inr (.inl (fun z9 => lN (f_rest z9))))), (r_partType, .inl (T 1, 601, .inr (.inl (fun z9 => lN (f_partType z9))))), (r_more, .inl (T 1, 202, .inr (.inl (fun z9 => lN (f_more z9))))), (r_way, .inl (T 0, 204, .inl (fun z9 => nI ((gu wy n (pth t v_many i n)) z9))))] rfl (by omega) (by omega) (gu_I _ _ _) rfl dX9_sized_51 rfl ?_
        refine g_iinc (pc' := 55) hE (nI (n + 1)) [(2, .int (nI (n + 1))), (3, .int (nI (pth t v_many i n))), (0, .ref mo), (1, .int (nI i))] 1 rfl dX9_sized_52 rfl (g_incN _ 1) (by decide) rfl ?_
        refine g_aload_n (pc' := 56) hE 2 rfl rfl dX9_sized_55 rfl ?_
        refine g_iload_n (pc' := 57) hE 1 rfl rfl dX9_sized_56 rfl ?_
        refine g_iconst (pc' := 58) hE (nI 0) (by decide) dX9_sized_57 rfl ?_
        refine g_callV (pc' := 61) (As := [.int (nI (pth t v_many i n)), .int (nI 0)]) (rest := []) hE (qX9_referT l D T mo r_tape r_output r_draft r_letters r_name r_kind r_vary r_flag r_rest r_more r_one r_two r_begin r_partName r_partType r_partNumber r_nextName r_nextKind r_nextVary r_nextFlag r_nextRest r_nextMore r_nextOne r_nextTwo r_nextBegin r_nextPartName r_nextPartType r_nextPartNumber r_apart r_leader r_number r_way r_seen r_told r_toldAt v_thrown v_taped v_written v_error v_stands v_many v_nextMany v_nextParts v_classes v_stringsAt v_stringsEnd v_drafted v_tolds v_stringsSize t sg v_S f_letters f_name f_kind f_vary f_flag f_rest f_more f_one f_two f_begin f_partName f_partType f_partNumber (pth t v_many i n) 0 hS (h1) (hp) ((nx_rf h1 hp hlt).1)) mX9_refer kX9_230 iX9_refer sX9_refer (by decide) rfl (by decide) 0 rfl rfl [0, 1, 2, 3, 4, 5, 6] rfl (by decide) rfl (Nat.le_of_ble_eq_true rfl) dX9_sized_58 rfl (gBackR [0, 1, 2, 3, 4, 5, 6] rfl ?_)
        rintro _ rfl
        refine g_st (st' := [.int (nI (rfT t (pth t v_many i n) 0))]) rfl ?_
        refine g_eqi (show _ = nI (pth t v_many i (n + 1)) from by rw [(nx_rf h1 hp hlt).2]; rfl) ?_
        refine g_istore_n (pc' := 62) hE [(3, .int (nI (pth t v_many i (n + 1)))), (2, .int (nI (n + 1))), (0, .ref mo), (1, .int (nI i))] dX9_sized_61 rfl rfl (by decide) rfl ?_
        refine g_goto (tgt := 4) hE dX9_sized_62 rfl ?_
        exact ih4 _ (by omega) (n + 1) (gu wy n (pth t v_many i n)) rfl (by omega) (nxT_le hh hlt) (lt_s (fun k hk => ⟨(hwy k hk).1, by rw [gu_n _ _ (by omega)]; exact (hwy k hk).2⟩) ⟨hlt, gu_s _ _ _⟩)
      · refine g_aload_n (pc' := 27) hE 2 rfl rfl dX9_sized_26 rfl ?_
        refine g_get (pc' := 30) hE gcX9 0 rfl 11 (by decide) rfl kX9_25 dX9_sized_27 rfl ?_
        refine g_iload_n (pc' := 31) hE 0 rfl rfl dX9_sized_30 rfl ?_
        refine g_iald (pc' := 32) hE 1 rfl (by omega) (by omega) dX9_sized_31 rfl ?_
        refine g_i2l (pc' := 33) hE (lN (f_kind (pth t v_many i n))) (nI_l (by omega)) dX9_sized_32 rfl ?_
        refine g_ldc2 (pc' := 36) hE (v := lN 8) kX9_168 dX9_sized_33 rfl ?_
        refine g_ldc2 (pc' := 39) hE (v := lN 11) kX9_188 dX9_sized_36 rfl ?_
        refine g_callS (pc' := 42) (As := [.long (lN (f_kind (pth t v_many i n))), .long (lN 8), .long (lN 11)]) (rest := []) hE (qX9_in l D T (lN (f_kind (pth t v_many i n))) (lN 8) (lN 11)) mX9_in kX9_174 iX9_in (by decide) rfl (by decide) [] rfl (by decide) rfl (Nat.le_of_ble_eq_true rfl) dX9_sized_39 rfl (gBackR [] rfl ?_)
        rintro _ rfl
        refine g_st (st' := [.int (bI (inB (lN (f_kind (pth t v_many i n))) (lN 8) (lN 11)))]) rfl ?_
        refine g_ifB_eq (pc' := 45) (tgt := 65) hE dX9_sized_42 rfl rfl (fun hc42 => ?_) (fun hc42 => ?_)
        · exact hJ65  (Or.inr (decide_eq_false (by rw [kT, ← k1]; have := of_decide_eq_false (by rw [inB_N (by omega) (by omega) (by omega)] at hc42; exact hc42); omega)))
        · have hlt : leans (kdT t v_many (pth t v_many i n)) = true := decide_eq_true (by rw [kT, ← k1]; first | omega | (have := of_decide_eq_true (by rw [inB_N (by omega) (by omega) (by omega)] at hc42; exact hc42); omega))
          refine g_aload_n (pc' := 46) hE 2 rfl rfl dX9_sized_45 rfl ?_
          refine g_get (pc' := 49) hE gcX9 0 rfl 42 (by decide) rfl kX9_105 dX9_sized_46 rfl ?_
          refine g_iload_n (pc' := 50) hE 1 rfl rfl dX9_sized_49 rfl ?_
          refine g_iload_n (pc' := 51) hE 0 rfl rfl dX9_sized_50 rfl ?_
          refine g_iast (pc' := 52) hE 8 [(mo, .inr (8, [.int (nI v_thrown), .ref r_tape, .int (nI v_taped), .ref r_output, .ref r_draft, .int (nI v_written), .int (nI v_error), .int (nI v_stands), .int (nI v_many), .ref r_letters, .ref r_name, .ref r_kind, .ref r_vary, .ref r_flag, .ref r_rest, .ref r_more, .ref r_one, .ref r_two, .ref r_begin, .ref r_partName, .ref r_partType, .ref r_partNumber, .int (nI v_nextMany), .int (nI v_nextParts), .ref r_nextName, .ref r_nextKind, .ref r_nextVary, .ref r_nextFlag, .ref r_nextRest, .ref r_nextMore, .ref r_nextOne, .ref r_nextTwo, .ref r_nextBegin, .ref r_nextPartName, .ref r_nextPartType, .ref r_nextPartNumber, .ref r_apart, .ref r_leader, .ref r_number, .int (nI v_classes), .int (nI v_stringsAt), .int (nI v_stringsEnd), .ref r_way, .ref r_seen, .int (nI v_drafted), .ref r_told, .ref r_toldAt, .int (nI v_tolds), .int (nI v_stringsSize)])), (r_kind, .inl (T 0, 202, .inl (fun z9 => nI (f_kind z9)))), (r_one, .inl (T 1, 202, .inr (.inl (fun z9 => lN (f_one z9))))), (r_two, .inl (T 1, 202, .inr (.inl (fun z9 => lN (f_two z9))))), (r_begin, .inl (T 0, 203, .inl (fun z9 => nI (f_begin z9)))), (r_rest, .inl (T 1, 202, .inr (.inl (fun z9 => lN (f_rest z9))))), (r_partType, .inl (T 1, 601, .inr (.inl (fun z9 => lN (f_partType z9))))), (r_more, .inl (T 1, 202, .inr (.inl (fun z9 => lN (f_more z9))))), (r_way, .inl (T 0, 204, .inl (fun z9 => nI ((gu wy n (pth t v_many i n)) z9))))] rfl (by omega) (by omega) (gu_I _ _ _) rfl dX9_sized_51 rfl ?_
          refine g_iinc (pc' := 55) hE (nI (n + 1)) [(2, .int (nI (n + 1))), (3, .int (nI (pth t v_many i n))), (0, .ref mo), (1, .int (nI i))] 1 rfl dX9_sized_52 rfl (g_incN _ 1) (by decide) rfl ?_
          refine g_aload_n (pc' := 56) hE 2 rfl rfl dX9_sized_55 rfl ?_
          refine g_iload_n (pc' := 57) hE 1 rfl rfl dX9_sized_56 rfl ?_
          refine g_iconst (pc' := 58) hE (nI 0) (by decide) dX9_sized_57 rfl ?_
          refine g_callV (pc' := 61) (As := [.int (nI (pth t v_many i n)), .int (nI 0)]) (rest := []) hE (qX9_referT l D T mo r_tape r_output r_draft r_letters r_name r_kind r_vary r_flag r_rest r_more r_one r_two r_begin r_partName r_partType r_partNumber r_nextName r_nextKind r_nextVary r_nextFlag r_nextRest r_nextMore r_nextOne r_nextTwo r_nextBegin r_nextPartName r_nextPartType r_nextPartNumber r_apart r_leader r_number r_way r_seen r_told r_toldAt v_thrown v_taped v_written v_error v_stands v_many v_nextMany v_nextParts v_classes v_stringsAt v_stringsEnd v_drafted v_tolds v_stringsSize t sg v_S f_letters f_name f_kind f_vary f_flag f_rest f_more f_one f_two f_begin f_partName f_partType f_partNumber (pth t v_many i n) 0 hS (h1) (hp) ((nx_rf h1 hp hlt).1)) mX9_refer kX9_230 iX9_refer sX9_refer (by decide) rfl (by decide) 0 rfl rfl [0, 1, 2, 3, 4, 5, 6] rfl (by decide) rfl (Nat.le_of_ble_eq_true rfl) dX9_sized_58 rfl (gBackR [0, 1, 2, 3, 4, 5, 6] rfl ?_)
          rintro _ rfl
          refine g_st (st' := [.int (nI (rfT t (pth t v_many i n) 0))]) rfl ?_
          refine g_eqi (show _ = nI (pth t v_many i (n + 1)) from by rw [(nx_rf h1 hp hlt).2]; rfl) ?_
          refine g_istore_n (pc' := 62) hE [(3, .int (nI (pth t v_many i (n + 1)))), (2, .int (nI (n + 1))), (0, .ref mo), (1, .int (nI i))] dX9_sized_61 rfl rfl (by decide) rfl ?_
          refine g_goto (tgt := 4) hE dX9_sized_62 rfl ?_
          exact ih4 _ (by omega) (n + 1) (gu wy n (pth t v_many i n)) rfl (by omega) (nxT_le hh hlt) (lt_s (fun k hk => ⟨(hwy k hk).1, by rw [gu_n _ _ (by omega)]; exact (hwy k hk).2⟩) ⟨hlt, gu_s _ _ _⟩)

set_option maxHeartbeats 4000000 in
set_option maxRecDepth 100000 in
theorem qX9_bytes (l : Launch) (D : va_G) (T : Nat → ClassId) (mo r_tape r_output r_draft r_letters r_name r_kind r_vary r_flag r_rest r_more r_one r_two r_begin r_partName r_partType r_partNumber r_nextName r_nextKind r_nextVary r_nextFlag r_nextRest r_nextMore r_nextOne r_nextTwo r_nextBegin r_nextPartName r_nextPartType r_nextPartNumber r_apart r_leader r_number r_way r_seen r_told r_toldAt v_thrown v_taped v_written v_error v_stands v_many v_nextMany v_nextParts v_classes v_stringsAt v_stringsEnd v_drafted v_tolds v_stringsSize : Nat) (t : Nat → Nat) (sg v_S : Nat) (f_letters : Nat → Nat) (f_name : Nat → Nat) (f_kind : Nat → Nat) (f_vary : Nat → Nat) (f_flag : Nat → Nat) (f_rest : Nat → Nat) (f_more : Nat → Nat) (f_one : Nat → Nat) (f_two : Nat → Nat) (f_begin : Nat → Nat) (f_partName : Nat → Nat) (f_partType : Nat → Nat) (f_partNumber : Nat → Nat) (f_way : Nat → Nat) (i : Nat) (hS : MS t sg v_S v_many f_letters f_name f_kind f_vary f_flag f_rest f_more f_one f_two f_begin f_partName f_partType f_partNumber) (hi : i ≤ v_many) : Con l D T yX9_bytes cX9_bytes 2 (some .long) 2 0 0 [.ref mo, .int (nI i)] [(mo, .inr (8, [.int (nI v_thrown), .ref r_tape, .int (nI v_taped), .ref r_output, .ref r_draft, .int (nI v_written), .int (nI v_error), .int (nI v_stands), .int (nI v_many), .ref r_letters, .ref r_name, .ref r_kind, .ref r_vary, .ref r_flag, .ref r_rest, .ref r_more, .ref r_one, .ref r_two, .ref r_begin, .ref r_partName, .ref r_partType, .ref r_partNumber, .int (nI v_nextMany), .int (nI v_nextParts), .ref r_nextName, .ref r_nextKind, .ref r_nextVary, .ref r_nextFlag, .ref r_nextRest, .ref r_nextMore, .ref r_nextOne, .ref r_nextTwo, .ref r_nextBegin, .ref r_nextPartName, .ref r_nextPartType, .ref r_nextPartNumber, .ref r_apart, .ref r_leader, .ref r_number, .int (nI v_classes), .int (nI v_stringsAt), .int (nI v_stringsEnd), .ref r_way, .ref r_seen, .int (nI v_drafted), .ref r_told, .ref r_toldAt, .int (nI v_tolds), .int (nI v_stringsSize)])), (r_kind, .inl (T 0, 202, .inl (fun z9 => nI (f_kind z9)))), (r_one, .inl (T 1, 202, .inr (.inl (fun z9 => lN (f_one z9))))), (r_two, .inl (T 1, 202, .inr (.inl (fun z9 => lN (f_two z9))))), (r_begin, .inl (T 0, 203, .inl (fun z9 => nI (f_begin z9)))), (r_rest, .inl (T 1, 202, .inr (.inl (fun z9 => lN (f_rest z9))))), (r_partType, .inl (T 1, 601, .inr (.inl (fun z9 => lN (f_partType z9))))), (r_more, .inl (T 1, 202, .inr (.inl (fun z9 => lN (f_more z9))))), (r_way, .inl (T 0, 204, .inl (fun z9 => nI (f_way z9))))] (fun v w1 => ∃ (wy : Nat → Nat) (r : Option Nat), v = some (.long (oL r)) ∧ w1 = [(mo, .inr (8, [.int (nI 0), .ref r_tape, .int (nI v_taped), .ref r_output, .ref r_draft, .int (nI v_written), .int (nI v_error), .int (nI v_stands), .int (nI v_many), .ref r_letters, .ref r_name, .ref r_kind, .ref r_vary, .ref r_flag, .ref r_rest, .ref r_more, .ref r_one, .ref r_two, .ref r_begin, .ref r_partName, .ref r_partType, .ref r_partNumber, .int (nI v_nextMany), .int (nI v_nextParts), .ref r_nextName, .ref r_nextKind, .ref r_nextVary, .ref r_nextFlag, .ref r_nextRest, .ref r_nextMore, .ref r_nextOne, .ref r_nextTwo, .ref r_nextBegin, .ref r_nextPartName, .ref r_nextPartType, .ref r_nextPartNumber, .ref r_apart, .ref r_leader, .ref r_number, .int (nI v_classes), .int (nI v_stringsAt), .int (nI v_stringsEnd), .ref r_way, .ref r_seen, .int (nI v_drafted), .ref r_told, .ref r_toldAt, .int (nI v_tolds), .int (nI v_stringsSize)])), (r_kind, .inl (T 0, 202, .inl (fun z9 => nI (f_kind z9)))), (r_one, .inl (T 1, 202, .inr (.inl (fun z9 => lN (f_one z9))))), (r_two, .inl (T 1, 202, .inr (.inl (fun z9 => lN (f_two z9))))), (r_begin, .inl (T 0, 203, .inl (fun z9 => nI (f_begin z9)))), (r_rest, .inl (T 1, 202, .inr (.inl (fun z9 => lN (f_rest z9))))), (r_partType, .inl (T 1, 601, .inr (.inl (fun z9 => lN (f_partType z9))))), (r_more, .inl (T 1, 202, .inr (.inl (fun z9 => lN (f_more z9))))), (r_way, .inl (T 0, 204, .inl (fun z9 => nI (wy z9))))] ∧ SzR t v_many i r) := by
  refine Con.of (by decide) (Nat.le_of_ble_eq_true rfl) ?_
  intro E hE
  have hN := hS.1.1.1
  have hS8 := hS.1.2.2.2.1
  refine g_lv (lv' := [(0, .ref mo), (1, .int (nI i))]) [0, 1] rfl ?_
  refine g_aload_n (pc' := 1) hE 0 rfl rfl dX9_bytes_0 rfl ?_
  refine g_iload_n (pc' := 2) hE 1 rfl rfl dX9_bytes_1 rfl ?_
  refine g_i2l (pc' := 3) hE (lN i) (nI_l (by omega)) dX9_bytes_2 rfl ?_
  refine g_lconst (pc' := 4) hE (lN 0) (by decide) dX9_bytes_3 rfl ?_
  refine g_aload_n (pc' := 5) hE 0 rfl rfl dX9_bytes_4 rfl ?_
  refine g_get (pc' := 8) hE gcX9 0 rfl 8 (by decide) rfl kX9_203 dX9_bytes_5 rfl ?_
  refine g_i2l (pc' := 9) hE (lN v_many) (nI_l (by omega)) dX9_bytes_8 rfl ?_
  refine g_callS (pc' := 12) (As := [.long (lN i), .long (lN 0), .long (lN v_many)]) (rest := [.ref mo]) hE (qX9_in l D T (lN i) (lN 0) (lN v_many)) mX9_in kX9_174 iX9_in (by decide) rfl (by decide) [] rfl (by decide) rfl (Nat.le_of_ble_eq_true rfl) dX9_bytes_9 rfl (gBackR [] rfl ?_)
  rintro _ rfl
  refine g_st (st' := [.int (bI (inB (lN i) (lN 0) (lN v_many))), .ref mo]) rfl ?_
  refine g_ifB_ne (pc' := 15) (tgt := 19) hE dX9_bytes_12 rfl rfl (fun hc12 => ?_) (fun hc12 => ?_)
  rotate_left
  · (rw [inB_N (by omega) (by omega) (by omega)] at hc12; exact absurd (of_decide_eq_false hc12) (by omega))
  refine g_iconst (pc' := 20) hE (nI 0) (by decide) dX9_bytes_19 rfl ?_
  refine g_iconst (pc' := 21) hE (nI 1) (by decide) dX9_bytes_20 rfl ?_
  refine g_callV (pc' := 24) (As := [.int (nI 0), .int (nI 1)]) (rest := []) hE (qX9_fails l D T mo r_tape r_output r_draft r_letters r_name r_kind r_vary r_flag r_rest r_more r_one r_two r_begin r_partName r_partType r_partNumber r_nextName r_nextKind r_nextVary r_nextFlag r_nextRest r_nextMore r_nextOne r_nextTwo r_nextBegin r_nextPartName r_nextPartType r_nextPartNumber r_apart r_leader r_number r_way r_seen r_told r_toldAt v_thrown v_taped v_written v_error v_stands v_many v_nextMany v_nextParts v_classes v_stringsAt v_stringsEnd v_drafted v_tolds v_stringsSize false 1) mX9_fails kX9_233 iX9_fails sX9_fails (by decide) rfl (by decide) 0 rfl rfl [0] rfl (by decide) rfl (Nat.le_of_ble_eq_true rfl) dX9_bytes_21 rfl (gBackU [0] rfl (fun v w1 y => by obtain ⟨_, rfl⟩ := y; rfl) ?_)
  rintro _ _ ⟨rfl, rfl⟩
  refine g_w (ws' := [(mo, .inr (8, [.int (nI 0), .ref r_tape, .int (nI v_taped), .ref r_output, .ref r_draft, .int (nI v_written), .int (nI v_error), .int (nI v_stands), .int (nI v_many), .ref r_letters, .ref r_name, .ref r_kind, .ref r_vary, .ref r_flag, .ref r_rest, .ref r_more, .ref r_one, .ref r_two, .ref r_begin, .ref r_partName, .ref r_partType, .ref r_partNumber, .int (nI v_nextMany), .int (nI v_nextParts), .ref r_nextName, .ref r_nextKind, .ref r_nextVary, .ref r_nextFlag, .ref r_nextRest, .ref r_nextMore, .ref r_nextOne, .ref r_nextTwo, .ref r_nextBegin, .ref r_nextPartName, .ref r_nextPartType, .ref r_nextPartNumber, .ref r_apart, .ref r_leader, .ref r_number, .int (nI v_classes), .int (nI v_stringsAt), .int (nI v_stringsEnd), .ref r_way, .ref r_seen, .int (nI v_drafted), .ref r_told, .ref r_toldAt, .int (nI v_tolds), .int (nI v_stringsSize)])), (r_kind, .inl (T 0, 202, .inl (fun z9 => nI (f_kind z9)))), (r_one, .inl (T 1, 202, .inr (.inl (fun z9 => lN (f_one z9))))), (r_two, .inl (T 1, 202, .inr (.inl (fun z9 => lN (f_two z9))))), (r_begin, .inl (T 0, 203, .inl (fun z9 => nI (f_begin z9)))), (r_rest, .inl (T 1, 202, .inr (.inl (fun z9 => lN (f_rest z9))))), (r_partType, .inl (T 1, 601, .inr (.inl (fun z9 => lN (f_partType z9))))), (r_more, .inl (T 1, 202, .inr (.inl (fun z9 => lN (f_more z9))))), (r_way, .inl (T 0, 204, .inl (fun z9 => nI (f_way z9))))]) (rfl) ?_
  refine g_st (st' := [.int (bI false)]) rfl ?_
  refine g_ifB_eq (pc' := 27) (tgt := 29) hE dX9_bytes_24 rfl rfl (fun hc24 => ?_) (fun hc24 => ?_)
  rotate_left
  · exact absurd hc24 (by decide)
  refine g_aload_n (pc' := 30) hE 0 rfl rfl dX9_bytes_29 rfl ?_
  refine g_iload_n (pc' := 31) hE 1 rfl rfl dX9_bytes_30 rfl ?_
  refine g_callV (pc' := 34) (As := [.int (nI i)]) (rest := []) hE (qX9_sized l D T mo r_tape r_output r_draft r_letters r_name r_kind r_vary r_flag r_rest r_more r_one r_two r_begin r_partName r_partType r_partNumber r_nextName r_nextKind r_nextVary r_nextFlag r_nextRest r_nextMore r_nextOne r_nextTwo r_nextBegin r_nextPartName r_nextPartType r_nextPartNumber r_apart r_leader r_number r_way r_seen r_told r_toldAt 0 v_taped v_written v_error v_stands v_many v_nextMany v_nextParts v_classes v_stringsAt v_stringsEnd v_drafted v_tolds v_stringsSize t sg v_S f_letters f_name f_kind f_vary f_flag f_rest f_more f_one f_two f_begin f_partName f_partType f_partNumber f_way i hS hi) mX9_sized kX9_242 iX9_sized sX9_sized (by decide) rfl (by decide) 0 rfl rfl [0, 1, 2, 3, 4, 5, 6, 7, 8] rfl (by decide) rfl (Nat.le_of_ble_eq_true rfl) dX9_bytes_31 rfl (gBackU [0, 1, 2, 3, 4, 5, 6, 7, 8] rfl (fun v w1 y => by obtain ⟨_, _, _, rfl, _⟩ := y; rfl) ?_)
  rintro _ _ ⟨wy, r, rfl, rfl, hr⟩
  refine g_w (ws' := [(mo, .inr (8, [.int (nI 0), .ref r_tape, .int (nI v_taped), .ref r_output, .ref r_draft, .int (nI v_written), .int (nI v_error), .int (nI v_stands), .int (nI v_many), .ref r_letters, .ref r_name, .ref r_kind, .ref r_vary, .ref r_flag, .ref r_rest, .ref r_more, .ref r_one, .ref r_two, .ref r_begin, .ref r_partName, .ref r_partType, .ref r_partNumber, .int (nI v_nextMany), .int (nI v_nextParts), .ref r_nextName, .ref r_nextKind, .ref r_nextVary, .ref r_nextFlag, .ref r_nextRest, .ref r_nextMore, .ref r_nextOne, .ref r_nextTwo, .ref r_nextBegin, .ref r_nextPartName, .ref r_nextPartType, .ref r_nextPartNumber, .ref r_apart, .ref r_leader, .ref r_number, .int (nI v_classes), .int (nI v_stringsAt), .int (nI v_stringsEnd), .ref r_way, .ref r_seen, .int (nI v_drafted), .ref r_told, .ref r_toldAt, .int (nI v_tolds), .int (nI v_stringsSize)])), (r_kind, .inl (T 0, 202, .inl (fun z9 => nI (f_kind z9)))), (r_one, .inl (T 1, 202, .inr (.inl (fun z9 => lN (f_one z9))))), (r_two, .inl (T 1, 202, .inr (.inl (fun z9 => lN (f_two z9))))), (r_begin, .inl (T 0, 203, .inl (fun z9 => nI (f_begin z9)))), (r_rest, .inl (T 1, 202, .inr (.inl (fun z9 => lN (f_rest z9))))), (r_partType, .inl (T 1, 601, .inr (.inl (fun z9 => lN (f_partType z9))))), (r_more, .inl (T 1, 202, .inr (.inl (fun z9 => lN (f_more z9))))), (r_way, .inl (T 0, 204, .inl (fun z9 => nI (wy z9))))]) (rfl) ?_
  refine g_st (st' := [.long (oL r)]) rfl ?_
  exact hE.lret (⟨wy, r, rfl, rfl, hr⟩) (Nat.zero_le _) (Nat.zero_le _) dX9_bytes_34

set_option maxHeartbeats 4000000 in
set_option maxRecDepth 100000 in
theorem qX9_bytesX (l : Launch) (D : va_G) (T : Nat → ClassId) (mo r_tape r_output r_draft r_letters r_name r_kind r_vary r_flag r_rest r_more r_one r_two r_begin r_partName r_partType r_partNumber r_nextName r_nextKind r_nextVary r_nextFlag r_nextRest r_nextMore r_nextOne r_nextTwo r_nextBegin r_nextPartName r_nextPartType r_nextPartNumber r_apart r_leader r_number r_way r_seen r_told r_toldAt v_thrown v_taped v_written v_error v_stands v_many v_nextMany v_nextParts v_classes v_stringsAt v_stringsEnd v_drafted v_tolds v_stringsSize : Nat) (x : Int32) (hm : v_many ≤ 200) (hv : ¬ inB x.toInt64 (lN 0) (lN v_many) = true) : Con l D T yX9_bytes cX9_bytes 2 (some .long) 2 0 0 [.ref mo, .int x] [(mo, .inr (8, [.int (nI v_thrown), .ref r_tape, .int (nI v_taped), .ref r_output, .ref r_draft, .int (nI v_written), .int (nI v_error), .int (nI v_stands), .int (nI v_many), .ref r_letters, .ref r_name, .ref r_kind, .ref r_vary, .ref r_flag, .ref r_rest, .ref r_more, .ref r_one, .ref r_two, .ref r_begin, .ref r_partName, .ref r_partType, .ref r_partNumber, .int (nI v_nextMany), .int (nI v_nextParts), .ref r_nextName, .ref r_nextKind, .ref r_nextVary, .ref r_nextFlag, .ref r_nextRest, .ref r_nextMore, .ref r_nextOne, .ref r_nextTwo, .ref r_nextBegin, .ref r_nextPartName, .ref r_nextPartType, .ref r_nextPartNumber, .ref r_apart, .ref r_leader, .ref r_number, .int (nI v_classes), .int (nI v_stringsAt), .int (nI v_stringsEnd), .ref r_way, .ref r_seen, .int (nI v_drafted), .ref r_told, .ref r_toldAt, .int (nI v_tolds), .int (nI v_stringsSize)]))] (fun v w1 => v = some (.long (lN 0)) ∧ w1 = [(mo, .inr (8, [.int (nI 1), .ref r_tape, .int (nI v_taped), .ref r_output, .ref r_draft, .int (nI v_written), .int (nI v_error), .int (nI v_stands), .int (nI v_many), .ref r_letters, .ref r_name, .ref r_kind, .ref r_vary, .ref r_flag, .ref r_rest, .ref r_more, .ref r_one, .ref r_two, .ref r_begin, .ref r_partName, .ref r_partType, .ref r_partNumber, .int (nI v_nextMany), .int (nI v_nextParts), .ref r_nextName, .ref r_nextKind, .ref r_nextVary, .ref r_nextFlag, .ref r_nextRest, .ref r_nextMore, .ref r_nextOne, .ref r_nextTwo, .ref r_nextBegin, .ref r_nextPartName, .ref r_nextPartType, .ref r_nextPartNumber, .ref r_apart, .ref r_leader, .ref r_number, .int (nI v_classes), .int (nI v_stringsAt), .int (nI v_stringsEnd), .ref r_way, .ref r_seen, .int (nI v_drafted), .ref r_told, .ref r_toldAt, .int (nI v_tolds), .int (nI v_stringsSize)]))]) := by
  refine Con.of (by decide) (Nat.le_of_ble_eq_true rfl) ?_
  intro E hE
  refine g_lv (lv' := [(0, .ref mo), (1, .int x)]) [0, 1] rfl ?_
  refine g_aload_n (pc' := 1) hE 0 rfl rfl dX9_bytes_0 rfl ?_
  refine g_iload_n (pc' := 2) hE 1 rfl rfl dX9_bytes_1 rfl ?_
  refine g_i2l (pc' := 3) hE (x.toInt64) rfl dX9_bytes_2 rfl ?_
  refine g_lconst (pc' := 4) hE (lN 0) (by decide) dX9_bytes_3 rfl ?_
  refine g_aload_n (pc' := 5) hE 0 rfl rfl dX9_bytes_4 rfl ?_
  refine g_get (pc' := 8) hE gcX9 0 rfl 8 (by decide) rfl kX9_203 dX9_bytes_5 rfl ?_
  refine g_i2l (pc' := 9) hE (lN v_many) (nI_l (by omega)) dX9_bytes_8 rfl ?_
  refine g_callS (pc' := 12) (As := [.long x.toInt64, .long (lN 0), .long (lN v_many)]) (rest := [.ref mo]) hE (qX9_in l D T x.toInt64 (lN 0) (lN v_many)) mX9_in kX9_174 iX9_in (by decide) rfl (by decide) [] rfl (by decide) rfl (Nat.le_of_ble_eq_true rfl) dX9_bytes_9 rfl (gBackR [] rfl ?_)
  rintro _ rfl
  refine g_st (st' := [.int (bI (inB x.toInt64 (lN 0) (lN v_many))), .ref mo]) rfl ?_
  refine g_ifB_ne (pc' := 15) (tgt := 19) hE dX9_bytes_12 rfl rfl (fun hc12 => ?_) (fun hc12 => ?_)
  · exact absurd hc12 hv
  refine g_iconst (pc' := 16) hE (nI 1) (by decide) dX9_bytes_15 rfl ?_
  refine g_goto (tgt := 20) hE dX9_bytes_16 rfl ?_
  refine g_iconst (pc' := 21) hE (nI 1) (by decide) dX9_bytes_20 rfl ?_
  refine g_callV (pc' := 24) (As := [.int (nI 1), .int (nI 1)]) (rest := []) hE (qX9_fails l D T mo r_tape r_output r_draft r_letters r_name r_kind r_vary r_flag r_rest r_more r_one r_two r_begin r_partName r_partType r_partNumber r_nextName r_nextKind r_nextVary r_nextFlag r_nextRest r_nextMore r_nextOne r_nextTwo r_nextBegin r_nextPartName r_nextPartType r_nextPartNumber r_apart r_leader r_number r_way r_seen r_told r_toldAt v_thrown v_taped v_written v_error v_stands v_many v_nextMany v_nextParts v_classes v_stringsAt v_stringsEnd v_drafted v_tolds v_stringsSize true 1) mX9_fails kX9_233 iX9_fails sX9_fails (by decide) rfl (by decide) 0 rfl rfl [0] rfl (by decide) rfl (Nat.le_of_ble_eq_true rfl) dX9_bytes_21 rfl (gBackU [0] rfl (fun v w1 y => by obtain ⟨_, rfl⟩ := y; rfl) ?_)
  rintro _ _ ⟨rfl, rfl⟩
  refine g_w (ws' := [(mo, .inr (8, [.int (nI 1), .ref r_tape, .int (nI v_taped), .ref r_output, .ref r_draft, .int (nI v_written), .int (nI v_error), .int (nI v_stands), .int (nI v_many), .ref r_letters, .ref r_name, .ref r_kind, .ref r_vary, .ref r_flag, .ref r_rest, .ref r_more, .ref r_one, .ref r_two, .ref r_begin, .ref r_partName, .ref r_partType, .ref r_partNumber, .int (nI v_nextMany), .int (nI v_nextParts), .ref r_nextName, .ref r_nextKind, .ref r_nextVary, .ref r_nextFlag, .ref r_nextRest, .ref r_nextMore, .ref r_nextOne, .ref r_nextTwo, .ref r_nextBegin, .ref r_nextPartName, .ref r_nextPartType, .ref r_nextPartNumber, .ref r_apart, .ref r_leader, .ref r_number, .int (nI v_classes), .int (nI v_stringsAt), .int (nI v_stringsEnd), .ref r_way, .ref r_seen, .int (nI v_drafted), .ref r_told, .ref r_toldAt, .int (nI v_tolds), .int (nI v_stringsSize)]))]) (rfl) ?_
  refine g_st (st' := [.int (bI true)]) rfl ?_
  refine g_ifB_eq (pc' := 27) (tgt := 29) hE dX9_bytes_24 rfl rfl (fun hc24 => ?_) (fun hc24 => ?_)
  · exact absurd hc24 (by decide)
  refine g_lconst (pc' := 28) hE (lN 0) (by decide) dX9_bytes_27 rfl ?_
  exact hE.lret (⟨rfl, rfl⟩) (Nat.zero_le _) (Nat.zero_le _) dX9_bytes_28
