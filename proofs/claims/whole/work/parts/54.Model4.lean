set_option maxHeartbeats 4000000 in
set_option maxRecDepth 100000 in
theorem qX9_isTape (l : Launch) (D : va_G) (T : Nat → ClassId) (mo r_tape r_output r_draft r_letters r_name r_kind r_vary r_flag r_rest r_more r_one r_two r_begin r_partName r_partType r_partNumber r_nextName r_nextKind r_nextVary r_nextFlag r_nextRest r_nextMore r_nextOne r_nextTwo r_nextBegin r_nextPartName r_nextPartType r_nextPartNumber r_apart r_leader r_number r_way r_seen r_told r_toldAt v_thrown v_taped v_written v_error v_stands v_many v_nextMany v_nextParts v_classes v_stringsAt v_stringsEnd v_drafted v_tolds v_stringsSize : Nat) (f_letters : Nat → Nat) (f_tape : Nat → Nat) (v_S p : Nat) (hb : ∀ i, f_letters i < 256) (hS : v_S ≤ 8192) (h0 : f_letters (v_S - 1) = 0) (hp : p < v_S) (ht : ∀ i, f_tape i < 256) (htc : v_taped ≤ 8192) : Con l D T yX9_isTape cX9_isTape 4 (some .boolean) 1 0 0 [.ref mo, .int (nI p)] [(mo, .inr (8, [.int (nI v_thrown), .ref r_tape, .int (nI v_taped), .ref r_output, .ref r_draft, .int (nI v_written), .int (nI v_error), .int (nI v_stands), .int (nI v_many), .ref r_letters, .ref r_name, .ref r_kind, .ref r_vary, .ref r_flag, .ref r_rest, .ref r_more, .ref r_one, .ref r_two, .ref r_begin, .ref r_partName, .ref r_partType, .ref r_partNumber, .int (nI v_nextMany), .int (nI v_nextParts), .ref r_nextName, .ref r_nextKind, .ref r_nextVary, .ref r_nextFlag, .ref r_nextRest, .ref r_nextMore, .ref r_nextOne, .ref r_nextTwo, .ref r_nextBegin, .ref r_nextPartName, .ref r_nextPartType, .ref r_nextPartNumber, .ref r_apart, .ref r_leader, .ref r_number, .int (nI v_classes), .int (nI v_stringsAt), .int (nI v_stringsEnd), .ref r_way, .ref r_seen, .int (nI v_drafted), .ref r_told, .ref r_toldAt, .int (nI v_tolds), .int (nI v_stringsSize)])), (r_letters, .inl (T 0, 8192, .inl (fun z9 => nI (f_letters z9)))), (r_tape, .inl (T 0, 8192, .inl (fun z9 => nI (f_tape z9))))] (fun r w1 => w1 = [(mo, .inr (8, [.int (nI v_thrown), .ref r_tape, .int (nI v_taped), .ref r_output, .ref r_draft, .int (nI v_written), .int (nI v_error), .int (nI v_stands), .int (nI v_many), .ref r_letters, .ref r_name, .ref r_kind, .ref r_vary, .ref r_flag, .ref r_rest, .ref r_more, .ref r_one, .ref r_two, .ref r_begin, .ref r_partName, .ref r_partType, .ref r_partNumber, .int (nI v_nextMany), .int (nI v_nextParts), .ref r_nextName, .ref r_nextKind, .ref r_nextVary, .ref r_nextFlag, .ref r_nextRest, .ref r_nextMore, .ref r_nextOne, .ref r_nextTwo, .ref r_nextBegin, .ref r_nextPartName, .ref r_nextPartType, .ref r_nextPartNumber, .ref r_apart, .ref r_leader, .ref r_number, .int (nI v_classes), .int (nI v_stringsAt), .int (nI v_stringsEnd), .ref r_way, .ref r_seen, .int (nI v_drafted), .ref r_told, .ref r_toldAt, .int (nI v_tolds), .int (nI v_stringsSize)])), (r_letters, .inl (T 0, 8192, .inl (fun z9 => nI (f_letters z9)))), (r_tape, .inl (T 0, 8192, .inl (fun z9 => nI (f_tape z9))))] ∧ ∃ z : Bool, r = some (.int (bI z)) ∧ (z = true ↔ lfr f_letters p = v_taped ∧ ∀ j, j < v_taped → f_letters (p + j) = f_tape j)) := by
  refine Con.of (by decide) (Nat.le_of_ble_eq_true rfl) ?_
  intro E hE
  have hL := lfr_spec (t := f_letters) (n := v_S - 1 - p) (s := p) (by omega) (by rw [show p + (v_S - 1 - p) = v_S - 1 by omega]; exact h0)
  refine g_lv (lv' := [(0, .ref mo), (1, .int (nI p))]) [0, 1] rfl ?_
  refine g_aload_n (pc' := 1) hE 0 rfl rfl dX9_isTape_0 rfl ?_
  refine g_iload_n (pc' := 2) hE 1 rfl rfl dX9_isTape_1 rfl ?_
  refine g_callV (pc' := 5) (As := [.int (nI p)]) (rest := []) hE (qX9_size l D T mo r_tape r_output r_draft r_letters r_name r_kind r_vary r_flag r_rest r_more r_one r_two r_begin r_partName r_partType r_partNumber r_nextName r_nextKind r_nextVary r_nextFlag r_nextRest r_nextMore r_nextOne r_nextTwo r_nextBegin r_nextPartName r_nextPartType r_nextPartNumber r_apart r_leader r_number r_way r_seen r_told r_toldAt v_thrown v_taped v_written v_error v_stands v_many v_nextMany v_nextParts v_classes v_stringsAt v_stringsEnd v_drafted v_tolds v_stringsSize f_letters v_S p hb hS h0 hp) mX9_size kX9_239 iX9_size sX9_size (by decide) rfl (by decide) 0 rfl rfl [0, 1] rfl (by decide) rfl (Nat.le_of_ble_eq_true rfl) dX9_isTape_2 rfl (gBackR [0, 1] rfl ?_)
  rintro _ rfl
  refine g_st (st' := [.int (nI (lfr f_letters p))]) rfl ?_
  refine g_aload_n (pc' := 6) hE 0 rfl rfl dX9_isTape_5 rfl ?_
  refine g_get (pc' := 9) hE gcX9 0 rfl 2 (by decide) rfl kX9_131 dX9_isTape_6 rfl ?_
  refine g_icmpN_ne (pc' := 12) (tgt := 16) hE (by omega) (by omega) dX9_isTape_9 rfl rfl (fun hc9 => ?_) (fun hc9 => ?_)
  · refine g_iconst (pc' := 17) hE (nI 0) (by decide) dX9_isTape_16 rfl ?_
    refine g_istore_n (pc' := 18) hE [(2, .int (nI 0)), (0, .ref mo), (1, .int (nI p))] dX9_isTape_17 rfl rfl (by decide) rfl ?_
    refine g_iconst (pc' := 19) hE (nI 0) (by decide) dX9_isTape_18 rfl ?_
    refine g_istore_n (pc' := 20) hE [(3, .int (nI 0)), (2, .int (nI 0)), (0, .ref mo), (1, .int (nI p))] dX9_isTape_19 rfl rfl (by decide) rfl ?_
    refine g_lvw (lv' := [(3, .int (nI 0)), (2, .int (bI false)), (0, .ref mo), (1, .int (nI p))]) (rfl) ?_
    refine (show ∀ (d20 : Nat) (k : Nat) (z : Bool), v_taped - k = d20 → (k ≤ v_taped) → (z = true ↔ lfr f_letters p = v_taped ∧ ∀ j, j < k → f_letters (p + j) = f_tape j) → G l E D 4 0 0 [(mo, .inr (8, [.int (nI v_thrown), .ref r_tape, .int (nI v_taped), .ref r_output, .ref r_draft, .int (nI v_written), .int (nI v_error), .int (nI v_stands), .int (nI v_many), .ref r_letters, .ref r_name, .ref r_kind, .ref r_vary, .ref r_flag, .ref r_rest, .ref r_more, .ref r_one, .ref r_two, .ref r_begin, .ref r_partName, .ref r_partType, .ref r_partNumber, .int (nI v_nextMany), .int (nI v_nextParts), .ref r_nextName, .ref r_nextKind, .ref r_nextVary, .ref r_nextFlag, .ref r_nextRest, .ref r_nextMore, .ref r_nextOne, .ref r_nextTwo, .ref r_nextBegin, .ref r_nextPartName, .ref r_nextPartType, .ref r_nextPartNumber, .ref r_apart, .ref r_leader, .ref r_number, .int (nI v_classes), .int (nI v_stringsAt), .int (nI v_stringsEnd), .ref r_way, .ref r_seen, .int (nI v_drafted), .ref r_told, .ref r_toldAt, .int (nI v_tolds), .int (nI v_stringsSize)])), (r_letters, .inl (T 0, 8192, .inl (fun z9 => nI (f_letters z9)))), (r_tape, .inl (T 0, 8192, .inl (fun z9 => nI (f_tape z9))))] [(3, .int (nI k)), (2, .int (bI z)), (0, .ref mo), (1, .int (nI p))] 20 [] from ?_) _ 0 false rfl (Nat.zero_le _) (⟨fun y => (by cases y), fun y => absurd y.1 hc9⟩)
    intro d20
    induction d20 using Nat.strongRecOn with
    | _ d20 ih20 =>
    intro k z hd20 hk hz
    refine g_iload_n (pc' := 21) hE 0 rfl rfl dX9_isTape_20 rfl ?_
    refine g_aload_n (pc' := 22) hE 2 rfl rfl dX9_isTape_21 rfl ?_
    refine g_get (pc' := 25) hE gcX9 0 rfl 2 (by decide) rfl kX9_131 dX9_isTape_22 rfl ?_
    refine g_icmpN_ge (pc' := 28) (tgt := 61) hE (by omega) (by omega) dX9_isTape_25 rfl rfl (fun hc25 => ?_) (fun hc25 => ?_)
    · refine g_iload_n (pc' := 62) hE 1 rfl rfl dX9_isTape_61 rfl ?_
      exact hE.zret (by first | rfl | exact bI_nar _ | decide) (⟨rfl, z, rfl, ⟨fun y => by first | exact ⟨(hz.mp y).1, fun j hj => (hz.mp y).2 j (by omega)⟩ | (rw [y] at hc29; cases hc29), fun y => hz.mpr ⟨y.1, fun j hj => y.2 j (by omega)⟩⟩⟩) (Nat.zero_le _) (Nat.zero_le _) dX9_isTape_62
    · refine g_iload_n (pc' := 29) hE 1 rfl rfl dX9_isTape_28 rfl ?_
      refine g_ifB_eq (pc' := 32) (tgt := 61) hE dX9_isTape_29 rfl rfl (fun hc29 => ?_) (fun hc29 => ?_)
      · refine g_iload_n (pc' := 62) hE 1 rfl rfl dX9_isTape_61 rfl ?_
        exact hE.zret (by first | rfl | exact bI_nar _ | decide) (⟨rfl, z, rfl, ⟨fun y => by first | exact ⟨(hz.mp y).1, fun j hj => (hz.mp y).2 j (by omega)⟩ | (rw [y] at hc29; cases hc29), fun y => hz.mpr ⟨y.1, fun j hj => y.2 j (by omega)⟩⟩⟩) (Nat.zero_le _) (Nat.zero_le _) dX9_isTape_62
      · have hlz := (hz.mp hc29).1
        have hb1 := hb (p + k)
        have hb2 := ht k
        refine g_aload_n (pc' := 33) hE 2 rfl rfl dX9_isTape_32 rfl ?_
        refine g_get (pc' := 36) hE gcX9 0 rfl 9 (by decide) rfl kX9_19 dX9_isTape_33 rfl ?_
        refine g_iload_n (pc' := 37) hE 3 rfl rfl dX9_isTape_36 rfl ?_
        refine g_iload_n (pc' := 38) hE 0 rfl rfl dX9_isTape_37 rfl ?_
        refine g_iadd (pc' := 39) hE dX9_isTape_38 rfl ?_
        refine g_eqi (show _ = nI (p + k) from nI_add _ _) ?_
        refine g_iald (pc' := 40) hE 1 rfl (by omega) (by omega) dX9_isTape_39 rfl ?_
        refine g_aload_n (pc' := 41) hE 2 rfl rfl dX9_isTape_40 rfl ?_
        refine g_get (pc' := 44) hE gcX9 0 rfl 1 (by decide) rfl kX9_7 dX9_isTape_41 rfl ?_
        refine g_iload_n (pc' := 45) hE 0 rfl rfl dX9_isTape_44 rfl ?_
        refine g_iald (pc' := 46) hE 2 rfl (by omega) (by omega) dX9_isTape_45 rfl ?_
        refine g_icmpN_ne (pc' := 49) (tgt := 53) hE (by omega) (by omega) dX9_isTape_46 rfl rfl (fun hc46 => ?_) (fun hc46 => ?_)
        · refine g_iconst (pc' := 54) hE (nI 0) (by decide) dX9_isTape_53 rfl ?_
          refine g_istore_n (pc' := 55) hE [(2, .int (nI 0)), (3, .int (nI k)), (0, .ref mo), (1, .int (nI p))] dX9_isTape_54 rfl rfl (by decide) rfl ?_
          refine g_lvw (lv' := [(2, .int (bI false)), (3, .int (nI k)), (0, .ref mo), (1, .int (nI p))]) (rfl) ?_
          refine g_iinc (pc' := 58) hE (nI (k + 1)) [(3, .int (nI (k + 1))), (2, .int (bI false)), (0, .ref mo), (1, .int (nI p))] 1 rfl dX9_isTape_55 rfl (g_incN _ 1) (by decide) rfl ?_
          refine g_goto (tgt := 20) hE dX9_isTape_58 rfl ?_
          exact ih20 _ (by omega) (k + 1) false rfl (by omega) (⟨fun y => (by cases y), fun y => absurd (y.2 k (by omega)) hc46⟩)
        · refine g_iconst (pc' := 50) hE (nI 1) (by decide) dX9_isTape_49 rfl ?_
          refine g_goto (tgt := 54) hE dX9_isTape_50 rfl ?_
          refine g_istore_n (pc' := 55) hE [(2, .int (nI 1)), (3, .int (nI k)), (0, .ref mo), (1, .int (nI p))] dX9_isTape_54 rfl rfl (by decide) rfl ?_
          refine g_lvw (lv' := [(2, .int (bI true)), (3, .int (nI k)), (0, .ref mo), (1, .int (nI p))]) (rfl) ?_
          refine g_iinc (pc' := 58) hE (nI (k + 1)) [(3, .int (nI (k + 1))), (2, .int (bI true)), (0, .ref mo), (1, .int (nI p))] 1 rfl dX9_isTape_55 rfl (g_incN _ 1) (by decide) rfl ?_
          refine g_goto (tgt := 20) hE dX9_isTape_58 rfl ?_
          exact ih20 _ (by omega) (k + 1) true rfl (by omega) (⟨fun _ => ⟨hlz, lt_s (hz.mp hc29).2 hc46⟩, fun _ => rfl⟩)
  · refine g_iconst (pc' := 13) hE (nI 1) (by decide) dX9_isTape_12 rfl ?_
    refine g_goto (tgt := 17) hE dX9_isTape_13 rfl ?_
    refine g_istore_n (pc' := 18) hE [(2, .int (nI 1)), (0, .ref mo), (1, .int (nI p))] dX9_isTape_17 rfl rfl (by decide) rfl ?_
    refine g_iconst (pc' := 19) hE (nI 0) (by decide) dX9_isTape_18 rfl ?_
    refine g_istore_n (pc' := 20) hE [(3, .int (nI 0)), (2, .int (nI 1)), (0, .ref mo), (1, .int (nI p))] dX9_isTape_19 rfl rfl (by decide) rfl ?_
    refine g_lvw (lv' := [(3, .int (nI 0)), (2, .int (bI true)), (0, .ref mo), (1, .int (nI p))]) (rfl) ?_
    refine (show ∀ (d20 : Nat) (k : Nat) (z : Bool), v_taped - k = d20 → (k ≤ v_taped) → (z = true ↔ lfr f_letters p = v_taped ∧ ∀ j, j < k → f_letters (p + j) = f_tape j) → G l E D 4 0 0 [(mo, .inr (8, [.int (nI v_thrown), .ref r_tape, .int (nI v_taped), .ref r_output, .ref r_draft, .int (nI v_written), .int (nI v_error), .int (nI v_stands), .int (nI v_many), .ref r_letters, .ref r_name, .ref r_kind, .ref r_vary, .ref r_flag, .ref r_rest, .ref r_more, .ref r_one, .ref r_two, .ref r_begin, .ref r_partName, .ref r_partType, .ref r_partNumber, .int (nI v_nextMany), .int (nI v_nextParts), .ref r_nextName, .ref r_nextKind, .ref r_nextVary, .ref r_nextFlag, .ref r_nextRest, .ref r_nextMore, .ref r_nextOne, .ref r_nextTwo, .ref r_nextBegin, .ref r_nextPartName, .ref r_nextPartType, .ref r_nextPartNumber, .ref r_apart, .ref r_leader, .ref r_number, .int (nI v_classes), .int (nI v_stringsAt), .int (nI v_stringsEnd), .ref r_way, .ref r_seen, .int (nI v_drafted), .ref r_told, .ref r_toldAt, .int (nI v_tolds), .int (nI v_stringsSize)])), (r_letters, .inl (T 0, 8192, .inl (fun z9 => nI (f_letters z9)))), (r_tape, .inl (T 0, 8192, .inl (fun z9 => nI (f_tape z9))))] [(3, .int (nI k)), (2, .int (bI z)), (0, .ref mo), (1, .int (nI p))] 20 [] from ?_) _ 0 true rfl (Nat.zero_le _) (⟨fun _ => ⟨hc9, fun j hj => absurd hj (by omega)⟩, fun _ => rfl⟩)
    intro d20
    induction d20 using Nat.strongRecOn with
    | _ d20 ih20 =>
    intro k z hd20 hk hz
    refine g_iload_n (pc' := 21) hE 0 rfl rfl dX9_isTape_20 rfl ?_
    refine g_aload_n (pc' := 22) hE 2 rfl rfl dX9_isTape_21 rfl ?_
    refine g_get (pc' := 25) hE gcX9 0 rfl 2 (by decide) rfl kX9_131 dX9_isTape_22 rfl ?_
    refine g_icmpN_ge (pc' := 28) (tgt := 61) hE (by omega) (by omega) dX9_isTape_25 rfl rfl (fun hc25 => ?_) (fun hc25 => ?_)
    · refine g_iload_n (pc' := 62) hE 1 rfl rfl dX9_isTape_61 rfl ?_
      exact hE.zret (by first | rfl | exact bI_nar _ | decide) (⟨rfl, z, rfl, ⟨fun y => by first | exact ⟨(hz.mp y).1, fun j hj => (hz.mp y).2 j (by omega)⟩ | (rw [y] at hc29; cases hc29), fun y => hz.mpr ⟨y.1, fun j hj => y.2 j (by omega)⟩⟩⟩) (Nat.zero_le _) (Nat.zero_le _) dX9_isTape_62
    · refine g_iload_n (pc' := 29) hE 1 rfl rfl dX9_isTape_28 rfl ?_
      refine g_ifB_eq (pc' := 32) (tgt := 61) hE dX9_isTape_29 rfl rfl (fun hc29 => ?_) (fun hc29 => ?_)
      · refine g_iload_n (pc' := 62) hE 1 rfl rfl dX9_isTape_61 rfl ?_
        exact hE.zret (by first | rfl | exact bI_nar _ | decide) (⟨rfl, z, rfl, ⟨fun y => by first | exact ⟨(hz.mp y).1, fun j hj => (hz.mp y).2 j (by omega)⟩ | (rw [y] at hc29; cases hc29), fun y => hz.mpr ⟨y.1, fun j hj => y.2 j (by omega)⟩⟩⟩) (Nat.zero_le _) (Nat.zero_le _) dX9_isTape_62
      · have hlz := (hz.mp hc29).1
        have hb1 := hb (p + k)
        have hb2 := ht k
        refine g_aload_n (pc' := 33) hE 2 rfl rfl dX9_isTape_32 rfl ?_
        refine g_get (pc' := 36) hE gcX9 0 rfl 9 (by decide) rfl kX9_19 dX9_isTape_33 rfl ?_
        refine g_iload_n (pc' := 37) hE 3 rfl rfl dX9_isTape_36 rfl ?_
        refine g_iload_n (pc' := 38) hE 0 rfl rfl dX9_isTape_37 rfl ?_
        refine g_iadd (pc' := 39) hE dX9_isTape_38 rfl ?_
        refine g_eqi (show _ = nI (p + k) from nI_add _ _) ?_
        refine g_iald (pc' := 40) hE 1 rfl (by omega) (by omega) dX9_isTape_39 rfl ?_
        refine g_aload_n (pc' := 41) hE 2 rfl rfl dX9_isTape_40 rfl ?_
        refine g_get (pc' := 44) hE gcX9 0 rfl 1 (by decide) rfl kX9_7 dX9_isTape_41 rfl ?_
        refine g_iload_n (pc' := 45) hE 0 rfl rfl dX9_isTape_44 rfl ?_
        refine g_iald (pc' := 46) hE 2 rfl (by omega) (by omega) dX9_isTape_45 rfl ?_
        refine g_icmpN_ne (pc' := 49) (tgt := 53) hE (by omega) (by omega) dX9_isTape_46 rfl rfl (fun hc46 => ?_) (fun hc46 => ?_)
        · refine g_iconst (pc' := 54) hE (nI 0) (by decide) dX9_isTape_53 rfl ?_
          refine g_istore_n (pc' := 55) hE [(2, .int (nI 0)), (3, .int (nI k)), (0, .ref mo), (1, .int (nI p))] dX9_isTape_54 rfl rfl (by decide) rfl ?_
          refine g_lvw (lv' := [(2, .int (bI false)), (3, .int (nI k)), (0, .ref mo), (1, .int (nI p))]) (rfl) ?_
          refine g_iinc (pc' := 58) hE (nI (k + 1)) [(3, .int (nI (k + 1))), (2, .int (bI false)), (0, .ref mo), (1, .int (nI p))] 1 rfl dX9_isTape_55 rfl (g_incN _ 1) (by decide) rfl ?_
          refine g_goto (tgt := 20) hE dX9_isTape_58 rfl ?_
          exact ih20 _ (by omega) (k + 1) false rfl (by omega) (⟨fun y => (by cases y), fun y => absurd (y.2 k (by omega)) hc46⟩)
        · refine g_iconst (pc' := 50) hE (nI 1) (by decide) dX9_isTape_49 rfl ?_
          refine g_goto (tgt := 54) hE dX9_isTape_50 rfl ?_
          refine g_istore_n (pc' := 55) hE [(2, .int (nI 1)), (3, .int (nI k)), (0, .ref mo), (1, .int (nI p))] dX9_isTape_54 rfl rfl (by decide) rfl ?_
          refine g_lvw (lv' := [(2, .int (bI true)), (3, .int (nI k)), (0, .ref mo), (1, .int (nI p))]) (rfl) ?_
          refine g_iinc (pc' := 58) hE (nI (k + 1)) [(3, .int (nI (k + 1))), (2, .int (bI true)), (0, .ref mo), (1, .int (nI p))] 1 rfl dX9_isTape_55 rfl (g_incN _ 1) (by decide) rfl ?_
          refine g_goto (tgt := 20) hE dX9_isTape_58 rfl ?_
          exact ih20 _ (by omega) (k + 1) true rfl (by omega) (⟨fun _ => ⟨hlz, lt_s (hz.mp hc29).2 hc46⟩, fun _ => rfl⟩)

set_option maxHeartbeats 4000000 in
set_option maxRecDepth 100000 in
theorem qX9_tellsKnown (l : Launch) (D : va_G) (T : Nat → ClassId) (mo r_tape r_output r_draft r_letters r_name r_kind r_vary r_flag r_rest r_more r_one r_two r_begin r_partName r_partType r_partNumber r_nextName r_nextKind r_nextVary r_nextFlag r_nextRest r_nextMore r_nextOne r_nextTwo r_nextBegin r_nextPartName r_nextPartType r_nextPartNumber r_apart r_leader r_number r_way r_seen r_told r_toldAt v_thrown v_taped v_written v_error v_stands v_many v_nextMany v_nextParts v_classes v_stringsAt v_stringsEnd v_drafted v_tolds v_stringsSize : Nat) (f_nextKind : Nat → Nat) (f_nextRest : Nat → Nat) (f_nextOne : Nat → Nat) (f_nextTwo : Nat → Nat) (f_nextBegin : Nat → Nat) (f_nextPartType : Nat → Nat) (i : Nat) (hi : i ≤ 201) (hk : f_nextKind i < 32) (hr : f_nextRest i < 2 ^ 32) (ho : f_nextOne i < 2 ^ 32) (ht : f_nextTwo i < 2 ^ 32) (hm : v_nextMany ≤ 200) (hbe : f_nextBegin i ≤ f_nextBegin (i + 1)) (hb6 : f_nextBegin (i + 1) ≤ 600) (hpt : ∀ j, f_nextBegin i ≤ j → j < f_nextBegin (i + 1) → f_nextPartType j < 2 ^ 32) : Con l D T yX9_tellsKnown cX9_tellsKnown 5 (some .boolean) 1 0 0 [.ref mo, .int (nI i)] [(mo, .inr (8, [.int (nI v_thrown), .ref r_tape, .int (nI v_taped), .ref r_output, .ref r_draft, .int (nI v_written), .int (nI v_error), .int (nI v_stands), .int (nI v_many), .ref r_letters, .ref r_name, .ref r_kind, .ref r_vary, .ref r_flag, .ref r_rest, .ref r_more, .ref r_one, .ref r_two, .ref r_begin, .ref r_partName, .ref r_partType, .ref r_partNumber, .int (nI v_nextMany), .int (nI v_nextParts), .ref r_nextName, .ref r_nextKind, .ref r_nextVary, .ref r_nextFlag, .ref r_nextRest, .ref r_nextMore, .ref r_nextOne, .ref r_nextTwo, .ref r_nextBegin, .ref r_nextPartName, .ref r_nextPartType, .ref r_nextPartNumber, .ref r_apart, .ref r_leader, .ref r_number, .int (nI v_classes), .int (nI v_stringsAt), .int (nI v_stringsEnd), .ref r_way, .ref r_seen, .int (nI v_drafted), .ref r_told, .ref r_toldAt, .int (nI v_tolds), .int (nI v_stringsSize)])), (r_nextKind, .inl (T 0, 202, .inl (fun z9 => nI (f_nextKind z9)))), (r_nextRest, .inl (T 1, 202, .inr (.inl (fun z9 => lN (f_nextRest z9))))), (r_nextOne, .inl (T 1, 202, .inr (.inl (fun z9 => lN (f_nextOne z9))))), (r_nextTwo, .inl (T 1, 202, .inr (.inl (fun z9 => lN (f_nextTwo z9))))), (r_nextBegin, .inl (T 0, 203, .inl (fun z9 => nI (f_nextBegin z9)))), (r_nextPartType, .inl (T 1, 601, .inr (.inl (fun z9 => lN (f_nextPartType z9)))))] (fun r w1 => w1 = [(mo, .inr (8, [.int (nI v_thrown), .ref r_tape, .int (nI v_taped), .ref r_output, .ref r_draft, .int (nI v_written), .int (nI v_error), .int (nI v_stands), .int (nI v_many), .ref r_letters, .ref r_name, .ref r_kind, .ref r_vary, .ref r_flag, .ref r_rest, .ref r_more, .ref r_one, .ref r_two, .ref r_begin, .ref r_partName, .ref r_partType, .ref r_partNumber, .int (nI v_nextMany), .int (nI v_nextParts), .ref r_nextName, .ref r_nextKind, .ref r_nextVary, .ref r_nextFlag, .ref r_nextRest, .ref r_nextMore, .ref r_nextOne, .ref r_nextTwo, .ref r_nextBegin, .ref r_nextPartName, .ref r_nextPartType, .ref r_nextPartNumber, .ref r_apart, .ref r_leader, .ref r_number, .int (nI v_classes), .int (nI v_stringsAt), .int (nI v_stringsEnd), .ref r_way, .ref r_seen, .int (nI v_drafted), .ref r_told, .ref r_toldAt, .int (nI v_tolds), .int (nI v_stringsSize)])), (r_nextKind, .inl (T 0, 202, .inl (fun z9 => nI (f_nextKind z9)))), (r_nextRest, .inl (T 1, 202, .inr (.inl (fun z9 => lN (f_nextRest z9))))), (r_nextOne, .inl (T 1, 202, .inr (.inl (fun z9 => lN (f_nextOne z9))))), (r_nextTwo, .inl (T 1, 202, .inr (.inl (fun z9 => lN (f_nextTwo z9))))), (r_nextBegin, .inl (T 0, 203, .inl (fun z9 => nI (f_nextBegin z9)))), (r_nextPartType, .inl (T 1, 601, .inr (.inl (fun z9 => lN (f_nextPartType z9)))))] ∧ ∃ z : Bool, r = some (.int (bI z)) ∧ (z = true ↔ Known f_nextKind f_nextRest f_nextOne f_nextTwo f_nextBegin f_nextPartType v_nextMany i)) := by
  refine Con.of (by decide) (Nat.le_of_ble_eq_true rfl) ?_
  intro E hE
  refine g_lv (lv' := [(0, .ref mo), (1, .int (nI i))]) [0, 1] rfl ?_
  refine g_aload_n (pc' := 1) hE 0 rfl rfl dX9_tellsKnown_0 rfl ?_
  refine g_get (pc' := 4) hE gcX9 0 rfl 25 (by decide) rfl kX9_62 dX9_tellsKnown_1 rfl ?_
  refine g_iload_n (pc' := 5) hE 1 rfl rfl dX9_tellsKnown_4 rfl ?_
  refine g_iald (pc' := 6) hE 1 rfl (by omega) (by omega) dX9_tellsKnown_5 rfl ?_
  refine g_istore_n (pc' := 7) hE [(2, .int (nI (f_nextKind i))), (0, .ref mo), (1, .int (nI i))] dX9_tellsKnown_6 rfl rfl (by decide) rfl ?_
  have hJ74 : ∀ (z : Bool), (z = true ↔ ((trB (f_nextKind i) = false ∨ f_nextRest i ≤ v_nextMany) ∧ f_nextOne i ≤ v_nextMany ∧ f_nextTwo i ≤ v_nextMany)) → G l E D 5 0 0 [(mo, .inr (8, [.int (nI v_thrown), .ref r_tape, .int (nI v_taped), .ref r_output, .ref r_draft, .int (nI v_written), .int (nI v_error), .int (nI v_stands), .int (nI v_many), .ref r_letters, .ref r_name, .ref r_kind, .ref r_vary, .ref r_flag, .ref r_rest, .ref r_more, .ref r_one, .ref r_two, .ref r_begin, .ref r_partName, .ref r_partType, .ref r_partNumber, .int (nI v_nextMany), .int (nI v_nextParts), .ref r_nextName, .ref r_nextKind, .ref r_nextVary, .ref r_nextFlag, .ref r_nextRest, .ref r_nextMore, .ref r_nextOne, .ref r_nextTwo, .ref r_nextBegin, .ref r_nextPartName, .ref r_nextPartType, .ref r_nextPartNumber, .ref r_apart, .ref r_leader, .ref r_number, .int (nI v_classes), .int (nI v_stringsAt), .int (nI v_stringsEnd), .ref r_way, .ref r_seen, .int (nI v_drafted), .ref r_told, .ref r_toldAt, .int (nI v_tolds), .int (nI v_stringsSize)])), (r_nextKind, .inl (T 0, 202, .inl (fun z9 => nI (f_nextKind z9)))), (r_nextRest, .inl (T 1, 202, .inr (.inl (fun z9 => lN (f_nextRest z9))))), (r_nextOne, .inl (T 1, 202, .inr (.inl (fun z9 => lN (f_nextOne z9))))), (r_nextTwo, .inl (T 1, 202, .inr (.inl (fun z9 => lN (f_nextTwo z9))))), (r_nextBegin, .inl (T 0, 203, .inl (fun z9 => nI (f_nextBegin z9)))), (r_nextPartType, .inl (T 1, 601, .inr (.inl (fun z9 => lN (f_nextPartType z9)))))] [(2, .int (nI (f_nextKind i))), (0, .ref mo), (1, .int (nI i))] 74 [.int (bI z)] := by
    intro z hz
    refine g_istore_n (pc' := 75) hE [(3, .int (bI z)), (2, .int (nI (f_nextKind i))), (0, .ref mo), (1, .int (nI i))] dX9_tellsKnown_74 rfl rfl (by decide) rfl ?_
    refine g_aload_n (pc' := 76) hE 2 rfl rfl dX9_tellsKnown_75 rfl ?_
    refine g_get (pc' := 79) hE gcX9 0 rfl 32 (by decide) rfl kX9_83 dX9_tellsKnown_76 rfl ?_
    refine g_iload_n (pc' := 80) hE 3 rfl rfl dX9_tellsKnown_79 rfl ?_
    refine g_iald (pc' := 81) hE 5 rfl (by omega) (by omega) dX9_tellsKnown_80 rfl ?_
    refine g_istore (pc' := 83) hE [(4, .int (nI (f_nextBegin i))), (3, .int (bI z)), (2, .int (nI (f_nextKind i))), (0, .ref mo), (1, .int (nI i))] dX9_tellsKnown_81 rfl (by decide) rfl ?_
    refine (show ∀ (d83 : Nat) (p : Nat) (z2 : Bool), f_nextBegin (i + 1) - p = d83 → (f_nextBegin i ≤ p) → (p ≤ f_nextBegin (i + 1)) → (z2 = true ↔ ((trB (f_nextKind i) = false ∨ f_nextRest i ≤ v_nextMany) ∧ f_nextOne i ≤ v_nextMany ∧ f_nextTwo i ≤ v_nextMany) ∧ ∀ x, f_nextBegin i ≤ x → x < p → f_nextPartType x ≤ v_nextMany) → G l E D 5 0 0 [(mo, .inr (8, [.int (nI v_thrown), .ref r_tape, .int (nI v_taped), .ref r_output, .ref r_draft, .int (nI v_written), .int (nI v_error), .int (nI v_stands), .int (nI v_many), .ref r_letters, .ref r_name, .ref r_kind, .ref r_vary, .ref r_flag, .ref r_rest, .ref r_more, .ref r_one, .ref r_two, .ref r_begin, .ref r_partName, .ref r_partType, .ref r_partNumber, .int (nI v_nextMany), .int (nI v_nextParts), .ref r_nextName, .ref r_nextKind, .ref r_nextVary, .ref r_nextFlag, .ref r_nextRest, .ref r_nextMore, .ref r_nextOne, .ref r_nextTwo, .ref r_nextBegin, .ref r_nextPartName, .ref r_nextPartType, .ref r_nextPartNumber, .ref r_apart, .ref r_leader, .ref r_number, .int (nI v_classes), .int (nI v_stringsAt), .int (nI v_stringsEnd), .ref r_way, .ref r_seen, .int (nI v_drafted), .ref r_told, .ref r_toldAt, .int (nI v_tolds), .int (nI v_stringsSize)])), (r_nextKind, .inl (T 0, 202, .inl (fun z9 => nI (f_nextKind z9)))), (r_nextRest, .inl (T 1, 202, .inr (.inl (fun z9 => lN (f_nextRest z9))))), (r_nextOne, .inl (T 1, 202, .inr (.inl (fun z9 => lN (f_nextOne z9))))), (r_nextTwo, .inl (T 1, 202, .inr (.inl (fun z9 => lN (f_nextTwo z9))))), (r_nextBegin, .inl (T 0, 203, .inl (fun z9 => nI (f_nextBegin z9)))), (r_nextPartType, .inl (T 1, 601, .inr (.inl (fun z9 => lN (f_nextPartType z9)))))] [(4, .int (nI p)), (3, .int (bI z2)), (2, .int (nI (f_nextKind i))), (0, .ref mo), (1, .int (nI i))] 83 [] from ?_) _ (f_nextBegin i) z rfl (Nat.le_refl _) hbe (⟨fun y => ⟨hz.mp y, fun x x1 x2 => absurd x2 (by omega)⟩, fun y => hz.mpr y.1⟩)
    intro d83
    induction d83 using Nat.strongRecOn with
    | _ d83 ih83 =>
    intro p z2 hd83 hp1 hp2 h2
    refine g_iload (pc' := 85) hE 0 rfl dX9_tellsKnown_83 rfl ?_
    refine g_aload_n (pc' := 86) hE 3 rfl rfl dX9_tellsKnown_85 rfl ?_
    refine g_get (pc' := 89) hE gcX9 0 rfl 32 (by decide) rfl kX9_83 dX9_tellsKnown_86 rfl ?_
    refine g_iload_n (pc' := 90) hE 4 rfl rfl dX9_tellsKnown_89 rfl ?_
    refine g_iconst (pc' := 91) hE (nI 1) (by decide) dX9_tellsKnown_90 rfl ?_
    refine g_iadd (pc' := 92) hE dX9_tellsKnown_91 rfl ?_
    refine g_eqi (show _ = nI (i + 1) from nI_add _ _) ?_
    refine g_iald (pc' := 93) hE 5 rfl (by omega) (by omega) dX9_tellsKnown_92 rfl ?_
    refine g_icmpN_ge (pc' := 96) (tgt := 128) hE (by omega) (by omega) dX9_tellsKnown_93 rfl rfl (fun hc93 => ?_) (fun hc93 => ?_)
    · refine g_iload_n (pc' := 129) hE 1 rfl rfl dX9_tellsKnown_128 rfl ?_
      exact hE.zret (by first | rfl | exact bI_nar _ | decide) (⟨rfl, z2, rfl, ⟨fun y => ⟨(h2.mp y).1, fun x x1 x2 => (h2.mp y).2 x x1 (by omega)⟩, fun y => h2.mpr ⟨y.1, fun x x1 x2 => y.2 x x1 (by omega)⟩⟩⟩) (Nat.zero_le _) (Nat.zero_le _) dX9_tellsKnown_129
    · refine g_iload_n (pc' := 97) hE 1 rfl rfl dX9_tellsKnown_96 rfl ?_
      refine g_ifB_eq (pc' := 100) (tgt := 120) hE dX9_tellsKnown_97 rfl rfl (fun hc97 => ?_) (fun hc97 => ?_)
      · refine g_iconst (pc' := 121) hE (nI 0) (by decide) dX9_tellsKnown_120 rfl ?_
        refine g_istore_n (pc' := 122) hE [(3, .int (nI 0)), (4, .int (nI p)), (2, .int (nI (f_nextKind i))), (0, .ref mo), (1, .int (nI i))] dX9_tellsKnown_121 rfl rfl (by decide) rfl ?_
        refine g_lvw (lv' := [(3, .int (bI false)), (4, .int (nI p)), (2, .int (nI (f_nextKind i))), (0, .ref mo), (1, .int (nI i))]) (rfl) ?_
        refine g_iinc (pc' := 125) hE (nI (p + 1)) [(4, .int (nI (p + 1))), (3, .int (bI false)), (2, .int (nI (f_nextKind i))), (0, .ref mo), (1, .int (nI i))] 1 rfl dX9_tellsKnown_122 rfl (g_incN _ 1) (by decide) rfl ?_
        refine g_goto (tgt := 83) hE dX9_tellsKnown_125 rfl ?_
        exact ih83 _ (by omega) (p + 1) false rfl (by omega) (by omega) (⟨fun y => (by cases y), fun y => by first | (have := y.2 p hp1 (by omega); omega) | (rw [h2.mpr ⟨y.1, fun x x1 x2 => y.2 x x1 (by omega)⟩] at hc97; cases hc97)⟩)
      · refine g_aload_n (pc' := 101) hE 3 rfl rfl dX9_tellsKnown_100 rfl ?_
        refine g_get (pc' := 104) hE gcX9 0 rfl 34 (by decide) rfl kX9_89 dX9_tellsKnown_101 rfl ?_
        refine g_iload (pc' := 106) hE 0 rfl dX9_tellsKnown_104 rfl ?_
        have hp9 := hpt p hp1 (by omega)
        refine g_lald (pc' := 107) hE 6 rfl (by omega) (by omega) dX9_tellsKnown_106 rfl ?_
        refine g_aload_n (pc' := 108) hE 3 rfl rfl dX9_tellsKnown_107 rfl ?_
        refine g_get (pc' := 111) hE gcX9 0 rfl 22 (by decide) rfl kX9_125 dX9_tellsKnown_108 rfl ?_
        refine g_i2l (pc' := 112) hE (lN v_nextMany) (nI_l (by omega)) dX9_tellsKnown_111 rfl ?_
        refine g_lcmp (pc' := 113) hE dX9_tellsKnown_112 rfl ?_
        refine g_ifcN_gt (pc' := 116) (tgt := 120) hE (by omega) (by omega) dX9_tellsKnown_113 rfl rfl (fun hc113 => ?_) (fun hc113 => ?_)
        · refine g_iconst (pc' := 121) hE (nI 0) (by decide) dX9_tellsKnown_120 rfl ?_
          refine g_istore_n (pc' := 122) hE [(3, .int (nI 0)), (4, .int (nI p)), (2, .int (nI (f_nextKind i))), (0, .ref mo), (1, .int (nI i))] dX9_tellsKnown_121 rfl rfl (by decide) rfl ?_
          refine g_lvw (lv' := [(3, .int (bI false)), (4, .int (nI p)), (2, .int (nI (f_nextKind i))), (0, .ref mo), (1, .int (nI i))]) (rfl) ?_
          refine g_iinc (pc' := 125) hE (nI (p + 1)) [(4, .int (nI (p + 1))), (3, .int (bI false)), (2, .int (nI (f_nextKind i))), (0, .ref mo), (1, .int (nI i))] 1 rfl dX9_tellsKnown_122 rfl (g_incN _ 1) (by decide) rfl ?_
          refine g_goto (tgt := 83) hE dX9_tellsKnown_125 rfl ?_
          exact ih83 _ (by omega) (p + 1) false rfl (by omega) (by omega) (⟨fun y => (by cases y), fun y => by first | (have := y.2 p hp1 (by omega); omega) | (rw [h2.mpr ⟨y.1, fun x x1 x2 => y.2 x x1 (by omega)⟩] at hc97; cases hc97)⟩)
        · refine g_iconst (pc' := 117) hE (nI 1) (by decide) dX9_tellsKnown_116 rfl ?_
          refine g_goto (tgt := 121) hE dX9_tellsKnown_117 rfl ?_
          refine g_istore_n (pc' := 122) hE [(3, .int (nI 1)), (4, .int (nI p)), (2, .int (nI (f_nextKind i))), (0, .ref mo), (1, .int (nI i))] dX9_tellsKnown_121 rfl rfl (by decide) rfl ?_
          refine g_lvw (lv' := [(3, .int (bI true)), (4, .int (nI p)), (2, .int (nI (f_nextKind i))), (0, .ref mo), (1, .int (nI i))]) (rfl) ?_
          refine g_iinc (pc' := 125) hE (nI (p + 1)) [(4, .int (nI (p + 1))), (3, .int (bI true)), (2, .int (nI (f_nextKind i))), (0, .ref mo), (1, .int (nI i))] 1 rfl dX9_tellsKnown_122 rfl (g_incN _ 1) (by decide) rfl ?_
          refine g_goto (tgt := 83) hE dX9_tellsKnown_125 rfl ?_
          exact ih83 _ (by omega) (p + 1) true rfl (by omega) (by omega) (⟨fun _ => ⟨(h2.mp hc97).1, fun x x1 x2 => by by_cases e : x = p; (subst e; omega); exact (h2.mp hc97).2 x x1 (by omega)⟩, fun _ => rfl⟩)
  have hJ34 : ∀ (z1 : Bool), (z1 = true ↔ (trB (f_nextKind i) = false ∨ f_nextRest i ≤ v_nextMany)) → G l E D 5 0 0 [(mo, .inr (8, [.int (nI v_thrown), .ref r_tape, .int (nI v_taped), .ref r_output, .ref r_draft, .int (nI v_written), .int (nI v_error), .int (nI v_stands), .int (nI v_many), .ref r_letters, .ref r_name, .ref r_kind, .ref r_vary, .ref r_flag, .ref r_rest, .ref r_more, .ref r_one, .ref r_two, .ref r_begin, .ref r_partName, .ref r_partType, .ref r_partNumber, .int (nI v_nextMany), .int (nI v_nextParts), .ref r_nextName, .ref r_nextKind, .ref r_nextVary, .ref r_nextFlag, .ref r_nextRest, .ref r_nextMore, .ref r_nextOne, .ref r_nextTwo, .ref r_nextBegin, .ref r_nextPartName, .ref r_nextPartType, .ref r_nextPartNumber, .ref r_apart, .ref r_leader, .ref r_number, .int (nI v_classes), .int (nI v_stringsAt), .int (nI v_stringsEnd), .ref r_way, .ref r_seen, .int (nI v_drafted), .ref r_told, .ref r_toldAt, .int (nI v_tolds), .int (nI v_stringsSize)])), (r_nextKind, .inl (T 0, 202, .inl (fun z9 => nI (f_nextKind z9)))), (r_nextRest, .inl (T 1, 202, .inr (.inl (fun z9 => lN (f_nextRest z9))))), (r_nextOne, .inl (T 1, 202, .inr (.inl (fun z9 => lN (f_nextOne z9))))), (r_nextTwo, .inl (T 1, 202, .inr (.inl (fun z9 => lN (f_nextTwo z9))))), (r_nextBegin, .inl (T 0, 203, .inl (fun z9 => nI (f_nextBegin z9)))), (r_nextPartType, .inl (T 1, 601, .inr (.inl (fun z9 => lN (f_nextPartType z9)))))] [(2, .int (nI (f_nextKind i))), (0, .ref mo), (1, .int (nI i))] 34 [.int (bI z1)] := by
    intro z1 h1
    refine g_istore_n (pc' := 35) hE [(3, .int (bI z1)), (2, .int (nI (f_nextKind i))), (0, .ref mo), (1, .int (nI i))] dX9_tellsKnown_34 rfl rfl (by decide) rfl ?_
    refine g_iload_n (pc' := 36) hE 0 rfl rfl dX9_tellsKnown_35 rfl ?_
    refine g_ifB_eq (pc' := 39) (tgt := 73) hE dX9_tellsKnown_36 rfl rfl (fun hc36 => ?_) (fun hc36 => ?_)
    · refine g_iconst (pc' := 74) hE (nI 0) (by decide) dX9_tellsKnown_73 rfl ?_
      refine g_st (st' := [.int (bI false)]) rfl ?_
      refine g_lv [1, 2, 3] (lv' := [(2, .int (nI (f_nextKind i))), (0, .ref mo), (1, .int (nI i))]) rfl ?_
      exact hJ74 false (⟨fun y => (by cases y), fun y => by first | omega | (rw [h1.mpr y.1] at hc36; cases hc36)⟩)
    · refine g_aload_n (pc' := 40) hE 2 rfl rfl dX9_tellsKnown_39 rfl ?_
      refine g_get (pc' := 43) hE gcX9 0 rfl 30 (by decide) rfl kX9_77 dX9_tellsKnown_40 rfl ?_
      refine g_iload_n (pc' := 44) hE 3 rfl rfl dX9_tellsKnown_43 rfl ?_
      refine g_lald (pc' := 45) hE 3 rfl (by omega) (by omega) dX9_tellsKnown_44 rfl ?_
      refine g_aload_n (pc' := 46) hE 2 rfl rfl dX9_tellsKnown_45 rfl ?_
      refine g_get (pc' := 49) hE gcX9 0 rfl 22 (by decide) rfl kX9_125 dX9_tellsKnown_46 rfl ?_
      refine g_i2l (pc' := 50) hE (lN v_nextMany) (nI_l (by omega)) dX9_tellsKnown_49 rfl ?_
      refine g_lcmp (pc' := 51) hE dX9_tellsKnown_50 rfl ?_
      refine g_ifcN_gt (pc' := 54) (tgt := 73) hE (by omega) (by omega) dX9_tellsKnown_51 rfl rfl (fun hc51 => ?_) (fun hc51 => ?_)
      · refine g_iconst (pc' := 74) hE (nI 0) (by decide) dX9_tellsKnown_73 rfl ?_
        refine g_st (st' := [.int (bI false)]) rfl ?_
        refine g_lv [1, 2, 3] (lv' := [(2, .int (nI (f_nextKind i))), (0, .ref mo), (1, .int (nI i))]) rfl ?_
        exact hJ74 false (⟨fun y => (by cases y), fun y => by first | omega | (rw [h1.mpr y.1] at hc36; cases hc36)⟩)
      · refine g_aload_n (pc' := 55) hE 2 rfl rfl dX9_tellsKnown_54 rfl ?_
        refine g_get (pc' := 58) hE gcX9 0 rfl 31 (by decide) rfl kX9_80 dX9_tellsKnown_55 rfl ?_
        refine g_iload_n (pc' := 59) hE 3 rfl rfl dX9_tellsKnown_58 rfl ?_
        refine g_lald (pc' := 60) hE 4 rfl (by omega) (by omega) dX9_tellsKnown_59 rfl ?_
        refine g_aload_n (pc' := 61) hE 2 rfl rfl dX9_tellsKnown_60 rfl ?_
        refine g_get (pc' := 64) hE gcX9 0 rfl 22 (by decide) rfl kX9_125 dX9_tellsKnown_61 rfl ?_
        refine g_i2l (pc' := 65) hE (lN v_nextMany) (nI_l (by omega)) dX9_tellsKnown_64 rfl ?_
        refine g_lcmp (pc' := 66) hE dX9_tellsKnown_65 rfl ?_
        refine g_ifcN_gt (pc' := 69) (tgt := 73) hE (by omega) (by omega) dX9_tellsKnown_66 rfl rfl (fun hc66 => ?_) (fun hc66 => ?_)
        · refine g_iconst (pc' := 74) hE (nI 0) (by decide) dX9_tellsKnown_73 rfl ?_
          refine g_st (st' := [.int (bI false)]) rfl ?_
          refine g_lv [1, 2, 3] (lv' := [(2, .int (nI (f_nextKind i))), (0, .ref mo), (1, .int (nI i))]) rfl ?_
          exact hJ74 false (⟨fun y => (by cases y), fun y => by first | omega | (rw [h1.mpr y.1] at hc36; cases hc36)⟩)
        · refine g_iconst (pc' := 70) hE (nI 1) (by decide) dX9_tellsKnown_69 rfl ?_
          refine g_goto (tgt := 74) hE dX9_tellsKnown_70 rfl ?_
          refine g_st (st' := [.int (bI true)]) rfl ?_
          refine g_lv [1, 2, 3] (lv' := [(2, .int (nI (f_nextKind i))), (0, .ref mo), (1, .int (nI i))]) rfl ?_
          exact hJ74 true (⟨fun _ => ⟨h1.mp hc36, by omega, by omega⟩, fun _ => rfl⟩)
  refine g_iload_n (pc' := 8) hE 0 rfl rfl dX9_tellsKnown_7 rfl ?_
  refine g_callS (pc' := 11) (As := [.int (nI (f_nextKind i))]) (rest := []) hE (qX9_tellsRest l D T (f_nextKind i) (by omega)) mX9_tellsRest kX9_190 iX9_tellsRest (by decide) rfl (by decide) [] rfl (by decide) rfl (Nat.le_of_ble_eq_true rfl) dX9_tellsKnown_8 rfl (gBackR [] rfl ?_)
  rintro _ rfl
  refine g_st (st' := [.int (bI (trB (f_nextKind i)))]) rfl ?_
  refine g_ifB_eq (pc' := 14) (tgt := 29) hE dX9_tellsKnown_11 rfl rfl (fun hc11 => ?_) (fun hc11 => ?_)
  · refine g_iconst (pc' := 30) hE (nI 1) (by decide) dX9_tellsKnown_29 rfl ?_
    refine g_goto (tgt := 34) hE dX9_tellsKnown_30 rfl ?_
    refine g_st (st' := [.int (bI true)]) rfl ?_
    exact hJ34 true (⟨fun _ => by first | exact Or.inl hc11 | exact Or.inr (by omega), fun _ => rfl⟩)
  · refine g_aload_n (pc' := 15) hE 1 rfl rfl dX9_tellsKnown_14 rfl ?_
    refine g_get (pc' := 18) hE gcX9 0 rfl 28 (by decide) rfl kX9_71 dX9_tellsKnown_15 rfl ?_
    refine g_iload_n (pc' := 19) hE 2 rfl rfl dX9_tellsKnown_18 rfl ?_
    refine g_lald (pc' := 20) hE 2 rfl (by omega) (by omega) dX9_tellsKnown_19 rfl ?_
    refine g_aload_n (pc' := 21) hE 1 rfl rfl dX9_tellsKnown_20 rfl ?_
    refine g_get (pc' := 24) hE gcX9 0 rfl 22 (by decide) rfl kX9_125 dX9_tellsKnown_21 rfl ?_
    refine g_i2l (pc' := 25) hE (lN v_nextMany) (nI_l (by omega)) dX9_tellsKnown_24 rfl ?_
    refine g_lcmp (pc' := 26) hE dX9_tellsKnown_25 rfl ?_
    refine g_ifcN_gt (pc' := 29) (tgt := 33) hE (by omega) (by omega) dX9_tellsKnown_26 rfl rfl (fun hc26 => ?_) (fun hc26 => ?_)
    · refine g_iconst (pc' := 34) hE (nI 0) (by decide) dX9_tellsKnown_33 rfl ?_
      refine g_st (st' := [.int (bI false)]) rfl ?_
      exact hJ34 false (⟨fun y => (by cases y), fun y => by rcases y with y | y; (rw [y] at hc11; cases hc11); omega⟩)
    · refine g_iconst (pc' := 30) hE (nI 1) (by decide) dX9_tellsKnown_29 rfl ?_
      refine g_goto (tgt := 34) hE dX9_tellsKnown_30 rfl ?_
      refine g_st (st' := [.int (bI true)]) rfl ?_
      exact hJ34 true (⟨fun _ => by first | exact Or.inl hc11 | exact Or.inr (by omega), fun _ => rfl⟩)

set_option maxHeartbeats 4000000 in
set_option maxRecDepth 100000 in
theorem qX9_put (l : Launch) (D : va_G) (T : Nat → ClassId) (mo r_tape r_output r_draft r_letters r_name r_kind r_vary r_flag r_rest r_more r_one r_two r_begin r_partName r_partType r_partNumber r_nextName r_nextKind r_nextVary r_nextFlag r_nextRest r_nextMore r_nextOne r_nextTwo r_nextBegin r_nextPartName r_nextPartType r_nextPartNumber r_apart r_leader r_number r_way r_seen r_told r_toldAt v_thrown v_taped v_written v_error v_stands v_many v_nextMany v_nextParts v_classes v_stringsAt v_stringsEnd v_drafted v_tolds v_stringsSize : Nat) (f_draft : Nat → Nat) (x : Int64) (n : Nat) (hn : n ≤ 8) (hd : v_drafted < 2 ^ 29) : Con l D T yX9_put cX9_put 5 none 0 0 0 [.ref mo, .long x, .int (nI n)] [(mo, .inr (8, [.int (nI v_thrown), .ref r_tape, .int (nI v_taped), .ref r_output, .ref r_draft, .int (nI v_written), .int (nI v_error), .int (nI v_stands), .int (nI v_many), .ref r_letters, .ref r_name, .ref r_kind, .ref r_vary, .ref r_flag, .ref r_rest, .ref r_more, .ref r_one, .ref r_two, .ref r_begin, .ref r_partName, .ref r_partType, .ref r_partNumber, .int (nI v_nextMany), .int (nI v_nextParts), .ref r_nextName, .ref r_nextKind, .ref r_nextVary, .ref r_nextFlag, .ref r_nextRest, .ref r_nextMore, .ref r_nextOne, .ref r_nextTwo, .ref r_nextBegin, .ref r_nextPartName, .ref r_nextPartType, .ref r_nextPartNumber, .ref r_apart, .ref r_leader, .ref r_number, .int (nI v_classes), .int (nI v_stringsAt), .int (nI v_stringsEnd), .ref r_way, .ref r_seen, .int (nI v_drafted), .ref r_told, .ref r_toldAt, .int (nI v_tolds), .int (nI v_stringsSize)])), (r_draft, .inl (T 0, 16384, .inl (fun z9 => nI (f_draft z9))))] (fun r w1 => r = none ∧ w1 = [(mo, .inr (8, [.int (nI v_thrown), .ref r_tape, .int (nI v_taped), .ref r_output, .ref r_draft, .int (nI v_written), .int (nI v_error), .int (nI v_stands), .int (nI v_many), .ref r_letters, .ref r_name, .ref r_kind, .ref r_vary, .ref r_flag, .ref r_rest, .ref r_more, .ref r_one, .ref r_two, .ref r_begin, .ref r_partName, .ref r_partType, .ref r_partNumber, .int (nI v_nextMany), .int (nI v_nextParts), .ref r_nextName, .ref r_nextKind, .ref r_nextVary, .ref r_nextFlag, .ref r_nextRest, .ref r_nextMore, .ref r_nextOne, .ref r_nextTwo, .ref r_nextBegin, .ref r_nextPartName, .ref r_nextPartType, .ref r_nextPartNumber, .ref r_apart, .ref r_leader, .ref r_number, .int (nI v_classes), .int (nI v_stringsAt), .int (nI v_stringsEnd), .ref r_way, .ref r_seen, .int (nI (v_drafted + n)), .ref r_told, .ref r_toldAt, .int (nI v_tolds), .int (nI v_stringsSize)])), (r_draft, .inl (T 0, 16384, .inl (fun z9 => nI ((putD f_draft v_drafted (vb x) n) z9))))]) := by
  refine Con.of (by decide) (Nat.le_of_ble_eq_true rfl) ?_
  intro E hE
  refine g_lv (lv' := [(0, .ref mo), (1, .long x), (3, .int (nI n))]) [0, 1, 2] rfl ?_
  refine g_iconst (pc' := 1) hE (nI 0) (by decide) dX9_put_0 rfl ?_
  refine g_istore (pc' := 3) hE [(4, .int (nI 0)), (0, .ref mo), (1, .long x), (3, .int (nI n))] dX9_put_1 rfl (by decide) rfl ?_
  refine (show ∀ (d3 : Nat) (q : Nat), n - q = d3 → (q ≤ n) → G l E D 5 0 0 [(mo, .inr (8, [.int (nI v_thrown), .ref r_tape, .int (nI v_taped), .ref r_output, .ref r_draft, .int (nI v_written), .int (nI v_error), .int (nI v_stands), .int (nI v_many), .ref r_letters, .ref r_name, .ref r_kind, .ref r_vary, .ref r_flag, .ref r_rest, .ref r_more, .ref r_one, .ref r_two, .ref r_begin, .ref r_partName, .ref r_partType, .ref r_partNumber, .int (nI v_nextMany), .int (nI v_nextParts), .ref r_nextName, .ref r_nextKind, .ref r_nextVary, .ref r_nextFlag, .ref r_nextRest, .ref r_nextMore, .ref r_nextOne, .ref r_nextTwo, .ref r_nextBegin, .ref r_nextPartName, .ref r_nextPartType, .ref r_nextPartNumber, .ref r_apart, .ref r_leader, .ref r_number, .int (nI v_classes), .int (nI v_stringsAt), .int (nI v_stringsEnd), .ref r_way, .ref r_seen, .int (nI (v_drafted + q)), .ref r_told, .ref r_toldAt, .int (nI v_tolds), .int (nI v_stringsSize)])), (r_draft, .inl (T 0, 16384, .inl (fun z9 => nI ((putD f_draft v_drafted (vb x) q) z9))))] [(4, .int (nI q)), (0, .ref mo), (1, .long x), (3, .int (nI n))] 3 [] from ?_) _ 0 rfl (by omega)
  intro d3
  induction d3 using Nat.strongRecOn with
  | _ d3 ih3 =>
  intro q hd3 hq
  refine g_iload (pc' := 5) hE 0 rfl dX9_put_3 rfl ?_
  refine g_iload_n (pc' := 6) hE 3 rfl rfl dX9_put_5 rfl ?_
  refine g_icmpN_ge (pc' := 9) (tgt := 56) hE (by omega) (by omega) dX9_put_6 rfl rfl (fun hc6 => ?_) (fun hc6 => ?_)
  · exact hE.vret (⟨rfl, by rw [show q = n by omega]⟩) (Nat.zero_le _) (Nat.zero_le _) dX9_put_56
  · refine g_aload_n (pc' := 10) hE 1 rfl rfl dX9_put_9 rfl ?_
    refine g_get (pc' := 13) hE gcX9 0 rfl 44 (by decide) rfl kX9_260 dX9_put_10 rfl ?_
    refine g_sipush (pc' := 16) hE (nI 16384) (by decide) dX9_put_13 rfl ?_
    refine g_icmpN_ge (pc' := 19) (tgt := 40) hE (by omega) (by omega) dX9_put_16 rfl rfl (fun hc16 => ?_) (fun hc16 => ?_)
    · refine g_w (ws' := [(mo, .inr (8, [.int (nI v_thrown), .ref r_tape, .int (nI v_taped), .ref r_output, .ref r_draft, .int (nI v_written), .int (nI v_error), .int (nI v_stands), .int (nI v_many), .ref r_letters, .ref r_name, .ref r_kind, .ref r_vary, .ref r_flag, .ref r_rest, .ref r_more, .ref r_one, .ref r_two, .ref r_begin, .ref r_partName, .ref r_partType, .ref r_partNumber, .int (nI v_nextMany), .int (nI v_nextParts), .ref r_nextName, .ref r_nextKind, .ref r_nextVary, .ref r_nextFlag, .ref r_nextRest, .ref r_nextMore, .ref r_nextOne, .ref r_nextTwo, .ref r_nextBegin, .ref r_nextPartName, .ref r_nextPartType, .ref r_nextPartNumber, .ref r_apart, .ref r_leader, .ref r_number, .int (nI v_classes), .int (nI v_stringsAt), .int (nI v_stringsEnd), .ref r_way, .ref r_seen, .int (nI (v_drafted + q)), .ref r_told, .ref r_toldAt, .int (nI v_tolds), .int (nI v_stringsSize)])), (r_draft, .inl (T 0, 16384, .inl (fun z9 => nI ((putD f_draft v_drafted (vb x) (q + 1)) z9))))]) (by rw [show putD f_draft v_drafted (vb x) (q + 1) = putD f_draft v_drafted (vb x) q from if_neg (by omega)]) ?_
      refine g_aload_n (pc' := 41) hE 1 rfl rfl dX9_put_40 rfl ?_
      refine g_dup (pc' := 42) hE rfl dX9_put_41 rfl ?_
      refine g_get (pc' := 45) hE gcX9 0 rfl 44 (by decide) rfl kX9_260 dX9_put_42 rfl ?_
      refine g_iconst (pc' := 46) hE (nI 1) (by decide) dX9_put_45 rfl ?_
      refine g_iadd (pc' := 47) hE dX9_put_46 rfl ?_
      refine g_eqi (show _ = nI (v_drafted + q + 1) from nI_add _ _) ?_
      refine g_put (pc' := 50) hE gcX9 0 rfl 44 [(mo, .inr (8, [.int (nI v_thrown), .ref r_tape, .int (nI v_taped), .ref r_output, .ref r_draft, .int (nI v_written), .int (nI v_error), .int (nI v_stands), .int (nI v_many), .ref r_letters, .ref r_name, .ref r_kind, .ref r_vary, .ref r_flag, .ref r_rest, .ref r_more, .ref r_one, .ref r_two, .ref r_begin, .ref r_partName, .ref r_partType, .ref r_partNumber, .int (nI v_nextMany), .int (nI v_nextParts), .ref r_nextName, .ref r_nextKind, .ref r_nextVary, .ref r_nextFlag, .ref r_nextRest, .ref r_nextMore, .ref r_nextOne, .ref r_nextTwo, .ref r_nextBegin, .ref r_nextPartName, .ref r_nextPartType, .ref r_nextPartNumber, .ref r_apart, .ref r_leader, .ref r_number, .int (nI v_classes), .int (nI v_stringsAt), .int (nI v_stringsEnd), .ref r_way, .ref r_seen, .int (nI (v_drafted + q + 1)), .ref r_told, .ref r_toldAt, .int (nI v_tolds), .int (nI v_stringsSize)])), (r_draft, .inl (T 0, 16384, .inl (fun z9 => nI ((putD f_draft v_drafted (vb x) (q + 1)) z9))))] (by decide) (Nat.le_of_ble_eq_true rfl) rfl rfl rfl rfl kX9_260 dX9_put_47 rfl ?_
      refine g_iinc (pc' := 53) hE (nI (q + 1)) [(4, .int (nI (q + 1))), (0, .ref mo), (1, .long x), (3, .int (nI n))] 0 rfl dX9_put_50 rfl (g_incN _ 1) (by decide) rfl ?_
      refine g_goto (tgt := 3) hE dX9_put_53 rfl ?_
      exact ih3 _ (by omega) (q + 1) rfl (by omega)
    · refine g_aload_n (pc' := 20) hE 1 rfl rfl dX9_put_19 rfl ?_
      refine g_get (pc' := 23) hE gcX9 0 rfl 4 (by decide) rfl kX9_16 dX9_put_20 rfl ?_
      refine g_aload_n (pc' := 24) hE 1 rfl rfl dX9_put_23 rfl ?_
      refine g_get (pc' := 27) hE gcX9 0 rfl 44 (by decide) rfl kX9_260 dX9_put_24 rfl ?_
      refine g_lload_n (pc' := 28) hE 2 rfl rfl dX9_put_27 rfl ?_
      refine g_bipush (pc' := 30) hE (nI 8) (by decide) dX9_put_28 rfl ?_
      refine g_iload (pc' := 32) hE 0 rfl dX9_put_30 rfl ?_
      refine g_imul (pc' := 33) hE dX9_put_32 rfl ?_
      refine g_eqi (show _ = nI (8 * q) from pk_mul _ _) ?_
      refine g_lshr (pc' := 34) hE (x >>> ((nI (8 * q)).toInt64 &&& 63)) rfl dX9_put_33 rfl ?_
      refine g_ldc2 (pc' := 37) hE (v := lN 255) kX9_237 dX9_put_34 rfl ?_
      refine g_land (pc' := 38) hE dX9_put_37 rfl ?_
      refine g_eql (show _ = lN (vb x q) from wb_shrA x (by omega)) ?_
      refine g_l2i (pc' := 39) hE (nI (vb x q)) (lN_i _) dX9_put_38 rfl ?_
      refine g_iast (pc' := 40) hE 1 [(mo, .inr (8, [.int (nI v_thrown), .ref r_tape, .int (nI v_taped), .ref r_output, .ref r_draft, .int (nI v_written), .int (nI v_error), .int (nI v_stands), .int (nI v_many), .ref r_letters, .ref r_name, .ref r_kind, .ref r_vary, .ref r_flag, .ref r_rest, .ref r_more, .ref r_one, .ref r_two, .ref r_begin, .ref r_partName, .ref r_partType, .ref r_partNumber, .int (nI v_nextMany), .int (nI v_nextParts), .ref r_nextName, .ref r_nextKind, .ref r_nextVary, .ref r_nextFlag, .ref r_nextRest, .ref r_nextMore, .ref r_nextOne, .ref r_nextTwo, .ref r_nextBegin, .ref r_nextPartName, .ref r_nextPartType, .ref r_nextPartNumber, .ref r_apart, .ref r_leader, .ref r_number, .int (nI v_classes), .int (nI v_stringsAt), .int (nI v_stringsEnd), .ref r_way, .ref r_seen, .int (nI (v_drafted + q)), .ref r_told, .ref r_toldAt, .int (nI v_tolds), .int (nI v_stringsSize)])), (r_draft, .inl (T 0, 16384, .inl (fun z9 => nI ((putD f_draft v_drafted (vb x) (q + 1)) z9))))] rfl (by omega) (by omega) (by rw [show putD f_draft v_drafted (vb x) (q + 1) = gu (putD f_draft v_drafted (vb x) q) (v_drafted + q) (vb x q) from if_pos (by omega)]; exact gu_I _ _ _) rfl dX9_put_39 rfl ?_
      refine g_aload_n (pc' := 41) hE 1 rfl rfl dX9_put_40 rfl ?_
      refine g_dup (pc' := 42) hE rfl dX9_put_41 rfl ?_
      refine g_get (pc' := 45) hE gcX9 0 rfl 44 (by decide) rfl kX9_260 dX9_put_42 rfl ?_
      refine g_iconst (pc' := 46) hE (nI 1) (by decide) dX9_put_45 rfl ?_
      refine g_iadd (pc' := 47) hE dX9_put_46 rfl ?_
      refine g_eqi (show _ = nI (v_drafted + q + 1) from nI_add _ _) ?_
      refine g_put (pc' := 50) hE gcX9 0 rfl 44 [(mo, .inr (8, [.int (nI v_thrown), .ref r_tape, .int (nI v_taped), .ref r_output, .ref r_draft, .int (nI v_written), .int (nI v_error), .int (nI v_stands), .int (nI v_many), .ref r_letters, .ref r_name, .ref r_kind, .ref r_vary, .ref r_flag, .ref r_rest, .ref r_more, .ref r_one, .ref r_two, .ref r_begin, .ref r_partName, .ref r_partType, .ref r_partNumber, .int (nI v_nextMany), .int (nI v_nextParts), .ref r_nextName, .ref r_nextKind, .ref r_nextVary, .ref r_nextFlag, .ref r_nextRest, .ref r_nextMore, .ref r_nextOne, .ref r_nextTwo, .ref r_nextBegin, .ref r_nextPartName, .ref r_nextPartType, .ref r_nextPartNumber, .ref r_apart, .ref r_leader, .ref r_number, .int (nI v_classes), .int (nI v_stringsAt), .int (nI v_stringsEnd), .ref r_way, .ref r_seen, .int (nI (v_drafted + q + 1)), .ref r_told, .ref r_toldAt, .int (nI v_tolds), .int (nI v_stringsSize)])), (r_draft, .inl (T 0, 16384, .inl (fun z9 => nI ((putD f_draft v_drafted (vb x) (q + 1)) z9))))] (by decide) (Nat.le_of_ble_eq_true rfl) rfl rfl rfl rfl kX9_260 dX9_put_47 rfl ?_
      refine g_iinc (pc' := 53) hE (nI (q + 1)) [(4, .int (nI (q + 1))), (0, .ref mo), (1, .long x), (3, .int (nI n))] 0 rfl dX9_put_50 rfl (g_incN _ 1) (by decide) rfl ?_
      refine g_goto (tgt := 3) hE dX9_put_53 rfl ?_
      exact ih3 _ (by omega) (q + 1) rfl (by omega)
