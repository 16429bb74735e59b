set_option maxHeartbeats 4000000 in
set_option maxRecDepth 100000 in
theorem qX1_kind (l : Launch) (D : va_G) (T : Nat → ClassId) (i : Nat) (hi : i < 2 ^ 32) : Con l D T yX1_kind cX1_kind 2 (some .int) 0 0 0 [.long (lN i)] [] (fun v w1 => w1 = [] ∧ v = some (.int (nI (kd i)))) := by
  refine Con.of (by decide) (Nat.le_of_ble_eq_true rfl) ?_
  intro E hE
  refine g_lv (lv' := [(0, .long (lN i))]) [0] rfl ?_
  refine g_lload_n (pc' := 1) hE 0 rfl rfl dX1_kind_0 rfl ?_
  refine g_bipush (pc' := 3) hE (nI 24) (by decide) dX1_kind_1 rfl ?_
  refine g_lshr (pc' := 4) hE (lN (i / 2 ^ 24)) (lN_shr (by omega) (by omega)) dX1_kind_3 rfl ?_
  refine g_l2i (pc' := 5) hE (nI (i / 2 ^ 24)) (lN_i _) dX1_kind_4 rfl ?_
  refine g_bipush (pc' := 7) hE (nI 31) (by decide) dX1_kind_5 rfl ?_
  refine g_iand (pc' := 8) hE dX1_kind_7 rfl ?_
  refine g_eqi (show _ = nI (kd i) from pk_andN (by omega) 5 rfl) ?_
  exact hE.iret (⟨rfl, rfl⟩) (by omega) (by omega) dX1_kind_8

set_option maxHeartbeats 4000000 in
set_option maxRecDepth 100000 in
theorem qX1_tally (l : Launch) (D : va_G) (T : Nat → ClassId) (i : Nat)  : Con l D T yX1_tally cX1_tally 2 (some .int) 0 0 0 [.long (lN i)] [] (fun v w1 => w1 = [] ∧ v = some (.int (nI (tl i)))) := by
  refine Con.of (by decide) (Nat.le_of_ble_eq_true rfl) ?_
  intro E hE
  refine g_lv (lv' := [(0, .long (lN i))]) [0] rfl ?_
  refine g_lload_n (pc' := 1) hE 0 rfl rfl dX1_tally_0 rfl ?_
  refine g_l2i (pc' := 2) hE (nI i) (lN_i _) dX1_tally_1 rfl ?_
  refine g_ldc (pc' := 4) hE (v := nI 65535) kX1_9 dX1_tally_2 rfl ?_
  refine g_iand (pc' := 5) hE dX1_tally_4 rfl ?_
  refine g_eqi (show _ = nI (tl i) from by rw [pk_and (nI i) 16 rfl]; show nI ((BitVec.ofNat 32 i).toNat % 2 ^ 16) = nI (i % 65536); rw [BitVec.toNat_ofNat, Nat.mod_mod_of_dvd i (by decide : 2 ^ 16 ∣ 2 ^ 32)]) ?_
  exact hE.iret (⟨rfl, rfl⟩) (by omega) (by omega) dX1_tally_5

set_option maxHeartbeats 4000000 in
set_option maxRecDepth 100000 in
theorem qX1_flag (l : Launch) (D : va_G) (T : Nat → ClassId) (i : Nat) (hi : i < 2 ^ 32) : Con l D T yX1_flag cX1_flag 2 (some .int) 0 0 0 [.long (lN i)] [] (fun v w1 => w1 = [] ∧ v = some (.int (nI (fl i)))) := by
  refine Con.of (by decide) (Nat.le_of_ble_eq_true rfl) ?_
  intro E hE
  refine g_lv (lv' := [(0, .long (lN i))]) [0] rfl ?_
  refine g_lload_n (pc' := 1) hE 0 rfl rfl dX1_flag_0 rfl ?_
  refine g_bipush (pc' := 3) hE (nI 31) (by decide) dX1_flag_1 rfl ?_
  refine g_lshr (pc' := 4) hE (lN (i / 2 ^ 31)) (lN_shr (by omega) (by omega)) dX1_flag_3 rfl ?_
  refine g_l2i (pc' := 5) hE (nI (i / 2 ^ 31)) (lN_i _) dX1_flag_4 rfl ?_
  refine g_iconst (pc' := 6) hE (nI 1) (by decide) dX1_flag_5 rfl ?_
  refine g_iand (pc' := 7) hE dX1_flag_6 rfl ?_
  refine g_eqi (show _ = nI (fl i) from pk_andN (by omega) 1 rfl) ?_
  exact hE.iret (⟨rfl, rfl⟩) (by omega) (by omega) dX1_flag_7

set_option maxHeartbeats 4000000 in
set_option maxRecDepth 100000 in
theorem qX1_fixedWords (l : Launch) (D : va_G) (T : Nat → ClassId) (k : Nat) (hk : k < 2 ^ 31) : Con l D T yX1_fixedWords cX1_fixedWords 1 (some .int) 0 0 0 [.int (nI k)] [] (fun v w1 => w1 = [] ∧ v = some (.int (nI (fxw k)))) := by
  refine Con.of (by decide) (Nat.le_of_ble_eq_true rfl) ?_
  intro E hE
  refine g_lv (lv' := [(0, .int (nI k))]) [0] rfl ?_
  refine g_iload_n (pc' := 1) hE 0 rfl rfl dX1_fixedWords_0 rfl ?_
  have hs1_28 : (k = 1) → G l E D 1 0 0 [] [(0, .int (nI k))] 28 [] := by
    intro hsw1
    refine g_iconst (pc' := 29) hE (nI 1) (by decide) dX1_fixedWords_28 rfl ?_
    exact hE.iret (⟨rfl, by unfold fxw; repeat (first | rfl | rw [if_pos (by omega)] | rw [if_neg (by omega)])⟩) (by omega) (by omega) dX1_fixedWords_29
  have hs1_30 : (k = 3) → G l E D 1 0 0 [] [(0, .int (nI k))] 30 [] := by
    intro hsw1
    refine g_iconst (pc' := 31) hE (nI 3) (by decide) dX1_fixedWords_30 rfl ?_
    exact hE.iret (⟨rfl, by unfold fxw; repeat (first | rfl | rw [if_pos (by omega)] | rw [if_neg (by omega)])⟩) (by omega) (by omega) dX1_fixedWords_31
  have hs1_32 : (k ≠ 1 ∧ k ≠ 3) → G l E D 1 0 0 [] [(0, .int (nI k))] 32 [] := by
    intro hsw1
    refine g_iconst (pc' := 33) hE (nI 0) (by decide) dX1_fixedWords_32 rfl ?_
    exact hE.iret (⟨rfl, by unfold fxw; repeat (first | rfl | rw [if_pos (by omega)] | rw [if_neg (by omega)])⟩) (by omega) (by omega) dX1_fixedWords_33
  rcases (show k = 1 ∨ k = 3 ∨ (k ≠ 1 ∧ k ≠ 3) by omega) with hz | hz | hz
  · exact g_lookup (off := 27) (tgt := 28) hE (by omega) dX1_fixedWords_1 rfl (by rw [hz] <;> rfl) rfl (hs1_28 (by omega))
  · exact g_lookup (off := 29) (tgt := 30) hE (by omega) dX1_fixedWords_1 rfl (by rw [hz] <;> rfl) rfl (hs1_30 (by omega))
  · exact g_lookup (off := 31) (tgt := 32) hE (by omega) dX1_fixedWords_1 rfl (by simp [Op.lookupswitch.offset]; omega) rfl (hs1_32 (by omega))

set_option maxHeartbeats 4000000 in
set_option maxRecDepth 100000 in
theorem qX1_itemWords (l : Launch) (D : va_G) (T : Nat → ClassId) (k : Nat) (hk : k < 2 ^ 31) : Con l D T yX1_itemWords cX1_itemWords 1 (some .int) 0 0 0 [.int (nI k)] [] (fun v w1 => w1 = [] ∧ v = some (.int (nI (itw k)))) := by
  refine Con.of (by decide) (Nat.le_of_ble_eq_true rfl) ?_
  intro E hE
  refine g_lv (lv' := [(0, .int (nI k))]) [0] rfl ?_
  refine g_iload_n (pc' := 1) hE 0 rfl rfl dX1_itemWords_0 rfl ?_
  have hs1_56 : (k = 4 ∨ k = 5) → G l E D 1 0 0 [] [(0, .int (nI k))] 56 [] := by
    intro hsw1
    refine g_iconst (pc' := 57) hE (nI 3) (by decide) dX1_itemWords_56 rfl ?_
    exact hE.iret (⟨rfl, by unfold itw; repeat (first | rfl | rw [if_pos (by omega)] | rw [if_neg (by omega)])⟩) (by omega) (by omega) dX1_itemWords_57
  have hs1_58 : (k = 6 ∨ k = 13) → G l E D 1 0 0 [] [(0, .int (nI k))] 58 [] := by
    intro hsw1
    refine g_iconst (pc' := 59) hE (nI 2) (by decide) dX1_itemWords_58 rfl ?_
    exact hE.iret (⟨rfl, by unfold itw; repeat (first | rfl | rw [if_pos (by omega)] | rw [if_neg (by omega)])⟩) (by omega) (by omega) dX1_itemWords_59
  have hs1_60 : (k ≠ 4 ∧ k ≠ 5 ∧ k ≠ 6 ∧ k ≠ 13) → G l E D 1 0 0 [] [(0, .int (nI k))] 60 [] := by
    intro hsw1
    refine g_iconst (pc' := 61) hE (nI 0) (by decide) dX1_itemWords_60 rfl ?_
    exact hE.iret (⟨rfl, by unfold itw; repeat (first | rfl | rw [if_pos (by omega)] | rw [if_neg (by omega)])⟩) (by omega) (by omega) dX1_itemWords_61
  rcases (show k = 4 ∨ k = 5 ∨ k = 6 ∨ k = 7 ∨ k = 8 ∨ k = 9 ∨ k = 10 ∨ k = 11 ∨ k = 12 ∨ k = 13 ∨ ((k : Nat) < 4 ∨ 13 < k) by omega) with hz | hz | hz | hz | hz | hz | hz | hz | hz | hz | hz
  · exact g_tabIn (tgt := 56) hE 4 hz (by decide) (by decide) (by decide) dX1_itemWords_1 rfl rfl (hs1_56 (by omega))
  · exact g_tabIn (tgt := 56) hE 5 hz (by decide) (by decide) (by decide) dX1_itemWords_1 rfl rfl (hs1_56 (by omega))
  · exact g_tabIn (tgt := 58) hE 6 hz (by decide) (by decide) (by decide) dX1_itemWords_1 rfl rfl (hs1_58 (by omega))
  · exact g_tabIn (tgt := 60) hE 7 hz (by decide) (by decide) (by decide) dX1_itemWords_1 rfl rfl (hs1_60 (by omega))
  · exact g_tabIn (tgt := 60) hE 8 hz (by decide) (by decide) (by decide) dX1_itemWords_1 rfl rfl (hs1_60 (by omega))
  · exact g_tabIn (tgt := 60) hE 9 hz (by decide) (by decide) (by decide) dX1_itemWords_1 rfl rfl (hs1_60 (by omega))
  · exact g_tabIn (tgt := 60) hE 10 hz (by decide) (by decide) (by decide) dX1_itemWords_1 rfl rfl (hs1_60 (by omega))
  · exact g_tabIn (tgt := 60) hE 11 hz (by decide) (by decide) (by decide) dX1_itemWords_1 rfl rfl (hs1_60 (by omega))
  · exact g_tabIn (tgt := 60) hE 12 hz (by decide) (by decide) (by decide) dX1_itemWords_1 rfl rfl (hs1_60 (by omega))
  · exact g_tabIn (tgt := 58) hE 13 hz (by decide) (by decide) (by decide) dX1_itemWords_1 rfl rfl (hs1_58 (by omega))
  · exact g_tabOut (tgt := 60) hE (by omega) (by omega) dX1_itemWords_1 rfl (hs1_60 (by omega))

set_option maxHeartbeats 4000000 in
set_option maxRecDepth 100000 in
theorem qX1_words (l : Launch) (D : va_G) (T : Nat → ClassId) (i : Nat) (hi : i < 2 ^ 32) : Con l D T yX1_words cX1_words 3 (some .int) 1 0 0 [.long (lN i)] [] (fun v w1 => w1 = [] ∧ v = some (.int (nI (wds i)))) := by
  refine Con.of (by decide) (Nat.le_of_ble_eq_true rfl) ?_
  intro E hE
  refine g_lv (lv' := [(0, .long (lN i))]) [0] rfl ?_
  refine g_lload_n (pc' := 1) hE 0 rfl rfl dX1_words_0 rfl ?_
  refine g_callS (pc' := 4) (As := [.long (lN i)]) (rest := []) hE (qX1_kind l D T i hi) mX1_kind kX1_10 iX1_kind (by omega) rfl (by omega) [] rfl (by decide) rfl (Nat.le_of_ble_eq_true rfl) dX1_words_1 rfl (gBackR [] rfl ?_)
  rintro _ rfl
  refine g_st (st' := [.int (nI (kd i))]) rfl ?_
  refine g_istore_n (pc' := 5) hE [(2, .int (nI (kd i))), (0, .long (lN i))] dX1_words_4 rfl rfl (by decide) rfl ?_
  refine g_iconst (pc' := 6) hE (nI 3) (by decide) dX1_words_5 rfl ?_
  refine g_iload_n (pc' := 7) hE 0 rfl rfl dX1_words_6 rfl ?_
  refine g_callS (pc' := 10) (As := [.int (nI (kd i))]) (rest := [.int (nI 3)]) hE (qX1_fixedWords l D T (kd i) (Nat.lt_trans (kd_lt i) (by decide))) mX1_fixedWords kX1_16 iX1_fixedWords (by omega) rfl (by omega) [] rfl (by decide) rfl (Nat.le_of_ble_eq_true rfl) dX1_words_7 rfl (gBackR [] rfl ?_)
  rintro _ rfl
  refine g_st (st' := [.int (nI (fxw (kd i))), .int (nI 3)]) rfl ?_
  refine g_iadd (pc' := 11) hE dX1_words_10 rfl ?_
  refine g_eqi (show _ = nI (3 + fxw (kd i)) from nI_add _ _) ?_
  refine g_iload_n (pc' := 12) hE 0 rfl rfl dX1_words_11 rfl ?_
  refine g_callS (pc' := 15) (As := [.int (nI (kd i))]) (rest := [.int (nI (3 + fxw (kd i)))]) hE (qX1_itemWords l D T (kd i) (Nat.lt_trans (kd_lt i) (by decide))) mX1_itemWords kX1_20 iX1_itemWords (by omega) rfl (by omega) [] rfl (by decide) rfl (Nat.le_of_ble_eq_true rfl) dX1_words_12 rfl (gBackR [] rfl ?_)
  rintro _ rfl
  refine g_st (st' := [.int (nI (itw (kd i))), .int (nI (3 + fxw (kd i)))]) rfl ?_
  refine g_lload_n (pc' := 16) hE 1 rfl rfl dX1_words_15 rfl ?_
  refine g_callS (pc' := 19) (As := [.long (lN i)]) (rest := [.int (nI (itw (kd i))), .int (nI (3 + fxw (kd i)))]) hE (qX1_tally l D T i) mX1_tally kX1_23 iX1_tally (by omega) rfl (by omega) [] rfl (by decide) rfl (Nat.le_of_ble_eq_true rfl) dX1_words_16 rfl (gBackR [] rfl ?_)
  rintro _ rfl
  refine g_st (st' := [.int (nI (tl i)), .int (nI (itw (kd i))), .int (nI (3 + fxw (kd i)))]) rfl ?_
  refine g_imul (pc' := 20) hE dX1_words_19 rfl ?_
  refine g_eqi (show _ = nI ((itw (kd i)) * (tl i)) from pk_mul _ _) ?_
  refine g_iadd (pc' := 21) hE dX1_words_20 rfl ?_
  refine g_eqi (show _ = nI (3 + fxw (kd i) + (itw (kd i)) * (tl i)) from nI_add _ _) ?_
  exact hE.iret (⟨rfl, rfl⟩) (by omega) (by omega) dX1_words_21

set_option maxHeartbeats 4000000 in
set_option maxRecDepth 100000 in
theorem qX1_roleBehind (l : Launch) (D : va_G) (T : Nat → ClassId) (k w : Nat) (hk : k < 2 ^ 31) (hw : w < 2 ^ 31) : Con l D T yX1_roleBehind cX1_roleBehind 2 (some .int) 0 0 0 [.int (nI k), .int (nI w)] [] (fun v w1 => w1 = [] ∧ v = some (.int (nI (rlb k w)))) := by
  refine Con.of (by decide) (Nat.le_of_ble_eq_true rfl) ?_
  intro E hE
  refine g_lv (lv' := [(0, .int (nI k)), (1, .int (nI w))]) [0, 1] rfl ?_
  refine g_iload_n (pc' := 1) hE 0 rfl rfl dX1_roleBehind_0 rfl ?_
  have hs1_60 : (k = 3) → G l E D 2 0 0 [] [(0, .int (nI k)), (1, .int (nI w))] 60 [] := by
    intro hsw1
    refine g_iload_n (pc' := 61) hE 1 rfl rfl dX1_roleBehind_60 rfl ?_
    refine g_iconst (pc' := 62) hE (nI 2) (by decide) dX1_roleBehind_61 rfl ?_
    refine g_icmpN_ge (pc' := 65) (tgt := 69) hE (by omega) (by omega) dX1_roleBehind_62 rfl rfl (fun hc62 => ?_) (fun hc62 => ?_)
    · refine g_iconst (pc' := 70) hE (nI 0) (by decide) dX1_roleBehind_69 rfl ?_
      exact hE.iret (⟨rfl, by unfold rlb; repeat (first | rfl | rw [if_pos (by omega)] | rw [if_neg (by omega)])⟩) (by omega) (by omega) dX1_roleBehind_70
    · refine g_iconst (pc' := 66) hE (nI 2) (by decide) dX1_roleBehind_65 rfl ?_
      refine g_goto (tgt := 70) hE dX1_roleBehind_66 rfl ?_
      exact hE.iret (⟨rfl, by unfold rlb; repeat (first | rfl | rw [if_pos (by omega)] | rw [if_neg (by omega)])⟩) (by omega) (by omega) dX1_roleBehind_70
  have hs1_71 : (k = 4 ∨ k = 5) → G l E D 2 0 0 [] [(0, .int (nI k)), (1, .int (nI w))] 71 [] := by
    intro hsw1
    refine g_iload_n (pc' := 72) hE 1 rfl rfl dX1_roleBehind_71 rfl ?_
    refine g_iconst (pc' := 73) hE (nI 3) (by decide) dX1_roleBehind_72 rfl ?_
    refine g_irem (pc' := 74) hE (by decide) dX1_roleBehind_73 rfl ?_
    refine g_eqi (show _ = nI (w % 3) from pk_rem (by omega) (by decide) (by decide)) ?_
    refine g_ifN_ne (pc' := 77) (tgt := 81) hE (by omega) dX1_roleBehind_74 rfl rfl (fun hc74 => ?_) (fun hc74 => ?_)
    · refine g_iload_n (pc' := 82) hE 1 rfl rfl dX1_roleBehind_81 rfl ?_
      refine g_iconst (pc' := 83) hE (nI 3) (by decide) dX1_roleBehind_82 rfl ?_
      refine g_irem (pc' := 84) hE (by decide) dX1_roleBehind_83 rfl ?_
      refine g_eqi (show _ = nI (w % 3) from pk_rem (by omega) (by decide) (by decide)) ?_
      refine g_iconst (pc' := 85) hE (nI 1) (by decide) dX1_roleBehind_84 rfl ?_
      refine g_icmpN_ne (pc' := 88) (tgt := 92) hE (by omega) (by omega) dX1_roleBehind_85 rfl rfl (fun hc85 => ?_) (fun hc85 => ?_)
      · refine g_iconst (pc' := 93) hE (nI 0) (by decide) dX1_roleBehind_92 rfl ?_
        exact hE.iret (⟨rfl, by unfold rlb; repeat (first | rfl | rw [if_pos (by omega)] | rw [if_neg (by omega)])⟩) (by omega) (by omega) dX1_roleBehind_93
      · refine g_iconst (pc' := 89) hE (nI 2) (by decide) dX1_roleBehind_88 rfl ?_
        refine g_goto (tgt := 93) hE dX1_roleBehind_89 rfl ?_
        exact hE.iret (⟨rfl, by unfold rlb; repeat (first | rfl | rw [if_pos (by omega)] | rw [if_neg (by omega)])⟩) (by omega) (by omega) dX1_roleBehind_93
    · refine g_iconst (pc' := 78) hE (nI 1) (by decide) dX1_roleBehind_77 rfl ?_
      refine g_goto (tgt := 93) hE dX1_roleBehind_78 rfl ?_
      exact hE.iret (⟨rfl, by unfold rlb; repeat (first | rfl | rw [if_pos (by omega)] | rw [if_neg (by omega)])⟩) (by omega) (by omega) dX1_roleBehind_93
  have hs1_94 : (k = 6) → G l E D 2 0 0 [] [(0, .int (nI k)), (1, .int (nI w))] 94 [] := by
    intro hsw1
    refine g_iload_n (pc' := 95) hE 1 rfl rfl dX1_roleBehind_94 rfl ?_
    refine g_iconst (pc' := 96) hE (nI 2) (by decide) dX1_roleBehind_95 rfl ?_
    refine g_irem (pc' := 97) hE (by decide) dX1_roleBehind_96 rfl ?_
    refine g_eqi (show _ = nI (w % 2) from pk_rem (by omega) (by decide) (by decide)) ?_
    refine g_ifN_ne (pc' := 100) (tgt := 104) hE (by omega) dX1_roleBehind_97 rfl rfl (fun hc97 => ?_) (fun hc97 => ?_)
    · refine g_iconst (pc' := 105) hE (nI 0) (by decide) dX1_roleBehind_104 rfl ?_
      exact hE.iret (⟨rfl, by unfold rlb; repeat (first | rfl | rw [if_pos (by omega)] | rw [if_neg (by omega)])⟩) (by omega) (by omega) dX1_roleBehind_105
    · refine g_iconst (pc' := 101) hE (nI 1) (by decide) dX1_roleBehind_100 rfl ?_
      refine g_goto (tgt := 105) hE dX1_roleBehind_101 rfl ?_
      exact hE.iret (⟨rfl, by unfold rlb; repeat (first | rfl | rw [if_pos (by omega)] | rw [if_neg (by omega)])⟩) (by omega) (by omega) dX1_roleBehind_105
  have hs1_118 : (k ≠ 3 ∧ k ≠ 4 ∧ k ≠ 5 ∧ k ≠ 6 ∧ k ≠ 13) → G l E D 2 0 0 [] [(0, .int (nI k)), (1, .int (nI w))] 118 [] := by
    intro hsw1
    refine g_iconst (pc' := 119) hE (nI 0) (by decide) dX1_roleBehind_118 rfl ?_
    exact hE.iret (⟨rfl, by unfold rlb; repeat (first | rfl | rw [if_pos (by omega)] | rw [if_neg (by omega)])⟩) (by omega) (by omega) dX1_roleBehind_119
  have hs1_106 : (k = 13) → G l E D 2 0 0 [] [(0, .int (nI k)), (1, .int (nI w))] 106 [] := by
    intro hsw1
    refine g_iload_n (pc' := 107) hE 1 rfl rfl dX1_roleBehind_106 rfl ?_
    refine g_iconst (pc' := 108) hE (nI 2) (by decide) dX1_roleBehind_107 rfl ?_
    refine g_irem (pc' := 109) hE (by decide) dX1_roleBehind_108 rfl ?_
    refine g_eqi (show _ = nI (w % 2) from pk_rem (by omega) (by decide) (by decide)) ?_
    refine g_ifN_ne (pc' := 112) (tgt := 116) hE (by omega) dX1_roleBehind_109 rfl rfl (fun hc109 => ?_) (fun hc109 => ?_)
    · refine g_iconst (pc' := 117) hE (nI 2) (by decide) dX1_roleBehind_116 rfl ?_
      exact hE.iret (⟨rfl, by unfold rlb; repeat (first | rfl | rw [if_pos (by omega)] | rw [if_neg (by omega)])⟩) (by omega) (by omega) dX1_roleBehind_117
    · refine g_iconst (pc' := 113) hE (nI 1) (by decide) dX1_roleBehind_112 rfl ?_
      refine g_goto (tgt := 117) hE dX1_roleBehind_113 rfl ?_
      exact hE.iret (⟨rfl, by unfold rlb; repeat (first | rfl | rw [if_pos (by omega)] | rw [if_neg (by omega)])⟩) (by omega) (by omega) dX1_roleBehind_117
  rcases (show k = 3 ∨ k = 4 ∨ k = 5 ∨ k = 6 ∨ k = 7 ∨ k = 8 ∨ k = 9 ∨ k = 10 ∨ k = 11 ∨ k = 12 ∨ k = 13 ∨ ((k : Nat) < 3 ∨ 13 < k) by omega) with hz | hz | hz | hz | hz | hz | hz | hz | hz | hz | hz | hz
  · exact g_tabIn (tgt := 60) hE 3 hz (by decide) (by decide) (by decide) dX1_roleBehind_1 rfl rfl (hs1_60 (by omega))
  · exact g_tabIn (tgt := 71) hE 4 hz (by decide) (by decide) (by decide) dX1_roleBehind_1 rfl rfl (hs1_71 (by omega))
  · exact g_tabIn (tgt := 71) hE 5 hz (by decide) (by decide) (by decide) dX1_roleBehind_1 rfl rfl (hs1_71 (by omega))
  · exact g_tabIn (tgt := 94) hE 6 hz (by decide) (by decide) (by decide) dX1_roleBehind_1 rfl rfl (hs1_94 (by omega))
  · exact g_tabIn (tgt := 118) hE 7 hz (by decide) (by decide) (by decide) dX1_roleBehind_1 rfl rfl (hs1_118 (by omega))
  · exact g_tabIn (tgt := 118) hE 8 hz (by decide) (by decide) (by decide) dX1_roleBehind_1 rfl rfl (hs1_118 (by omega))
  · exact g_tabIn (tgt := 118) hE 9 hz (by decide) (by decide) (by decide) dX1_roleBehind_1 rfl rfl (hs1_118 (by omega))
  · exact g_tabIn (tgt := 118) hE 10 hz (by decide) (by decide) (by decide) dX1_roleBehind_1 rfl rfl (hs1_118 (by omega))
  · exact g_tabIn (tgt := 118) hE 11 hz (by decide) (by decide) (by decide) dX1_roleBehind_1 rfl rfl (hs1_118 (by omega))
  · exact g_tabIn (tgt := 118) hE 12 hz (by decide) (by decide) (by decide) dX1_roleBehind_1 rfl rfl (hs1_118 (by omega))
  · exact g_tabIn (tgt := 106) hE 13 hz (by decide) (by decide) (by decide) dX1_roleBehind_1 rfl rfl (hs1_106 (by omega))
  · exact g_tabOut (tgt := 118) hE (by omega) (by omega) dX1_roleBehind_1 rfl (hs1_118 (by omega))

set_option maxHeartbeats 4000000 in
set_option maxRecDepth 100000 in
theorem qX1_role (l : Launch) (D : va_G) (T : Nat → ClassId) (k w : Nat) (hk : k < 2 ^ 31) (hw : w < 2 ^ 31) : Con l D T yX1_role cX1_role 2 (some .int) 1 0 0 [.int (nI k), .int (nI w)] [] (fun v w1 => w1 = [] ∧ v = some (.int (nI (rl k w)))) := by
  refine Con.of (by decide) (Nat.le_of_ble_eq_true rfl) ?_
  intro E hE
  refine g_lv (lv' := [(0, .int (nI k)), (1, .int (nI w))]) [0, 1] rfl ?_
  refine g_iload_n (pc' := 1) hE 1 rfl rfl dX1_role_0 rfl ?_
  have hs1_28 : (w = 0) → G l E D 2 0 0 [] [(0, .int (nI k)), (1, .int (nI w))] 28 [] := by
    intro hsw1
    refine g_iconst (pc' := 29) hE (nI 1) (by decide) dX1_role_28 rfl ?_
    exact hE.iret (⟨rfl, by unfold rl; repeat (first | rfl | rw [if_pos (by omega)] | rw [if_neg (by omega)])⟩) (by omega) (by omega) dX1_role_29
  have hs1_30 : (w = 1) → G l E D 2 0 0 [] [(0, .int (nI k)), (1, .int (nI w))] 30 [] := by
    intro hsw1
    refine g_iconst (pc' := 31) hE (nI 0) (by decide) dX1_role_30 rfl ?_
    exact hE.iret (⟨rfl, by unfold rl; repeat (first | rfl | rw [if_pos (by omega)] | rw [if_neg (by omega)])⟩) (by omega) (by omega) dX1_role_31
  have hs1_32 : (w = 2) → G l E D 2 0 0 [] [(0, .int (nI k)), (1, .int (nI w))] 32 [] := by
    intro hsw1
    refine g_iload_n (pc' := 33) hE 0 rfl rfl dX1_role_32 rfl ?_
    refine g_iconst (pc' := 34) hE (nI 2) (by decide) dX1_role_33 rfl ?_
    refine g_icmpN_eq (pc' := 37) (tgt := 43) hE (by omega) (by omega) dX1_role_34 rfl rfl (fun hc34 => ?_) (fun hc34 => ?_)
    · refine g_iconst (pc' := 44) hE (nI 2) (by decide) dX1_role_43 rfl ?_
      refine g_goto (tgt := 48) hE dX1_role_44 rfl ?_
      exact hE.iret (⟨rfl, by unfold rl; repeat (first | rfl | rw [if_pos (by omega)] | rw [if_neg (by omega)])⟩) (by omega) (by omega) dX1_role_48
    · refine g_iload_n (pc' := 38) hE 0 rfl rfl dX1_role_37 rfl ?_
      refine g_bipush (pc' := 40) hE (nI 8) (by decide) dX1_role_38 rfl ?_
      refine g_icmpN_lt (pc' := 43) (tgt := 47) hE (by omega) (by omega) dX1_role_40 rfl rfl (fun hc40 => ?_) (fun hc40 => ?_)
      · refine g_iconst (pc' := 48) hE (nI 0) (by decide) dX1_role_47 rfl ?_
        exact hE.iret (⟨rfl, by unfold rl; repeat (first | rfl | rw [if_pos (by omega)] | rw [if_neg (by omega)])⟩) (by omega) (by omega) dX1_role_48
      · refine g_iconst (pc' := 44) hE (nI 2) (by decide) dX1_role_43 rfl ?_
        refine g_goto (tgt := 48) hE dX1_role_44 rfl ?_
        exact hE.iret (⟨rfl, by unfold rl; repeat (first | rfl | rw [if_pos (by omega)] | rw [if_neg (by omega)])⟩) (by omega) (by omega) dX1_role_48
  have hs1_49 : (w ≠ 0 ∧ w ≠ 1 ∧ w ≠ 2) → G l E D 2 0 0 [] [(0, .int (nI k)), (1, .int (nI w))] 49 [] := by
    intro hsw1
    refine g_iload_n (pc' := 50) hE 0 rfl rfl dX1_role_49 rfl ?_
    refine g_iload_n (pc' := 51) hE 1 rfl rfl dX1_role_50 rfl ?_
    refine g_iconst (pc' := 52) hE (nI 3) (by decide) dX1_role_51 rfl ?_
    refine g_isub (pc' := 53) hE dX1_role_52 rfl ?_
    refine g_eqi (show _ = nI (w - 3) from pk_sub (by omega)) ?_
    refine g_callS (pc' := 56) (As := [.int (nI k), .int (nI (w - 3))]) (rest := []) hE (qX1_roleBehind l D T k (w - 3) hk (by omega)) mX1_roleBehind kX1_26 iX1_roleBehind (by omega) rfl (by omega) [] rfl (by decide) rfl (Nat.le_of_ble_eq_true rfl) dX1_role_53 rfl (gBackR [] rfl ?_)
    rintro _ rfl
    refine g_st (st' := [.int (nI (rlb k (w - 3)))]) rfl ?_
    exact hE.iret (⟨rfl, by unfold rl; repeat (first | rfl | rw [if_pos (by omega)] | rw [if_neg (by omega)])⟩) (by omega) (by omega) dX1_role_56
  rcases (show w = 0 ∨ w = 1 ∨ w = 2 ∨ ((w : Nat) < 0 ∨ 2 < w) by omega) with hz | hz | hz | hz
  · exact g_tabIn (tgt := 28) hE 0 hz (by decide) (by decide) (by decide) dX1_role_1 rfl rfl (hs1_28 (by omega))
  · exact g_tabIn (tgt := 30) hE 1 hz (by decide) (by decide) (by decide) dX1_role_1 rfl rfl (hs1_30 (by omega))
  · exact g_tabIn (tgt := 32) hE 2 hz (by decide) (by decide) (by decide) dX1_role_1 rfl rfl (hs1_32 (by omega))
  · exact g_tabOut (tgt := 49) hE (by omega) (by omega) dX1_role_1 rfl (hs1_49 (by omega))
