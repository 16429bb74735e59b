set_option maxHeartbeats 4000000 in
set_option maxRecDepth 100000 in
theorem qX4_isSmallSize (l : Launch) (D : va_G) (T : Nat → ClassId) (r : Nat) (hr : r < 2 ^ 32) : Con l D T yX4_isSmallSize cX4_isSmallSize 2 (some .boolean) 0 0 0 [.long (lN r)] [] (fun v w1 => w1 = [] ∧ v = some (.int (bI (smallZ r)))) := by
  refine Con.of (by decide) (Nat.le_of_ble_eq_true rfl) ?_
  intro E hE
  refine g_lv (lv' := [(0, .long (lN r))]) [0] rfl ?_
  refine g_lload_n (pc' := 1) hE 0 rfl rfl dX4_isSmallSize_0 rfl ?_
  refine g_lconst (pc' := 2) hE (lN 1) (by decide) dX4_isSmallSize_1 rfl ?_
  refine g_lcmp (pc' := 3) hE dX4_isSmallSize_2 rfl ?_
  refine g_ifcN_eq (pc' := 6) (tgt := 30) hE (by omega) (by omega) dX4_isSmallSize_3 rfl rfl (fun hc3 => ?_) (fun hc3 => ?_)
  · refine g_iconst (pc' := 31) hE (nI 1) (by decide) dX4_isSmallSize_30 rfl ?_
    refine g_goto (tgt := 35) hE dX4_isSmallSize_31 rfl ?_
    exact hE.zret (by first | rfl | exact bI_nar _ | decide) (⟨rfl, by unfold smallZ; first | rw [decide_eq_true (by omega)]; rfl | rw [decide_eq_false (by omega)]; rfl⟩) (by omega) (by omega) dX4_isSmallSize_35
  · refine g_lload_n (pc' := 7) hE 0 rfl rfl dX4_isSmallSize_6 rfl ?_
    refine g_ldc2 (pc' := 10) hE (v := lN 2) kX4_105 dX4_isSmallSize_7 rfl ?_
    refine g_lcmp (pc' := 11) hE dX4_isSmallSize_10 rfl ?_
    refine g_ifcN_eq (pc' := 14) (tgt := 30) hE (by omega) (by omega) dX4_isSmallSize_11 rfl rfl (fun hc11 => ?_) (fun hc11 => ?_)
    · refine g_iconst (pc' := 31) hE (nI 1) (by decide) dX4_isSmallSize_30 rfl ?_
      refine g_goto (tgt := 35) hE dX4_isSmallSize_31 rfl ?_
      exact hE.zret (by first | rfl | exact bI_nar _ | decide) (⟨rfl, by unfold smallZ; first | rw [decide_eq_true (by omega)]; rfl | rw [decide_eq_false (by omega)]; rfl⟩) (by omega) (by omega) dX4_isSmallSize_35
    · refine g_lload_n (pc' := 15) hE 0 rfl rfl dX4_isSmallSize_14 rfl ?_
      refine g_ldc2 (pc' := 18) hE (v := lN 4) kX4_107 dX4_isSmallSize_15 rfl ?_
      refine g_lcmp (pc' := 19) hE dX4_isSmallSize_18 rfl ?_
      refine g_ifcN_eq (pc' := 22) (tgt := 30) hE (by omega) (by omega) dX4_isSmallSize_19 rfl rfl (fun hc19 => ?_) (fun hc19 => ?_)
      · refine g_iconst (pc' := 31) hE (nI 1) (by decide) dX4_isSmallSize_30 rfl ?_
        refine g_goto (tgt := 35) hE dX4_isSmallSize_31 rfl ?_
        exact hE.zret (by first | rfl | exact bI_nar _ | decide) (⟨rfl, by unfold smallZ; first | rw [decide_eq_true (by omega)]; rfl | rw [decide_eq_false (by omega)]; rfl⟩) (by omega) (by omega) dX4_isSmallSize_35
      · refine g_lload_n (pc' := 23) hE 0 rfl rfl dX4_isSmallSize_22 rfl ?_
        refine g_ldc2 (pc' := 26) hE (v := lN 8) kX4_109 dX4_isSmallSize_23 rfl ?_
        refine g_lcmp (pc' := 27) hE dX4_isSmallSize_26 rfl ?_
        refine g_ifcN_ne (pc' := 30) (tgt := 34) hE (by omega) (by omega) dX4_isSmallSize_27 rfl rfl (fun hc27 => ?_) (fun hc27 => ?_)
        · refine g_iconst (pc' := 35) hE (nI 0) (by decide) dX4_isSmallSize_34 rfl ?_
          exact hE.zret (by first | rfl | exact bI_nar _ | decide) (⟨rfl, by unfold smallZ; first | rw [decide_eq_true (by omega)]; rfl | rw [decide_eq_false (by omega)]; rfl⟩) (by omega) (by omega) dX4_isSmallSize_35
        · refine g_iconst (pc' := 31) hE (nI 1) (by decide) dX4_isSmallSize_30 rfl ?_
          refine g_goto (tgt := 35) hE dX4_isSmallSize_31 rfl ?_
          exact hE.zret (by first | rfl | exact bI_nar _ | decide) (⟨rfl, by unfold smallZ; first | rw [decide_eq_true (by omega)]; rfl | rw [decide_eq_false (by omega)]; rfl⟩) (by omega) (by omega) dX4_isSmallSize_35

set_option maxHeartbeats 4000000 in
set_option maxRecDepth 100000 in
theorem qX4_intHolds (l : Launch) (D : va_G) (T : Nat → ClassId) (w r : Nat) (hw : w < 2 ^ 32) (hr : r < 2 ^ 32) : Con l D T yX4_intHolds cX4_intHolds 8 (some .boolean) 0 0 0 [.long (lN w), .long (lN r)] [] (fun v w1 => w1 = [] ∧ v = some (.int (bI (intOK w r)))) := by
  refine Con.of (by decide) (Nat.le_of_ble_eq_true rfl) ?_
  intro E hE
  refine g_lv (lv' := [(0, .long (lN w)), (2, .long (lN r))]) [0, 1] rfl ?_
  refine g_lload_n (pc' := 1) hE 0 rfl rfl dX4_intHolds_0 rfl ?_
  refine g_ldc2 (pc' := 4) hE (v := lN 255) kX4_111 dX4_intHolds_1 rfl ?_
  refine g_land (pc' := 5) hE dX4_intHolds_4 rfl ?_
  refine g_eql (show _ = lN (w % 256) from wb_mask (k := 8) (by omega) (by decide)) ?_
  refine g_lstore (pc' := 7) hE [(4, .long (lN (w % 256))), (0, .long (lN w)), (2, .long (lN r))] dX4_intHolds_5 rfl (by decide) rfl ?_
  refine g_lload_n (pc' := 8) hE 1 rfl rfl dX4_intHolds_7 rfl ?_
  refine g_bipush (pc' := 10) hE (nI 16) (by decide) dX4_intHolds_8 rfl ?_
  refine g_lshr (pc' := 11) hE (lN (w / 2 ^ 16)) (lN_shr (by omega) (by omega)) dX4_intHolds_10 rfl ?_
  refine g_ldc2 (pc' := 14) hE (v := lN 255) kX4_111 dX4_intHolds_11 rfl ?_
  refine g_land (pc' := 15) hE dX4_intHolds_14 rfl ?_
  refine g_eql (show _ = lN (w / 2 ^ 16 % 256) from wb_mask (k := 8) (by omega) (by decide)) ?_
  refine g_lstore (pc' := 17) hE [(6, .long (lN (w / 2 ^ 16 % 256))), (4, .long (lN (w % 256))), (0, .long (lN w)), (2, .long (lN r))] dX4_intHolds_15 rfl (by decide) rfl ?_
  refine g_lload_n (pc' := 18) hE 2 rfl rfl dX4_intHolds_17 rfl ?_
  refine g_ldc2 (pc' := 21) hE (v := lN 4026597120) kX4_113 dX4_intHolds_18 rfl ?_
  refine g_land (pc' := 22) hE dX4_intHolds_21 rfl ?_
  refine g_eql (show _ = lN (w &&& 4026597120) from wb_and (by omega) (by decide)) ?_
  refine g_lconst (pc' := 23) hE (lN 0) (by decide) dX4_intHolds_22 rfl ?_
  refine g_lcmp (pc' := 24) hE dX4_intHolds_23 rfl ?_
  refine g_ifcN_ne (pc' := 27) (tgt := 52) hE (Nat.lt_of_le_of_lt Nat.and_le_left (by omega)) (by omega) dX4_intHolds_24 rfl rfl (fun hc24 => ?_) (fun hc24 => ?_)
  · refine g_iconst (pc' := 53) hE (nI 0) (by decide) dX4_intHolds_52 rfl ?_
    exact hE.zret (by first | rfl | exact bI_nar _ | decide) (⟨rfl, by unfold intOK; first | rw [decide_eq_true (by omega)]; rfl | rw [decide_eq_false (by omega)]; rfl⟩) (by omega) (by omega) dX4_intHolds_53
  · refine g_lload (pc' := 29) hE 1 rfl dX4_intHolds_27 rfl ?_
    refine g_lconst (pc' := 30) hE (lN 1) (by decide) dX4_intHolds_29 rfl ?_
    refine g_lcmp (pc' := 31) hE dX4_intHolds_30 rfl ?_
    refine g_ifcN_lt (pc' := 34) (tgt := 52) hE (by omega) (by omega) dX4_intHolds_31 rfl rfl (fun hc31 => ?_) (fun hc31 => ?_)
    · refine g_iconst (pc' := 53) hE (nI 0) (by decide) dX4_intHolds_52 rfl ?_
      exact hE.zret (by first | rfl | exact bI_nar _ | decide) (⟨rfl, by unfold intOK; first | rw [decide_eq_true (by omega)]; rfl | rw [decide_eq_false (by omega)]; rfl⟩) (by omega) (by omega) dX4_intHolds_53
    · refine g_lload (pc' := 36) hE 1 rfl dX4_intHolds_34 rfl ?_
      refine g_lload (pc' := 38) hE 0 rfl dX4_intHolds_36 rfl ?_
      refine g_ladd (pc' := 39) hE dX4_intHolds_38 rfl ?_
      refine g_eql (show _ = lN (w % 256 + w / 2 ^ 16 % 256) from lN_add _ _) ?_
      refine g_ldc2 (pc' := 42) hE (v := lN 8) kX4_109 dX4_intHolds_39 rfl ?_
      refine g_lload_n (pc' := 43) hE 3 rfl rfl dX4_intHolds_42 rfl ?_
      refine g_lmul (pc' := 44) hE dX4_intHolds_43 rfl ?_
      refine g_eql (show _ = lN (8 * r) from lN_mul _ _) ?_
      refine g_lcmp (pc' := 45) hE dX4_intHolds_44 rfl ?_
      refine g_ifcN_gt (pc' := 48) (tgt := 52) hE (by omega) (by omega) dX4_intHolds_45 rfl rfl (fun hc45 => ?_) (fun hc45 => ?_)
      · refine g_iconst (pc' := 53) hE (nI 0) (by decide) dX4_intHolds_52 rfl ?_
        exact hE.zret (by first | rfl | exact bI_nar _ | decide) (⟨rfl, by unfold intOK; first | rw [decide_eq_true (by omega)]; rfl | rw [decide_eq_false (by omega)]; rfl⟩) (by omega) (by omega) dX4_intHolds_53
      · refine g_iconst (pc' := 49) hE (nI 1) (by decide) dX4_intHolds_48 rfl ?_
        refine g_goto (tgt := 53) hE dX4_intHolds_49 rfl ?_
        exact hE.zret (by first | rfl | exact bI_nar _ | decide) (⟨rfl, by unfold intOK; first | rw [decide_eq_true (by omega)]; rfl | rw [decide_eq_false (by omega)]; rfl⟩) (by omega) (by omega) dX4_intHolds_53

set_option maxHeartbeats 4000000 in
set_option maxRecDepth 100000 in
theorem qX4_restHolds (l : Launch) (D : va_G) (T : Nat → ClassId) (k r w : Nat) (hk : k < 2 ^ 31) (hr : r < 2 ^ 32) (hw : w < 2 ^ 32) : Con l D T yX4_restHolds cX4_restHolds 5 (some .boolean) 1 0 0 [.int (nI k), .long (lN r), .long (lN w)] [] (fun v w1 => w1 = [] ∧ v = some (.int (bI (restOK k r w)))) := by
  refine Con.of (by decide) (Nat.le_of_ble_eq_true rfl) ?_
  intro E hE
  refine g_lv (lv' := [(0, .int (nI k)), (1, .long (lN r)), (3, .long (lN w))]) [0, 1, 2] rfl ?_
  refine g_iload_n (pc' := 1) hE 0 rfl rfl dX4_restHolds_0 rfl ?_
  have hs1_44 : (k = 1) → G l E D 5 0 0 [] [(0, .int (nI k)), (1, .long (lN r)), (3, .long (lN w))] 44 [] := by
    intro hsw1
    refine g_lload_n (pc' := 45) hE 1 rfl rfl dX4_restHolds_44 rfl ?_
    refine g_callS (pc' := 48) (As := [.long (lN r)]) (rest := []) hE (qX4_isSmallSize l D T r hr) mX4_isSmallSize kX4_96 iX4_isSmallSize (by omega) rfl (by omega) [] rfl (by decide) rfl (Nat.le_of_ble_eq_true rfl) dX4_restHolds_45 rfl (gBackR [] rfl ?_)
    rintro _ rfl
    refine g_st (st' := [.int (bI (smallZ r))]) rfl ?_
    refine g_ifB_ne (pc' := 51) (tgt := 59) hE dX4_restHolds_48 rfl rfl (fun hc48 => ?_) (fun hc48 => ?_)
    · refine g_lload_n (pc' := 60) hE 2 rfl rfl dX4_restHolds_59 rfl ?_
      refine g_lload_n (pc' := 61) hE 1 rfl rfl dX4_restHolds_60 rfl ?_
      refine g_callS (pc' := 64) (As := [.long (lN w), .long (lN r)]) (rest := []) hE (qX4_intHolds l D T w r hw hr) mX4_intHolds kX4_101 iX4_intHolds (by omega) rfl (by omega) [] rfl (by decide) rfl (Nat.le_of_ble_eq_true rfl) dX4_restHolds_61 rfl (gBackR [] rfl ?_)
      rintro _ rfl
      refine g_st (st' := [.int (bI (intOK w r))]) rfl ?_
      refine g_ifB_eq (pc' := 67) (tgt := 71) hE dX4_restHolds_64 rfl rfl (fun hc64 => ?_) (fun hc64 => ?_)
      · refine g_iconst (pc' := 72) hE (nI 0) (by decide) dX4_restHolds_71 rfl ?_
        exact hE.zret (by first | rfl | exact bI_nar _ | decide) (⟨rfl, by first | exact zt (by unfold restOK; rw [if_pos (by omega)]; subst_vars; simp [*]) | exact zf (by unfold restOK; rw [if_pos (by omega)]; subst_vars; simp [*])⟩) (by omega) (by omega) dX4_restHolds_72
      · refine g_iconst (pc' := 68) hE (nI 1) (by decide) dX4_restHolds_67 rfl ?_
        refine g_goto (tgt := 72) hE dX4_restHolds_68 rfl ?_
        exact hE.zret (by first | rfl | exact bI_nar _ | decide) (⟨rfl, by first | exact zt (by unfold restOK; rw [if_pos (by omega)]; subst_vars; simp [*]) | exact zf (by unfold restOK; rw [if_pos (by omega)]; subst_vars; simp [*])⟩) (by omega) (by omega) dX4_restHolds_72
    · refine g_lload_n (pc' := 52) hE 1 rfl rfl dX4_restHolds_51 rfl ?_
      refine g_ldc2 (pc' := 55) hE (v := lN 16) kX4_99 dX4_restHolds_52 rfl ?_
      refine g_lcmp (pc' := 56) hE dX4_restHolds_55 rfl ?_
      refine g_ifcN_ne (pc' := 59) (tgt := 71) hE (by omega) (by omega) dX4_restHolds_56 rfl rfl (fun hc56 => ?_) (fun hc56 => ?_)
      · refine g_iconst (pc' := 72) hE (nI 0) (by decide) dX4_restHolds_71 rfl ?_
        exact hE.zret (by first | rfl | exact bI_nar _ | decide) (⟨rfl, by first | exact zt (by unfold restOK; rw [if_pos (by omega)]; subst_vars; simp [*]) | exact zf (by unfold restOK; rw [if_pos (by omega)]; subst_vars; simp [*])⟩) (by omega) (by omega) dX4_restHolds_72
      · refine g_lload_n (pc' := 60) hE 2 rfl rfl dX4_restHolds_59 rfl ?_
        refine g_lload_n (pc' := 61) hE 1 rfl rfl dX4_restHolds_60 rfl ?_
        refine g_callS (pc' := 64) (As := [.long (lN w), .long (lN r)]) (rest := []) hE (qX4_intHolds l D T w r hw hr) mX4_intHolds kX4_101 iX4_intHolds (by omega) rfl (by omega) [] rfl (by decide) rfl (Nat.le_of_ble_eq_true rfl) dX4_restHolds_61 rfl (gBackR [] rfl ?_)
        rintro _ rfl
        refine g_st (st' := [.int (bI (intOK w r))]) rfl ?_
        refine g_ifB_eq (pc' := 67) (tgt := 71) hE dX4_restHolds_64 rfl rfl (fun hc64 => ?_) (fun hc64 => ?_)
        · refine g_iconst (pc' := 72) hE (nI 0) (by decide) dX4_restHolds_71 rfl ?_
          exact hE.zret (by first | rfl | exact bI_nar _ | decide) (⟨rfl, by first | exact zt (by unfold restOK; rw [if_pos (by omega)]; subst_vars; simp [*]) | exact zf (by unfold restOK; rw [if_pos (by omega)]; subst_vars; simp [*])⟩) (by omega) (by omega) dX4_restHolds_72
        · refine g_iconst (pc' := 68) hE (nI 1) (by decide) dX4_restHolds_67 rfl ?_
          refine g_goto (tgt := 72) hE dX4_restHolds_68 rfl ?_
          exact hE.zret (by first | rfl | exact bI_nar _ | decide) (⟨rfl, by first | exact zt (by unfold restOK; rw [if_pos (by omega)]; subst_vars; simp [*]) | exact zf (by unfold restOK; rw [if_pos (by omega)]; subst_vars; simp [*])⟩) (by omega) (by omega) dX4_restHolds_72
  have hs1_90 : (k ≠ 1 ∧ k ≠ 3 ∧ k ≠ 6 ∧ k ≠ 7) → G l E D 5 0 0 [] [(0, .int (nI k)), (1, .long (lN r)), (3, .long (lN w))] 90 [] := by
    intro hsw1
    refine g_iconst (pc' := 91) hE (nI 1) (by decide) dX4_restHolds_90 rfl ?_
    exact hE.zret (by first | rfl | exact bI_nar _ | decide) (⟨rfl, zt (by unfold restOK; rw [if_neg (by omega), if_neg (by omega), if_neg (by omega)])⟩) (by omega) (by omega) dX4_restHolds_91
  have hs1_78 : (k = 3 ∨ k = 7) → G l E D 5 0 0 [] [(0, .int (nI k)), (1, .long (lN r)), (3, .long (lN w))] 78 [] := by
    intro hsw1
    refine g_lload_n (pc' := 79) hE 1 rfl rfl dX4_restHolds_78 rfl ?_
    refine g_lconst (pc' := 80) hE (lN 0) (by decide) dX4_restHolds_79 rfl ?_
    refine g_lcmp (pc' := 81) hE dX4_restHolds_80 rfl ?_
    refine g_ifcN_ne (pc' := 84) (tgt := 88) hE (by omega) (by omega) dX4_restHolds_81 rfl rfl (fun hc81 => ?_) (fun hc81 => ?_)
    · refine g_iconst (pc' := 89) hE (nI 0) (by decide) dX4_restHolds_88 rfl ?_
      exact hE.zret (by first | rfl | exact bI_nar _ | decide) (⟨rfl, by first | exact zt (by unfold restOK; rw [if_neg (by omega), if_neg (by omega), if_pos (by omega)]; exact decide_eq_true (by omega)) | exact zf (by unfold restOK; rw [if_neg (by omega), if_neg (by omega), if_pos (by omega)]; exact decide_eq_false (by omega))⟩) (by omega) (by omega) dX4_restHolds_89
    · refine g_iconst (pc' := 85) hE (nI 1) (by decide) dX4_restHolds_84 rfl ?_
      refine g_goto (tgt := 89) hE dX4_restHolds_85 rfl ?_
      exact hE.zret (by first | rfl | exact bI_nar _ | decide) (⟨rfl, by first | exact zt (by unfold restOK; rw [if_neg (by omega), if_neg (by omega), if_pos (by omega)]; exact decide_eq_true (by omega)) | exact zf (by unfold restOK; rw [if_neg (by omega), if_neg (by omega), if_pos (by omega)]; exact decide_eq_false (by omega))⟩) (by omega) (by omega) dX4_restHolds_89
  have hs1_73 : (k = 6) → G l E D 5 0 0 [] [(0, .int (nI k)), (1, .long (lN r)), (3, .long (lN w))] 73 [] := by
    intro hsw1
    refine g_lload_n (pc' := 74) hE 1 rfl rfl dX4_restHolds_73 rfl ?_
    refine g_callS (pc' := 77) (As := [.long (lN r)]) (rest := []) hE (qX4_isSmallSize l D T r hr) mX4_isSmallSize kX4_96 iX4_isSmallSize (by omega) rfl (by omega) [] rfl (by decide) rfl (Nat.le_of_ble_eq_true rfl) dX4_restHolds_74 rfl (gBackR [] rfl ?_)
    rintro _ rfl
    refine g_st (st' := [.int (bI (smallZ r))]) rfl ?_
    exact hE.zret (by first | rfl | exact bI_nar _ | decide) (⟨rfl, by unfold restOK; rw [if_neg (by omega), if_pos (by omega)]⟩) (by omega) (by omega) dX4_restHolds_77
  rcases (show k = 1 ∨ k = 2 ∨ k = 3 ∨ k = 4 ∨ k = 5 ∨ k = 6 ∨ k = 7 ∨ ((k : Nat) < 1 ∨ 7 < k) by omega) with hz | hz | hz | hz | hz | hz | hz | hz
  · exact g_tabIn (tgt := 44) hE 1 hz (by decide) (by decide) (by decide) dX4_restHolds_1 rfl rfl (hs1_44 (by omega))
  · exact g_tabIn (tgt := 90) hE 2 hz (by decide) (by decide) (by decide) dX4_restHolds_1 rfl rfl (hs1_90 (by omega))
  · exact g_tabIn (tgt := 78) hE 3 hz (by decide) (by decide) (by decide) dX4_restHolds_1 rfl rfl (hs1_78 (by omega))
  · exact g_tabIn (tgt := 90) hE 4 hz (by decide) (by decide) (by decide) dX4_restHolds_1 rfl rfl (hs1_90 (by omega))
  · exact g_tabIn (tgt := 90) hE 5 hz (by decide) (by decide) (by decide) dX4_restHolds_1 rfl rfl (hs1_90 (by omega))
  · exact g_tabIn (tgt := 73) hE 6 hz (by decide) (by decide) (by decide) dX4_restHolds_1 rfl rfl (hs1_73 (by omega))
  · exact g_tabIn (tgt := 78) hE 7 hz (by decide) (by decide) (by decide) dX4_restHolds_1 rfl rfl (hs1_78 (by omega))
  · exact g_tabOut (tgt := 90) hE (by omega) (by omega) dX4_restHolds_1 rfl (hs1_90 (by omega))

set_option maxHeartbeats 4000000 in
set_option maxRecDepth 100000 in
theorem qX4_infoHolds (l : Launch) (D : va_G) (T : Nat → ClassId) (i : Nat) (hi : i < 2 ^ 32) : Con l D T yX4_infoHolds cX4_infoHolds 3 (some .boolean) 2 0 0 [.long (lN i)] [] (fun v w1 => w1 = [] ∧ v = some (.int (bI (infoOK i)))) := by
  refine Con.of (by decide) (Nat.le_of_ble_eq_true rfl) ?_
  intro E hE
  have hkd := kd_lt i
  have htl := tl_lt i
  have hfl := fl_lt i
  have hit := itw_le (kd i)
  refine g_lv (lv' := [(0, .long (lN i))]) [0] rfl ?_
  refine g_lload_n (pc' := 1) hE 0 rfl rfl dX4_infoHolds_0 rfl ?_
  refine g_callS (pc' := 4) (As := [.long (lN i)]) (rest := []) hE (qX1_kind l D T i hi) mX1_kind kX4_66 iX1_kind (by omega) rfl (by omega) [] rfl (by decide) rfl (Nat.le_of_ble_eq_true rfl) dX4_infoHolds_1 rfl (gBackR [] rfl ?_)
  rintro _ rfl
  refine g_st (st' := [.int (nI (kd i))]) rfl ?_
  refine g_istore_n (pc' := 5) hE [(2, .int (nI (kd i))), (0, .long (lN i))] dX4_infoHolds_4 rfl rfl (by decide) rfl ?_
  refine g_iload_n (pc' := 6) hE 0 rfl rfl dX4_infoHolds_5 rfl ?_
  refine g_iconst (pc' := 7) hE (nI 1) (by decide) dX4_infoHolds_6 rfl ?_
  refine g_icmpN_lt (pc' := 10) (tgt := 26) hE (by omega) (by omega) dX4_infoHolds_7 rfl rfl (fun hc7 => ?_) (fun hc7 => ?_)
  · refine g_iconst (pc' := 27) hE (nI 0) (by decide) dX4_infoHolds_26 rfl ?_
    exact hE.zret (by first | rfl | exact bI_nar _ | decide) (⟨rfl, by unfold infoOK; first | rw [decide_eq_true (by simp [*] <;> omega)]; rfl | rw [decide_eq_false (by simp [*] <;> omega)]; rfl⟩) (by omega) (by omega) dX4_infoHolds_27
  · refine g_iload_n (pc' := 11) hE 0 rfl rfl dX4_infoHolds_10 rfl ?_
    refine g_bipush (pc' := 13) hE (nI 13) (by decide) dX4_infoHolds_11 rfl ?_
    refine g_icmpN_gt (pc' := 16) (tgt := 26) hE (by omega) (by omega) dX4_infoHolds_13 rfl rfl (fun hc13 => ?_) (fun hc13 => ?_)
    · refine g_iconst (pc' := 27) hE (nI 0) (by decide) dX4_infoHolds_26 rfl ?_
      exact hE.zret (by first | rfl | exact bI_nar _ | decide) (⟨rfl, by unfold infoOK; first | rw [decide_eq_true (by simp [*] <;> omega)]; rfl | rw [decide_eq_false (by simp [*] <;> omega)]; rfl⟩) (by omega) (by omega) dX4_infoHolds_27
    · refine g_lload_n (pc' := 17) hE 1 rfl rfl dX4_infoHolds_16 rfl ?_
      refine g_ldc2 (pc' := 20) hE (v := lN 1627324416) kX4_91 dX4_infoHolds_17 rfl ?_
      refine g_land (pc' := 21) hE dX4_infoHolds_20 rfl ?_
      refine g_eql (show _ = lN (i &&& 1627324416) from wb_and (by omega) (by decide)) ?_
      refine g_lconst (pc' := 22) hE (lN 0) (by decide) dX4_infoHolds_21 rfl ?_
      refine g_lcmp (pc' := 23) hE dX4_infoHolds_22 rfl ?_
      refine g_ifcN_eq (pc' := 26) (tgt := 28) hE (Nat.lt_of_le_of_lt Nat.and_le_left (by omega)) (by omega) dX4_infoHolds_23 rfl rfl (fun hc23 => ?_) (fun hc23 => ?_)
      · refine g_iload_n (pc' := 29) hE 0 rfl rfl dX4_infoHolds_28 rfl ?_
        refine g_callS (pc' := 32) (As := [.int (nI (kd i))]) (rest := []) hE (qX1_itemWords l D T (kd i) (by omega)) mX1_itemWords kX4_69 iX1_itemWords (by omega) rfl (by omega) [] rfl (by decide) rfl (Nat.le_of_ble_eq_true rfl) dX4_infoHolds_29 rfl (gBackR [] rfl ?_)
        rintro _ rfl
        refine g_st (st' := [.int (nI (itw (kd i)))]) rfl ?_
        refine g_ifN_ne (pc' := 35) (tgt := 55) hE (by omega) dX4_infoHolds_32 rfl rfl (fun hc32 => ?_) (fun hc32 => ?_)
        · refine g_lload_n (pc' := 56) hE 1 rfl rfl dX4_infoHolds_55 rfl ?_
          refine g_callS (pc' := 59) (As := [.long (lN i)]) (rest := []) hE (qX1_flag l D T i hi) mX1_flag kX4_93 iX1_flag (by omega) rfl (by omega) [] rfl (by decide) rfl (Nat.le_of_ble_eq_true rfl) dX4_infoHolds_56 rfl (gBackR [] rfl ?_)
          rintro _ rfl
          refine g_st (st' := [.int (nI (fl i))]) rfl ?_
          refine g_ifN_eq (pc' := 62) (tgt := 73) hE (by omega) dX4_infoHolds_59 rfl rfl (fun hc59 => ?_) (fun hc59 => ?_)
          · refine g_iconst (pc' := 74) hE (nI 1) (by decide) dX4_infoHolds_73 rfl ?_
            refine g_goto (tgt := 78) hE dX4_infoHolds_74 rfl ?_
            exact hE.zret (by first | rfl | exact bI_nar _ | decide) (⟨rfl, by unfold infoOK; first | rw [decide_eq_true (by simp [*] <;> omega)]; rfl | rw [decide_eq_false (by simp [*] <;> omega)]; rfl⟩) (by omega) (by omega) dX4_infoHolds_78
          · refine g_iload_n (pc' := 63) hE 0 rfl rfl dX4_infoHolds_62 rfl ?_
            refine g_iconst (pc' := 64) hE (nI 4) (by decide) dX4_infoHolds_63 rfl ?_
            refine g_icmpN_lt (pc' := 67) (tgt := 77) hE (by omega) (by omega) dX4_infoHolds_64 rfl rfl (fun hc64 => ?_) (fun hc64 => ?_)
            · refine g_iconst (pc' := 78) hE (nI 0) (by decide) dX4_infoHolds_77 rfl ?_
              exact hE.zret (by first | rfl | exact bI_nar _ | decide) (⟨rfl, by unfold infoOK; first | rw [decide_eq_true (by simp [*] <;> omega)]; rfl | rw [decide_eq_false (by simp [*] <;> omega)]; rfl⟩) (by omega) (by omega) dX4_infoHolds_78
            · refine g_iload_n (pc' := 68) hE 0 rfl rfl dX4_infoHolds_67 rfl ?_
              refine g_bipush (pc' := 70) hE (nI 7) (by decide) dX4_infoHolds_68 rfl ?_
              refine g_icmpN_gt (pc' := 73) (tgt := 77) hE (by omega) (by omega) dX4_infoHolds_70 rfl rfl (fun hc70 => ?_) (fun hc70 => ?_)
              · refine g_iconst (pc' := 78) hE (nI 0) (by decide) dX4_infoHolds_77 rfl ?_
                exact hE.zret (by first | rfl | exact bI_nar _ | decide) (⟨rfl, by unfold infoOK; first | rw [decide_eq_true (by simp [*] <;> omega)]; rfl | rw [decide_eq_false (by simp [*] <;> omega)]; rfl⟩) (by omega) (by omega) dX4_infoHolds_78
              · refine g_iconst (pc' := 74) hE (nI 1) (by decide) dX4_infoHolds_73 rfl ?_
                refine g_goto (tgt := 78) hE dX4_infoHolds_74 rfl ?_
                exact hE.zret (by first | rfl | exact bI_nar _ | decide) (⟨rfl, by unfold infoOK; first | rw [decide_eq_true (by simp [*] <;> omega)]; rfl | rw [decide_eq_false (by simp [*] <;> omega)]; rfl⟩) (by omega) (by omega) dX4_infoHolds_78
        · refine g_lload_n (pc' := 36) hE 1 rfl rfl dX4_infoHolds_35 rfl ?_
          refine g_callS (pc' := 39) (As := [.long (lN i)]) (rest := []) hE (qX1_tally l D T i) mX1_tally kX4_72 iX1_tally (by omega) rfl (by omega) [] rfl (by decide) rfl (Nat.le_of_ble_eq_true rfl) dX4_infoHolds_36 rfl (gBackR [] rfl ?_)
          rintro _ rfl
          refine g_st (st' := [.int (nI (tl i))]) rfl ?_
          refine g_iload_n (pc' := 40) hE 0 rfl rfl dX4_infoHolds_39 rfl ?_
          refine g_bipush (pc' := 42) hE (nI 12) (by decide) dX4_infoHolds_40 rfl ?_
          refine g_icmpN_ne (pc' := 45) (tgt := 49) hE (by omega) (by omega) dX4_infoHolds_42 rfl rfl (fun hc42 => ?_) (fun hc42 => ?_)
          · refine g_iconst (pc' := 50) hE (nI 0) (by decide) dX4_infoHolds_49 rfl ?_
            refine g_icmpN_le (pc' := 53) (tgt := 55) hE (by omega) (by omega) dX4_infoHolds_50 rfl rfl (fun hc50 => ?_) (fun hc50 => ?_)
            · refine g_lload_n (pc' := 56) hE 1 rfl rfl dX4_infoHolds_55 rfl ?_
              refine g_callS (pc' := 59) (As := [.long (lN i)]) (rest := []) hE (qX1_flag l D T i hi) mX1_flag kX4_93 iX1_flag (by omega) rfl (by omega) [] rfl (by decide) rfl (Nat.le_of_ble_eq_true rfl) dX4_infoHolds_56 rfl (gBackR [] rfl ?_)
              rintro _ rfl
              refine g_st (st' := [.int (nI (fl i))]) rfl ?_
              refine g_ifN_eq (pc' := 62) (tgt := 73) hE (by omega) dX4_infoHolds_59 rfl rfl (fun hc59 => ?_) (fun hc59 => ?_)
              · refine g_iconst (pc' := 74) hE (nI 1) (by decide) dX4_infoHolds_73 rfl ?_
                refine g_goto (tgt := 78) hE dX4_infoHolds_74 rfl ?_
                exact hE.zret (by first | rfl | exact bI_nar _ | decide) (⟨rfl, by unfold infoOK; first | rw [decide_eq_true (by simp [*] <;> omega)]; rfl | rw [decide_eq_false (by simp [*] <;> omega)]; rfl⟩) (by omega) (by omega) dX4_infoHolds_78
              · refine g_iload_n (pc' := 63) hE 0 rfl rfl dX4_infoHolds_62 rfl ?_
                refine g_iconst (pc' := 64) hE (nI 4) (by decide) dX4_infoHolds_63 rfl ?_
                refine g_icmpN_lt (pc' := 67) (tgt := 77) hE (by omega) (by omega) dX4_infoHolds_64 rfl rfl (fun hc64 => ?_) (fun hc64 => ?_)
                · refine g_iconst (pc' := 78) hE (nI 0) (by decide) dX4_infoHolds_77 rfl ?_
                  exact hE.zret (by first | rfl | exact bI_nar _ | decide) (⟨rfl, by unfold infoOK; first | rw [decide_eq_true (by simp [*] <;> omega)]; rfl | rw [decide_eq_false (by simp [*] <;> omega)]; rfl⟩) (by omega) (by omega) dX4_infoHolds_78
                · refine g_iload_n (pc' := 68) hE 0 rfl rfl dX4_infoHolds_67 rfl ?_
                  refine g_bipush (pc' := 70) hE (nI 7) (by decide) dX4_infoHolds_68 rfl ?_
                  refine g_icmpN_gt (pc' := 73) (tgt := 77) hE (by omega) (by omega) dX4_infoHolds_70 rfl rfl (fun hc70 => ?_) (fun hc70 => ?_)
                  · refine g_iconst (pc' := 78) hE (nI 0) (by decide) dX4_infoHolds_77 rfl ?_
                    exact hE.zret (by first | rfl | exact bI_nar _ | decide) (⟨rfl, by unfold infoOK; first | rw [decide_eq_true (by simp [*] <;> omega)]; rfl | rw [decide_eq_false (by simp [*] <;> omega)]; rfl⟩) (by omega) (by omega) dX4_infoHolds_78
                  · refine g_iconst (pc' := 74) hE (nI 1) (by decide) dX4_infoHolds_73 rfl ?_
                    refine g_goto (tgt := 78) hE dX4_infoHolds_74 rfl ?_
                    exact hE.zret (by first | rfl | exact bI_nar _ | decide) (⟨rfl, by unfold infoOK; first | rw [decide_eq_true (by simp [*] <;> omega)]; rfl | rw [decide_eq_false (by simp [*] <;> omega)]; rfl⟩) (by omega) (by omega) dX4_infoHolds_78
            · refine g_iconst (pc' := 54) hE (nI 0) (by decide) dX4_infoHolds_53 rfl ?_
              exact hE.zret (by first | rfl | exact bI_nar _ | decide) (⟨rfl, zf (decide_eq_false (fun z => by have h9 := z.2.2.2.1 hc32; split at h9 <;> omega))⟩) (by omega) (by omega) dX4_infoHolds_54
          · refine g_iconst (pc' := 46) hE (nI 2) (by decide) dX4_infoHolds_45 rfl ?_
            refine g_goto (tgt := 50) hE dX4_infoHolds_46 rfl ?_
            refine g_icmpN_le (pc' := 53) (tgt := 55) hE (by omega) (by omega) dX4_infoHolds_50 rfl rfl (fun hc50 => ?_) (fun hc50 => ?_)
            · refine g_lload_n (pc' := 56) hE 1 rfl rfl dX4_infoHolds_55 rfl ?_
              refine g_callS (pc' := 59) (As := [.long (lN i)]) (rest := []) hE (qX1_flag l D T i hi) mX1_flag kX4_93 iX1_flag (by omega) rfl (by omega) [] rfl (by decide) rfl (Nat.le_of_ble_eq_true rfl) dX4_infoHolds_56 rfl (gBackR [] rfl ?_)
              rintro _ rfl
              refine g_st (st' := [.int (nI (fl i))]) rfl ?_
              refine g_ifN_eq (pc' := 62) (tgt := 73) hE (by omega) dX4_infoHolds_59 rfl rfl (fun hc59 => ?_) (fun hc59 => ?_)
              · refine g_iconst (pc' := 74) hE (nI 1) (by decide) dX4_infoHolds_73 rfl ?_
                refine g_goto (tgt := 78) hE dX4_infoHolds_74 rfl ?_
                exact hE.zret (by first | rfl | exact bI_nar _ | decide) (⟨rfl, by unfold infoOK; first | rw [decide_eq_true (by simp [*] <;> omega)]; rfl | rw [decide_eq_false (by simp [*] <;> omega)]; rfl⟩) (by omega) (by omega) dX4_infoHolds_78
              · refine g_iload_n (pc' := 63) hE 0 rfl rfl dX4_infoHolds_62 rfl ?_
                refine g_iconst (pc' := 64) hE (nI 4) (by decide) dX4_infoHolds_63 rfl ?_
                refine g_icmpN_lt (pc' := 67) (tgt := 77) hE (by omega) (by omega) dX4_infoHolds_64 rfl rfl (fun hc64 => ?_) (fun hc64 => ?_)
                · refine g_iconst (pc' := 78) hE (nI 0) (by decide) dX4_infoHolds_77 rfl ?_
                  exact hE.zret (by first | rfl | exact bI_nar _ | decide) (⟨rfl, by unfold infoOK; first | rw [decide_eq_true (by simp [*] <;> omega)]; rfl | rw [decide_eq_false (by simp [*] <;> omega)]; rfl⟩) (by omega) (by omega) dX4_infoHolds_78
                · refine g_iload_n (pc' := 68) hE 0 rfl rfl dX4_infoHolds_67 rfl ?_
                  refine g_bipush (pc' := 70) hE (nI 7) (by decide) dX4_infoHolds_68 rfl ?_
                  refine g_icmpN_gt (pc' := 73) (tgt := 77) hE (by omega) (by omega) dX4_infoHolds_70 rfl rfl (fun hc70 => ?_) (fun hc70 => ?_)
                  · refine g_iconst (pc' := 78) hE (nI 0) (by decide) dX4_infoHolds_77 rfl ?_
                    exact hE.zret (by first | rfl | exact bI_nar _ | decide) (⟨rfl, by unfold infoOK; first | rw [decide_eq_true (by simp [*] <;> omega)]; rfl | rw [decide_eq_false (by simp [*] <;> omega)]; rfl⟩) (by omega) (by omega) dX4_infoHolds_78
                  · refine g_iconst (pc' := 74) hE (nI 1) (by decide) dX4_infoHolds_73 rfl ?_
                    refine g_goto (tgt := 78) hE dX4_infoHolds_74 rfl ?_
                    exact hE.zret (by first | rfl | exact bI_nar _ | decide) (⟨rfl, by unfold infoOK; first | rw [decide_eq_true (by simp [*] <;> omega)]; rfl | rw [decide_eq_false (by simp [*] <;> omega)]; rfl⟩) (by omega) (by omega) dX4_infoHolds_78
            · refine g_iconst (pc' := 54) hE (nI 0) (by decide) dX4_infoHolds_53 rfl ?_
              exact hE.zret (by first | rfl | exact bI_nar _ | decide) (⟨rfl, zf (decide_eq_false (fun z => by have h9 := z.2.2.2.1 hc32; split at h9 <;> omega))⟩) (by omega) (by omega) dX4_infoHolds_54
      · refine g_iconst (pc' := 27) hE (nI 0) (by decide) dX4_infoHolds_26 rfl ?_
        exact hE.zret (by first | rfl | exact bI_nar _ | decide) (⟨rfl, by unfold infoOK; first | rw [decide_eq_true (by simp [*] <;> omega)]; rfl | rw [decide_eq_false (by simp [*] <;> omega)]; rfl⟩) (by omega) (by omega) dX4_infoHolds_27

set_option maxHeartbeats 4000000 in
set_option maxRecDepth 100000 in
theorem qX4_namesLieWithin (l : Launch) (D : va_G) (T : Nat → ClassId) (t0 t1 cnt : Nat) (b : Nat → Nat) (a sg : Nat) (hc : cnt ≤ 8192) (hb : ∀ i, b i < 256) (ha : a < 2 ^ 20) (hs : sg < 2 ^ 20) : Con l D T yX4_namesLieWithin cX4_namesLieWithin 8 (some .boolean) 3 0 0 [.ref t0, .int (nI a), .int (nI sg)] [(t0, .inr (4, [.int (nI 8192), .ref t1, .int (nI cnt)])), (t1, .inl (T 1, ((8192 + 7) / 8), .inr (.inl (pack b))))] (fun v w1 => w1 = [(t0, .inr (4, [.int (nI 8192), .ref t1, .int (nI cnt)])), (t1, .inl (T 1, ((8192 + 7) / 8), .inr (.inl (pack b))))] ∧ v = some (.int (bI (namesIn (cut b cnt) a sg cnt)))) := by
  refine Con.of (by decide) (Nat.le_of_ble_eq_true rfl) ?_
  intro E hE
  have hct := cut_lt (c := cnt) hb
  have hi4 := num4_lt hct (a + 4)
  have hkd := kd_lt (num (cut b cnt) (a + 4) 4)
  have hwd := wds_le (num (cut b cnt) (a + 4) 4)
  refine g_lv (lv' := [(0, .ref t0), (1, .int (nI a)), (2, .int (nI sg))]) [0, 1, 2] rfl ?_
  refine g_aload_n (pc' := 1) hE 0 rfl rfl dX4_namesLieWithin_0 rfl ?_
  refine g_iload_n (pc' := 2) hE 1 rfl rfl dX4_namesLieWithin_1 rfl ?_
  refine g_iconst (pc' := 3) hE (nI 4) (by decide) dX4_namesLieWithin_2 rfl ?_
  refine g_iadd (pc' := 4) hE dX4_namesLieWithin_3 rfl ?_
  refine g_eqi (show _ = nI (a + 4) from nI_add _ _) ?_
  refine g_iconst (pc' := 5) hE (nI 4) (by decide) dX4_namesLieWithin_4 rfl ?_
  refine g_callV (pc' := 8) (As := [.int (nI (a + 4)), .int (nI 4)]) (rest := []) hE (qX5_number l D T t0 t1 8192 cnt b (a + 4) 4 (by decide) hc hb (by omega) (by decide)) mX5_number kX4_31 iX5_number sX5_number (by omega) rfl (by omega) 0 rfl rfl [0, 1] rfl (by decide) rfl (Nat.le_of_ble_eq_true rfl) dX4_namesLieWithin_5 rfl (gBackR [0, 1] rfl ?_)
  rintro _ rfl
  refine g_st (st' := [.long (lN (num (cut b cnt) (a + 4) 4))]) rfl ?_
  refine g_lstore_n (pc' := 9) hE [(3, .long (lN (num (cut b cnt) (a + 4) 4))), (0, .ref t0), (1, .int (nI a)), (2, .int (nI sg))] dX4_namesLieWithin_8 rfl rfl (by decide) rfl ?_
  refine g_lload_n (pc' := 10) hE 0 rfl rfl dX4_namesLieWithin_9 rfl ?_
  refine g_callS (pc' := 13) (As := [.long (lN (num (cut b cnt) (a + 4) 4))]) (rest := []) hE (qX1_kind l D T (num (cut b cnt) (a + 4) 4) hi4) mX1_kind kX4_66 iX1_kind (by omega) rfl (by omega) [] rfl (by decide) rfl (Nat.le_of_ble_eq_true rfl) dX4_namesLieWithin_10 rfl (gBackR [] rfl ?_)
  rintro _ rfl
  refine g_st (st' := [.int (nI (kd (num (cut b cnt) (a + 4) 4)))]) rfl ?_
  refine g_istore (pc' := 15) hE [(5, .int (nI (kd (num (cut b cnt) (a + 4) 4)))), (3, .long (lN (num (cut b cnt) (a + 4) 4))), (0, .ref t0), (1, .int (nI a)), (2, .int (nI sg))] dX4_namesLieWithin_13 rfl (by decide) rfl ?_
  refine g_lload_n (pc' := 16) hE 1 rfl rfl dX4_namesLieWithin_15 rfl ?_
  refine g_callS (pc' := 19) (As := [.long (lN (num (cut b cnt) (a + 4) 4))]) (rest := []) hE (qX1_words l D T (num (cut b cnt) (a + 4) 4) hi4) mX1_words kX4_60 iX1_words (by omega) rfl (by omega) [] rfl (by decide) rfl (Nat.le_of_ble_eq_true rfl) dX4_namesLieWithin_16 rfl (gBackR [] rfl ?_)
  rintro _ rfl
  refine g_st (st' := [.int (nI (wds (num (cut b cnt) (a + 4) 4)))]) rfl ?_
  refine g_istore (pc' := 21) hE [(6, .int (nI (wds (num (cut b cnt) (a + 4) 4)))), (5, .int (nI (kd (num (cut b cnt) (a + 4) 4)))), (3, .long (lN (num (cut b cnt) (a + 4) 4))), (0, .ref t0), (1, .int (nI a)), (2, .int (nI sg))] dX4_namesLieWithin_19 rfl (by decide) rfl ?_
  refine g_iconst (pc' := 22) hE (nI 0) (by decide) dX4_namesLieWithin_21 rfl ?_
  refine g_istore (pc' := 24) hE [(7, .int (nI 0)), (6, .int (nI (wds (num (cut b cnt) (a + 4) 4)))), (5, .int (nI (kd (num (cut b cnt) (a + 4) 4)))), (3, .long (lN (num (cut b cnt) (a + 4) 4))), (0, .ref t0), (1, .int (nI a)), (2, .int (nI sg))] dX4_namesLieWithin_22 rfl (by decide) rfl ?_
  refine (show ∀ (d24 : Nat) (w : Nat), wds (num (cut b cnt) (a + 4) 4) - w = d24 → (w ≤ wds (num (cut b cnt) (a + 4) 4)) → (∀ u, u < w → rl (kd (num (cut b cnt) (a + 4) 4)) u = 1 → sg + num (cut b cnt) (a + 4 * u) 4 < cnt) → G l E D 8 0 0 [(t0, .inr (4, [.int (nI 8192), .ref t1, .int (nI cnt)])), (t1, .inl (T 1, ((8192 + 7) / 8), .inr (.inl (pack b))))] [(7, .int (nI w)), (6, .int (nI (wds (num (cut b cnt) (a + 4) 4)))), (5, .int (nI (kd (num (cut b cnt) (a + 4) 4)))), (3, .long (lN (num (cut b cnt) (a + 4) 4))), (0, .ref t0), (1, .int (nI a)), (2, .int (nI sg))] 24 [] from ?_) _ 0 rfl (by omega) (fun u hu => absurd hu (by omega))
  intro d24
  induction d24 using Nat.strongRecOn with
  | _ d24 ih24 =>
  intro w hd24 hw hall
  refine g_iload (pc' := 26) hE 0 rfl dX4_namesLieWithin_24 rfl ?_
  refine g_iload (pc' := 28) hE 1 rfl dX4_namesLieWithin_26 rfl ?_
  refine g_icmpN_ge (pc' := 31) (tgt := 73) hE (by omega) (by omega) dX4_namesLieWithin_28 rfl rfl (fun hc28 => ?_) (fun hc28 => ?_)
  · refine g_iconst (pc' := 74) hE (nI 1) (by decide) dX4_namesLieWithin_73 rfl ?_
    exact hE.zret (by first | rfl | exact bI_nar _ | decide) (⟨rfl, by unfold namesIn; rw [decide_eq_true (fun u hu => hall u (by omega))]; rfl⟩) (by omega) (by omega) dX4_namesLieWithin_74
  · refine g_iload (pc' := 33) hE 2 rfl dX4_namesLieWithin_31 rfl ?_
    refine g_iload (pc' := 35) hE 0 rfl dX4_namesLieWithin_33 rfl ?_
    refine g_callS (pc' := 38) (As := [.int (nI (kd (num (cut b cnt) (a + 4) 4))), .int (nI w)]) (rest := []) hE (qX1_role l D T (kd (num (cut b cnt) (a + 4) 4)) w (by omega) (by omega)) mX1_role kX4_115 iX1_role (by omega) rfl (by omega) [] rfl (by decide) rfl (Nat.le_of_ble_eq_true rfl) dX4_namesLieWithin_35 rfl (gBackR [] rfl ?_)
    rintro _ rfl
    refine g_st (st' := [.int (nI (rl (kd (num (cut b cnt) (a + 4) 4)) w))]) rfl ?_
    have hrl := rl_le (kd (num (cut b cnt) (a + 4) 4)) w
    refine g_iconst (pc' := 39) hE (nI 1) (by decide) dX4_namesLieWithin_38 rfl ?_
    refine g_icmpN_ne (pc' := 42) (tgt := 67) hE (by omega) (by omega) dX4_namesLieWithin_39 rfl rfl (fun hc39 => ?_) (fun hc39 => ?_)
    · refine g_iinc (pc' := 70) hE (nI (w + 1)) [(7, .int (nI (w + 1))), (6, .int (nI (wds (num (cut b cnt) (a + 4) 4)))), (5, .int (nI (kd (num (cut b cnt) (a + 4) 4)))), (3, .long (lN (num (cut b cnt) (a + 4) 4))), (0, .ref t0), (1, .int (nI a)), (2, .int (nI sg))] 0 rfl dX4_namesLieWithin_67 rfl (g_incN _ 1) (by decide) rfl ?_
      refine g_goto (tgt := 24) hE dX4_namesLieWithin_70 rfl ?_
      exact ih24 _ (by omega) (w + 1) rfl (by omega) (lt_s hall (fun z => by first | exact absurd z hc39 | omega))
    · refine g_iload_n (pc' := 43) hE 6 rfl rfl dX4_namesLieWithin_42 rfl ?_
      refine g_i2l (pc' := 44) hE (lN sg) (nI_l (by omega)) dX4_namesLieWithin_43 rfl ?_
      refine g_aload_n (pc' := 45) hE 4 rfl rfl dX4_namesLieWithin_44 rfl ?_
      refine g_iload_n (pc' := 46) hE 5 rfl rfl dX4_namesLieWithin_45 rfl ?_
      refine g_iconst (pc' := 47) hE (nI 4) (by decide) dX4_namesLieWithin_46 rfl ?_
      refine g_iload (pc' := 49) hE 0 rfl dX4_namesLieWithin_47 rfl ?_
      refine g_imul (pc' := 50) hE dX4_namesLieWithin_49 rfl ?_
      refine g_eqi (show _ = nI (4 * w) from pk_mul _ _) ?_
      refine g_iadd (pc' := 51) hE dX4_namesLieWithin_50 rfl ?_
      refine g_eqi (show _ = nI (a + 4 * w) from nI_add _ _) ?_
      refine g_iconst (pc' := 52) hE (nI 4) (by decide) dX4_namesLieWithin_51 rfl ?_
      refine g_callV (pc' := 55) (As := [.int (nI (a + 4 * w)), .int (nI 4)]) (rest := [.long (lN sg)]) hE (qX5_number l D T t0 t1 8192 cnt b (a + 4 * w) 4 (by decide) hc hb (by omega) (by decide)) mX5_number kX4_31 iX5_number sX5_number (by omega) rfl (by omega) 0 rfl rfl [0, 1] rfl (by decide) rfl (Nat.le_of_ble_eq_true rfl) dX4_namesLieWithin_52 rfl (gBackR [0, 1] rfl ?_)
      rintro _ rfl
      refine g_st (st' := [.long (lN (num (cut b cnt) (a + 4 * w) 4)), .long (lN sg)]) rfl ?_
      refine g_ladd (pc' := 56) hE dX4_namesLieWithin_55 rfl ?_
      refine g_eql (show _ = lN (sg + (num (cut b cnt) (a + 4 * w) 4)) from lN_add _ _) ?_
      refine g_aload_n (pc' := 57) hE 4 rfl rfl dX4_namesLieWithin_56 rfl ?_
      refine g_callV (pc' := 60) (As := []) (rest := [.long (lN (sg + (num (cut b cnt) (a + 4 * w) 4)))]) hE (qX5_count l D T t0 t1 8192 cnt b) mX5_count kX4_25 iX5_count sX5_count (by omega) rfl (by omega) 0 rfl rfl [0, 1] rfl (by decide) rfl (Nat.le_of_ble_eq_true rfl) dX4_namesLieWithin_57 rfl (gBackR [0, 1] rfl ?_)
      rintro _ rfl
      refine g_st (st' := [.int (nI cnt), .long (lN (sg + (num (cut b cnt) (a + 4 * w) 4)))]) rfl ?_
      refine g_i2l (pc' := 61) hE (lN cnt) (nI_l (by omega)) dX4_namesLieWithin_60 rfl ?_
      have hi5 := num4_lt hct (a + 4 * w)
      refine g_lcmp (pc' := 62) hE dX4_namesLieWithin_61 rfl ?_
      refine g_ifcN_lt (pc' := 65) (tgt := 67) hE (by omega) (by omega) dX4_namesLieWithin_62 rfl rfl (fun hc62 => ?_) (fun hc62 => ?_)
      · refine g_iinc (pc' := 70) hE (nI (w + 1)) [(7, .int (nI (w + 1))), (6, .int (nI (wds (num (cut b cnt) (a + 4) 4)))), (5, .int (nI (kd (num (cut b cnt) (a + 4) 4)))), (3, .long (lN (num (cut b cnt) (a + 4) 4))), (0, .ref t0), (1, .int (nI a)), (2, .int (nI sg))] 0 rfl dX4_namesLieWithin_67 rfl (g_incN _ 1) (by decide) rfl ?_
        refine g_goto (tgt := 24) hE dX4_namesLieWithin_70 rfl ?_
        exact ih24 _ (by omega) (w + 1) rfl (by omega) (lt_s hall (fun z => by first | exact absurd z hc39 | omega))
      · refine g_iconst (pc' := 66) hE (nI 0) (by decide) dX4_namesLieWithin_65 rfl ?_
        exact hE.zret (by first | rfl | exact bI_nar _ | decide) (⟨rfl, by unfold namesIn; rw [decide_eq_false (fun z => by have := z w (by omega) hc39; omega)]; rfl⟩) (by omega) (by omega) dX4_namesLieWithin_66

set_option maxHeartbeats 4000000 in
set_option maxRecDepth 100000 in
theorem qX4_ownNameHolds (l : Launch) (D : va_G) (T : Nat → ClassId) (k : Nat) (t0 t1 cnt : Nat) (b : Nat → Nat) (a sg : Nat) (hc : cnt ≤ 8192) (hb : ∀ i, b i < 256) (hk : k < 2 ^ 31) (ha : a < 2 ^ 20) (hs : sg + num (cut b cnt) a 4 < 2 ^ 20) : Con l D T yX4_ownNameHolds cX4_ownNameHolds 5 (some .boolean) 3 0 0 [.int (nI k), .ref t0, .int (nI a), .int (nI sg)] [(t0, .inr (4, [.int (nI 8192), .ref t1, .int (nI cnt)])), (t1, .inl (T 1, ((8192 + 7) / 8), .inr (.inl (pack b))))] (fun v w1 => w1 = [(t0, .inr (4, [.int (nI 8192), .ref t1, .int (nI cnt)])), (t1, .inl (T 1, ((8192 + 7) / 8), .inr (.inl (pack b))))] ∧ v = some (.int (bI (ownOK k (cut b cnt) a sg)))) := by
  refine Con.of (by decide) (Nat.le_of_ble_eq_true rfl) ?_
  intro E hE
  have hct := cut_lt (c := cnt) hb
  refine g_lv (lv' := [(0, .int (nI k)), (1, .ref t0), (2, .int (nI a)), (3, .int (nI sg))]) [0, 1, 2, 3] rfl ?_
  refine g_aload_n (pc' := 1) hE 1 rfl rfl dX4_ownNameHolds_0 rfl ?_
  refine g_iload_n (pc' := 2) hE 3 rfl rfl dX4_ownNameHolds_1 rfl ?_
  refine g_aload_n (pc' := 3) hE 1 rfl rfl dX4_ownNameHolds_2 rfl ?_
  refine g_iload_n (pc' := 4) hE 2 rfl rfl dX4_ownNameHolds_3 rfl ?_
  refine g_iconst (pc' := 5) hE (nI 4) (by decide) dX4_ownNameHolds_4 rfl ?_
  refine g_callV (pc' := 8) (As := [.int (nI a), .int (nI 4)]) (rest := [.int (nI sg), .ref t0]) hE (qX5_number l D T t0 t1 8192 cnt b a 4 (by decide) hc hb (by omega) (by decide)) mX5_number kX4_31 iX5_number sX5_number (by omega) rfl (by omega) 0 rfl rfl [0, 1] rfl (by decide) rfl (Nat.le_of_ble_eq_true rfl) dX4_ownNameHolds_5 rfl (gBackR [0, 1] rfl ?_)
  rintro _ rfl
  refine g_st (st' := [.long (lN (num (cut b cnt) a 4)), .int (nI sg), .ref t0]) rfl ?_
  refine g_l2i (pc' := 9) hE (nI (num (cut b cnt) a 4)) (lN_i _) dX4_ownNameHolds_8 rfl ?_
  refine g_iadd (pc' := 10) hE dX4_ownNameHolds_9 rfl ?_
  refine g_eqi (show _ = nI (sg + num (cut b cnt) a 4) from nI_add _ _) ?_
  refine g_callV (pc' := 13) (As := [.int (nI (sg + num (cut b cnt) a 4))]) (rest := []) hE (qX5_at l D T t0 t1 8192 cnt b (sg + num (cut b cnt) a 4) (by decide) hc hb (by omega)) mX5_at kX4_37 iX5_at sX5_at (by omega) rfl (by omega) 0 rfl rfl [0, 1] rfl (by decide) rfl (Nat.le_of_ble_eq_true rfl) dX4_ownNameHolds_10 rfl (gBackR [0, 1] rfl ?_)
  rintro _ rfl
  refine g_st (st' := [.int (nI (cut b cnt (sg + num (cut b cnt) a 4)))]) rfl ?_
  have h13 := hct (sg + num (cut b cnt) a 4)
  refine g_ifN_ne (pc' := 16) (tgt := 20) hE (by omega) dX4_ownNameHolds_13 rfl rfl (fun hc13 => ?_) (fun hc13 => ?_)
  · refine g_iconst (pc' := 21) hE (nI 0) (by decide) dX4_ownNameHolds_20 rfl ?_
    refine g_istore (pc' := 23) hE [(4, .int (nI 0)), (0, .int (nI k)), (1, .ref t0), (2, .int (nI a)), (3, .int (nI sg))] dX4_ownNameHolds_21 rfl (by decide) rfl ?_
    refine g_iload_n (pc' := 24) hE 1 rfl rfl dX4_ownNameHolds_23 rfl ?_
    have hs24_90 : (k = 1 ∨ k = 7 ∨ k = 8 ∨ k = 12) → G l E D 5 0 0 [(t0, .inr (4, [.int (nI 8192), .ref t1, .int (nI cnt)])), (t1, .inl (T 1, ((8192 + 7) / 8), .inr (.inl (pack b))))] [(4, .int (nI 0)), (0, .int (nI k)), (1, .ref t0), (2, .int (nI a)), (3, .int (nI sg))] 90 [] := by
      intro hsw24
      refine g_iload (pc' := 92) hE 0 rfl dX4_ownNameHolds_90 rfl ?_
      refine g_ifN_ne (pc' := 95) (tgt := 99) hE (by omega) dX4_ownNameHolds_92 rfl rfl (fun hc92 => ?_) (fun hc92 => ?_)
      · refine g_iconst (pc' := 100) hE (nI 0) (by decide) dX4_ownNameHolds_99 rfl ?_
        exact hE.zret (by first | rfl | exact bI_nar _ | decide) (⟨rfl, by unfold ownOK; rw [if_neg (by omega), if_pos (by omega)]; simp_all <;> rfl⟩) (by omega) (by omega) dX4_ownNameHolds_100
      · refine g_iconst (pc' := 96) hE (nI 1) (by decide) dX4_ownNameHolds_95 rfl ?_
        refine g_goto (tgt := 100) hE dX4_ownNameHolds_96 rfl ?_
        exact hE.zret (by first | rfl | exact bI_nar _ | decide) (⟨rfl, by unfold ownOK; rw [if_neg (by omega), if_pos (by omega)]; simp_all <;> rfl⟩) (by omega) (by omega) dX4_ownNameHolds_100
    have hs24_101 : (k ≠ 1 ∧ k ≠ 4 ∧ k ≠ 5 ∧ k ≠ 6 ∧ k ≠ 7 ∧ k ≠ 8 ∧ k ≠ 12) → G l E D 5 0 0 [(t0, .inr (4, [.int (nI 8192), .ref t1, .int (nI cnt)])), (t1, .inl (T 1, ((8192 + 7) / 8), .inr (.inl (pack b))))] [(4, .int (nI 0)), (0, .int (nI k)), (1, .ref t0), (2, .int (nI a)), (3, .int (nI sg))] 101 [] := by
      intro hsw24
      refine g_iload (pc' := 103) hE 0 rfl dX4_ownNameHolds_101 rfl ?_
      exact hE.zret (by first | rfl | exact bI_nar _ | decide) (⟨rfl, by unfold ownOK; rw [if_neg (by omega), if_neg (by omega)]; simp_all <;> rfl⟩) (by omega) (by omega) dX4_ownNameHolds_103
    have hs24_88 : (k = 4 ∨ k = 5 ∨ k = 6) → G l E D 5 0 0 [(t0, .inr (4, [.int (nI 8192), .ref t1, .int (nI cnt)])), (t1, .inl (T 1, ((8192 + 7) / 8), .inr (.inl (pack b))))] [(4, .int (nI 0)), (0, .int (nI k)), (1, .ref t0), (2, .int (nI a)), (3, .int (nI sg))] 88 [] := by
      intro hsw24
      refine g_iconst (pc' := 89) hE (nI 1) (by decide) dX4_ownNameHolds_88 rfl ?_
      exact hE.zret (by first | rfl | exact bI_nar _ | decide) (⟨rfl, by unfold ownOK; rw [if_pos (by omega)]; rfl⟩) (by omega) (by omega) dX4_ownNameHolds_89
    rcases (show k = 1 ∨ k = 2 ∨ k = 3 ∨ k = 4 ∨ k = 5 ∨ k = 6 ∨ k = 7 ∨ k = 8 ∨ k = 9 ∨ k = 10 ∨ k = 11 ∨ k = 12 ∨ ((k : Nat) < 1 ∨ 12 < k) by omega) with hz | hz | hz | hz | hz | hz | hz | hz | hz | hz | hz | hz | hz
    · exact g_tabIn (tgt := 90) hE 1 hz (by decide) (by decide) (by decide) dX4_ownNameHolds_24 rfl rfl (hs24_90 (by omega))
    · exact g_tabIn (tgt := 101) hE 2 hz (by decide) (by decide) (by decide) dX4_ownNameHolds_24 rfl rfl (hs24_101 (by omega))
    · exact g_tabIn (tgt := 101) hE 3 hz (by decide) (by decide) (by decide) dX4_ownNameHolds_24 rfl rfl (hs24_101 (by omega))
    · exact g_tabIn (tgt := 88) hE 4 hz (by decide) (by decide) (by decide) dX4_ownNameHolds_24 rfl rfl (hs24_88 (by omega))
    · exact g_tabIn (tgt := 88) hE 5 hz (by decide) (by decide) (by decide) dX4_ownNameHolds_24 rfl rfl (hs24_88 (by omega))
    · exact g_tabIn (tgt := 88) hE 6 hz (by decide) (by decide) (by decide) dX4_ownNameHolds_24 rfl rfl (hs24_88 (by omega))
    · exact g_tabIn (tgt := 90) hE 7 hz (by decide) (by decide) (by decide) dX4_ownNameHolds_24 rfl rfl (hs24_90 (by omega))
    · exact g_tabIn (tgt := 90) hE 8 hz (by decide) (by decide) (by decide) dX4_ownNameHolds_24 rfl rfl (hs24_90 (by omega))
    · exact g_tabIn (tgt := 101) hE 9 hz (by decide) (by decide) (by decide) dX4_ownNameHolds_24 rfl rfl (hs24_101 (by omega))
    · exact g_tabIn (tgt := 101) hE 10 hz (by decide) (by decide) (by decide) dX4_ownNameHolds_24 rfl rfl (hs24_101 (by omega))
    · exact g_tabIn (tgt := 101) hE 11 hz (by decide) (by decide) (by decide) dX4_ownNameHolds_24 rfl rfl (hs24_101 (by omega))
    · exact g_tabIn (tgt := 90) hE 12 hz (by decide) (by decide) (by decide) dX4_ownNameHolds_24 rfl rfl (hs24_90 (by omega))
    · exact g_tabOut (tgt := 101) hE (by omega) (by omega) dX4_ownNameHolds_24 rfl (hs24_101 (by omega))
  · refine g_iconst (pc' := 17) hE (nI 1) (by decide) dX4_ownNameHolds_16 rfl ?_
    refine g_goto (tgt := 21) hE dX4_ownNameHolds_17 rfl ?_
    refine g_istore (pc' := 23) hE [(4, .int (nI 1)), (0, .int (nI k)), (1, .ref t0), (2, .int (nI a)), (3, .int (nI sg))] dX4_ownNameHolds_21 rfl (by decide) rfl ?_
    refine g_iload_n (pc' := 24) hE 1 rfl rfl dX4_ownNameHolds_23 rfl ?_
    have hs24_90 : (k = 1 ∨ k = 7 ∨ k = 8 ∨ k = 12) → G l E D 5 0 0 [(t0, .inr (4, [.int (nI 8192), .ref t1, .int (nI cnt)])), (t1, .inl (T 1, ((8192 + 7) / 8), .inr (.inl (pack b))))] [(4, .int (nI 1)), (0, .int (nI k)), (1, .ref t0), (2, .int (nI a)), (3, .int (nI sg))] 90 [] := by
      intro hsw24
      refine g_iload (pc' := 92) hE 0 rfl dX4_ownNameHolds_90 rfl ?_
      refine g_ifN_ne (pc' := 95) (tgt := 99) hE (by omega) dX4_ownNameHolds_92 rfl rfl (fun hc92 => ?_) (fun hc92 => ?_)
      · refine g_iconst (pc' := 100) hE (nI 0) (by decide) dX4_ownNameHolds_99 rfl ?_
        exact hE.zret (by first | rfl | exact bI_nar _ | decide) (⟨rfl, by unfold ownOK; rw [if_neg (by omega), if_pos (by omega)]; simp_all <;> rfl⟩) (by omega) (by omega) dX4_ownNameHolds_100
      · refine g_iconst (pc' := 96) hE (nI 1) (by decide) dX4_ownNameHolds_95 rfl ?_
        refine g_goto (tgt := 100) hE dX4_ownNameHolds_96 rfl ?_
        exact hE.zret (by first | rfl | exact bI_nar _ | decide) (⟨rfl, by unfold ownOK; rw [if_neg (by omega), if_pos (by omega)]; simp_all <;> rfl⟩) (by omega) (by omega) dX4_ownNameHolds_100
    have hs24_101 : (k ≠ 1 ∧ k ≠ 4 ∧ k ≠ 5 ∧ k ≠ 6 ∧ k ≠ 7 ∧ k ≠ 8 ∧ k ≠ 12) → G l E D 5 0 0 [(t0, .inr (4, [.int (nI 8192), .ref t1, .int (nI cnt)])), (t1, .inl (T 1, ((8192 + 7) / 8), .inr (.inl (pack b))))] [(4, .int (nI 1)), (0, .int (nI k)), (1, .ref t0), (2, .int (nI a)), (3, .int (nI sg))] 101 [] := by
      intro hsw24
      refine g_iload (pc' := 103) hE 0 rfl dX4_ownNameHolds_101 rfl ?_
      exact hE.zret (by first | rfl | exact bI_nar _ | decide) (⟨rfl, by unfold ownOK; rw [if_neg (by omega), if_neg (by omega)]; simp_all <;> rfl⟩) (by omega) (by omega) dX4_ownNameHolds_103
    have hs24_88 : (k = 4 ∨ k = 5 ∨ k = 6) → G l E D 5 0 0 [(t0, .inr (4, [.int (nI 8192), .ref t1, .int (nI cnt)])), (t1, .inl (T 1, ((8192 + 7) / 8), .inr (.inl (pack b))))] [(4, .int (nI 1)), (0, .int (nI k)), (1, .ref t0), (2, .int (nI a)), (3, .int (nI sg))] 88 [] := by
      intro hsw24
      refine g_iconst (pc' := 89) hE (nI 1) (by decide) dX4_ownNameHolds_88 rfl ?_
      exact hE.zret (by first | rfl | exact bI_nar _ | decide) (⟨rfl, by unfold ownOK; rw [if_pos (by omega)]; rfl⟩) (by omega) (by omega) dX4_ownNameHolds_89
    rcases (show k = 1 ∨ k = 2 ∨ k = 3 ∨ k = 4 ∨ k = 5 ∨ k = 6 ∨ k = 7 ∨ k = 8 ∨ k = 9 ∨ k = 10 ∨ k = 11 ∨ k = 12 ∨ ((k : Nat) < 1 ∨ 12 < k) by omega) with hz | hz | hz | hz | hz | hz | hz | hz | hz | hz | hz | hz | hz
    · exact g_tabIn (tgt := 90) hE 1 hz (by decide) (by decide) (by decide) dX4_ownNameHolds_24 rfl rfl (hs24_90 (by omega))
    · exact g_tabIn (tgt := 101) hE 2 hz (by decide) (by decide) (by decide) dX4_ownNameHolds_24 rfl rfl (hs24_101 (by omega))
    · exact g_tabIn (tgt := 101) hE 3 hz (by decide) (by decide) (by decide) dX4_ownNameHolds_24 rfl rfl (hs24_101 (by omega))
    · exact g_tabIn (tgt := 88) hE 4 hz (by decide) (by decide) (by decide) dX4_ownNameHolds_24 rfl rfl (hs24_88 (by omega))
    · exact g_tabIn (tgt := 88) hE 5 hz (by decide) (by decide) (by decide) dX4_ownNameHolds_24 rfl rfl (hs24_88 (by omega))
    · exact g_tabIn (tgt := 88) hE 6 hz (by decide) (by decide) (by decide) dX4_ownNameHolds_24 rfl rfl (hs24_88 (by omega))
    · exact g_tabIn (tgt := 90) hE 7 hz (by decide) (by decide) (by decide) dX4_ownNameHolds_24 rfl rfl (hs24_90 (by omega))
    · exact g_tabIn (tgt := 90) hE 8 hz (by decide) (by decide) (by decide) dX4_ownNameHolds_24 rfl rfl (hs24_90 (by omega))
    · exact g_tabIn (tgt := 101) hE 9 hz (by decide) (by decide) (by decide) dX4_ownNameHolds_24 rfl rfl (hs24_101 (by omega))
    · exact g_tabIn (tgt := 101) hE 10 hz (by decide) (by decide) (by decide) dX4_ownNameHolds_24 rfl rfl (hs24_101 (by omega))
    · exact g_tabIn (tgt := 101) hE 11 hz (by decide) (by decide) (by decide) dX4_ownNameHolds_24 rfl rfl (hs24_101 (by omega))
    · exact g_tabIn (tgt := 90) hE 12 hz (by decide) (by decide) (by decide) dX4_ownNameHolds_24 rfl rfl (hs24_90 (by omega))
    · exact g_tabOut (tgt := 101) hE (by omega) (by omega) dX4_ownNameHolds_24 rfl (hs24_101 (by omega))

set_option maxHeartbeats 4000000 in
set_option maxRecDepth 100000 in
theorem qX4_highestReference (l : Launch) (D : va_G) (T : Nat → ClassId) (t0 t1 cnt : Nat) (b : Nat → Nat) (a : Nat) (hc : cnt ≤ 8192) (hb : ∀ i, b i < 256) (ha : a < 2 ^ 20) : Con l D T yX4_highestReference cX4_highestReference 9 (some .long) 3 0 0 [.ref t0, .int (nI a)] [(t0, .inr (4, [.int (nI 8192), .ref t1, .int (nI cnt)])), (t1, .inl (T 1, ((8192 + 7) / 8), .inr (.inl (pack b))))] (fun v w1 => w1 = [(t0, .inr (4, [.int (nI 8192), .ref t1, .int (nI cnt)])), (t1, .inl (T 1, ((8192 + 7) / 8), .inr (.inl (pack b))))] ∧ v = some (.long (lN (hiRef (cut b cnt) a)))) := by
  refine Con.of (by decide) (Nat.le_of_ble_eq_true rfl) ?_
  intro E hE
  have hct := cut_lt (c := cnt) hb
  have hi4 := num4_lt hct (a + 4)
  have hkd := kd_lt (num (cut b cnt) (a + 4) 4)
  have hwd := wds_le (num (cut b cnt) (a + 4) 4)
  refine g_lv (lv' := [(0, .ref t0), (1, .int (nI a))]) [0, 1] rfl ?_
  refine g_aload_n (pc' := 1) hE 0 rfl rfl dX4_highestReference_0 rfl ?_
  refine g_iload_n (pc' := 2) hE 1 rfl rfl dX4_highestReference_1 rfl ?_
  refine g_iconst (pc' := 3) hE (nI 4) (by decide) dX4_highestReference_2 rfl ?_
  refine g_iadd (pc' := 4) hE dX4_highestReference_3 rfl ?_
  refine g_eqi (show _ = nI (a + 4) from nI_add _ _) ?_
  refine g_iconst (pc' := 5) hE (nI 4) (by decide) dX4_highestReference_4 rfl ?_
  refine g_callV (pc' := 8) (As := [.int (nI (a + 4)), .int (nI 4)]) (rest := []) hE (qX5_number l D T t0 t1 8192 cnt b (a + 4) 4 (by decide) hc hb (by omega) (by decide)) mX5_number kX4_31 iX5_number sX5_number (by omega) rfl (by omega) 0 rfl rfl [0, 1] rfl (by decide) rfl (Nat.le_of_ble_eq_true rfl) dX4_highestReference_5 rfl (gBackR [0, 1] rfl ?_)
  rintro _ rfl
  refine g_st (st' := [.long (lN (num (cut b cnt) (a + 4) 4))]) rfl ?_
  refine g_lstore_n (pc' := 9) hE [(2, .long (lN (num (cut b cnt) (a + 4) 4))), (0, .ref t0), (1, .int (nI a))] dX4_highestReference_8 rfl rfl (by decide) rfl ?_
  refine g_lload_n (pc' := 10) hE 0 rfl rfl dX4_highestReference_9 rfl ?_
  refine g_callS (pc' := 13) (As := [.long (lN (num (cut b cnt) (a + 4) 4))]) (rest := []) hE (qX1_kind l D T (num (cut b cnt) (a + 4) 4) hi4) mX1_kind kX4_66 iX1_kind (by omega) rfl (by omega) [] rfl (by decide) rfl (Nat.le_of_ble_eq_true rfl) dX4_highestReference_10 rfl (gBackR [] rfl ?_)
  rintro _ rfl
  refine g_st (st' := [.int (nI (kd (num (cut b cnt) (a + 4) 4)))]) rfl ?_
  refine g_istore (pc' := 15) hE [(4, .int (nI (kd (num (cut b cnt) (a + 4) 4)))), (2, .long (lN (num (cut b cnt) (a + 4) 4))), (0, .ref t0), (1, .int (nI a))] dX4_highestReference_13 rfl (by decide) rfl ?_
  refine g_lload_n (pc' := 16) hE 1 rfl rfl dX4_highestReference_15 rfl ?_
  refine g_callS (pc' := 19) (As := [.long (lN (num (cut b cnt) (a + 4) 4))]) (rest := []) hE (qX1_words l D T (num (cut b cnt) (a + 4) 4) hi4) mX1_words kX4_60 iX1_words (by omega) rfl (by omega) [] rfl (by decide) rfl (Nat.le_of_ble_eq_true rfl) dX4_highestReference_16 rfl (gBackR [] rfl ?_)
  rintro _ rfl
  refine g_st (st' := [.int (nI (wds (num (cut b cnt) (a + 4) 4)))]) rfl ?_
  refine g_istore (pc' := 21) hE [(5, .int (nI (wds (num (cut b cnt) (a + 4) 4)))), (4, .int (nI (kd (num (cut b cnt) (a + 4) 4)))), (2, .long (lN (num (cut b cnt) (a + 4) 4))), (0, .ref t0), (1, .int (nI a))] dX4_highestReference_19 rfl (by decide) rfl ?_
  refine g_lconst (pc' := 22) hE (lN 0) (by decide) dX4_highestReference_21 rfl ?_
  refine g_lstore (pc' := 24) hE [(6, .long (lN 0)), (5, .int (nI (wds (num (cut b cnt) (a + 4) 4)))), (4, .int (nI (kd (num (cut b cnt) (a + 4) 4)))), (2, .long (lN (num (cut b cnt) (a + 4) 4))), (0, .ref t0), (1, .int (nI a))] dX4_highestReference_22 rfl (by decide) rfl ?_
  refine g_iconst (pc' := 25) hE (nI 0) (by decide) dX4_highestReference_24 rfl ?_
  refine g_istore (pc' := 27) hE [(8, .int (nI 0)), (6, .long (lN 0)), (5, .int (nI (wds (num (cut b cnt) (a + 4) 4)))), (4, .int (nI (kd (num (cut b cnt) (a + 4) 4)))), (2, .long (lN (num (cut b cnt) (a + 4) 4))), (0, .ref t0), (1, .int (nI a))] dX4_highestReference_25 rfl (by decide) rfl ?_
  refine (show ∀ (d27 : Nat) (w : Nat), wds (num (cut b cnt) (a + 4) 4) - w = d27 → (w ≤ wds (num (cut b cnt) (a + 4) 4)) → G l E D 9 0 0 [(t0, .inr (4, [.int (nI 8192), .ref t1, .int (nI cnt)])), (t1, .inl (T 1, ((8192 + 7) / 8), .inr (.inl (pack b))))] [(8, .int (nI w)), (6, .long (lN (hiW (cut b cnt) a (kd (num (cut b cnt) (a + 4) 4)) w))), (5, .int (nI (wds (num (cut b cnt) (a + 4) 4)))), (4, .int (nI (kd (num (cut b cnt) (a + 4) 4)))), (2, .long (lN (num (cut b cnt) (a + 4) 4))), (0, .ref t0), (1, .int (nI a))] 27 [] from ?_) _ 0 rfl (by omega)
  intro d27
  induction d27 using Nat.strongRecOn with
  | _ d27 ih27 =>
  intro w hd27 hw
  refine g_iload (pc' := 29) hE 0 rfl dX4_highestReference_27 rfl ?_
  refine g_iload (pc' := 31) hE 2 rfl dX4_highestReference_29 rfl ?_
  refine g_icmpN_ge (pc' := 34) (tgt := 69) hE (by omega) (by omega) dX4_highestReference_31 rfl rfl (fun hc31 => ?_) (fun hc31 => ?_)
  · refine g_lload (pc' := 71) hE 1 rfl dX4_highestReference_69 rfl ?_
    exact hE.lret (⟨rfl, by rw [show w = wds (num (cut b cnt) (a + 4) 4) by omega]; rfl⟩) (by omega) (by omega) dX4_highestReference_71
  · refine g_iload (pc' := 36) hE 3 rfl dX4_highestReference_34 rfl ?_
    refine g_iload (pc' := 38) hE 0 rfl dX4_highestReference_36 rfl ?_
    refine g_callS (pc' := 41) (As := [.int (nI (kd (num (cut b cnt) (a + 4) 4))), .int (nI w)]) (rest := []) hE (qX1_role l D T (kd (num (cut b cnt) (a + 4) 4)) w (by omega) (by omega)) mX1_role kX4_115 iX1_role (by omega) rfl (by omega) [] rfl (by decide) rfl (Nat.le_of_ble_eq_true rfl) dX4_highestReference_38 rfl (gBackR [] rfl ?_)
    rintro _ rfl
    refine g_st (st' := [.int (nI (rl (kd (num (cut b cnt) (a + 4) 4)) w))]) rfl ?_
    have hrl := rl_le (kd (num (cut b cnt) (a + 4) 4)) w
    refine g_iconst (pc' := 42) hE (nI 2) (by decide) dX4_highestReference_41 rfl ?_
    refine g_icmpN_ne (pc' := 45) (tgt := 63) hE (by omega) (by omega) dX4_highestReference_42 rfl rfl (fun hc42 => ?_) (fun hc42 => ?_)
    · refine g_lvw (lv' := [(8, .int (nI w)), (6, .long (lN (hiW (cut b cnt) a (kd (num (cut b cnt) (a + 4) 4)) (w + 1)))), (5, .int (nI (wds (num (cut b cnt) (a + 4) 4)))), (4, .int (nI (kd (num (cut b cnt) (a + 4) 4)))), (2, .long (lN (num (cut b cnt) (a + 4) 4))), (0, .ref t0), (1, .int (nI a))]) (by rw [show hiW (cut b cnt) a (kd (num (cut b cnt) (a + 4) 4)) (w + 1) = hiW (cut b cnt) a (kd (num (cut b cnt) (a + 4) 4)) w from if_neg hc42]) ?_
      refine g_iinc (pc' := 66) hE (nI (w + 1)) [(8, .int (nI (w + 1))), (6, .long (lN (hiW (cut b cnt) a (kd (num (cut b cnt) (a + 4) 4)) (w + 1)))), (5, .int (nI (wds (num (cut b cnt) (a + 4) 4)))), (4, .int (nI (kd (num (cut b cnt) (a + 4) 4)))), (2, .long (lN (num (cut b cnt) (a + 4) 4))), (0, .ref t0), (1, .int (nI a))] 0 rfl dX4_highestReference_63 rfl (g_incN _ 1) (by decide) rfl ?_
      refine g_goto (tgt := 27) hE dX4_highestReference_66 rfl ?_
      exact ih27 _ (by omega) (w + 1) rfl (by omega)
    · refine g_lload (pc' := 47) hE 1 rfl dX4_highestReference_45 rfl ?_
      refine g_aload_n (pc' := 48) hE 5 rfl rfl dX4_highestReference_47 rfl ?_
      refine g_iload_n (pc' := 49) hE 6 rfl rfl dX4_highestReference_48 rfl ?_
      refine g_iconst (pc' := 50) hE (nI 4) (by decide) dX4_highestReference_49 rfl ?_
      refine g_iload (pc' := 52) hE 0 rfl dX4_highestReference_50 rfl ?_
      refine g_imul (pc' := 53) hE dX4_highestReference_52 rfl ?_
      refine g_eqi (show _ = nI (4 * w) from pk_mul _ _) ?_
      refine g_iadd (pc' := 54) hE dX4_highestReference_53 rfl ?_
      refine g_eqi (show _ = nI (a + 4 * w) from nI_add _ _) ?_
      refine g_iconst (pc' := 55) hE (nI 4) (by decide) dX4_highestReference_54 rfl ?_
      refine g_callV (pc' := 58) (As := [.int (nI (a + 4 * w)), .int (nI 4)]) (rest := [.long (lN (hiW (cut b cnt) a (kd (num (cut b cnt) (a + 4) 4)) w))]) hE (qX5_number l D T t0 t1 8192 cnt b (a + 4 * w) 4 (by decide) hc hb (by omega) (by decide)) mX5_number kX4_31 iX5_number sX5_number (by omega) rfl (by omega) 0 rfl rfl [0, 1] rfl (by decide) rfl (Nat.le_of_ble_eq_true rfl) dX4_highestReference_55 rfl (gBackR [0, 1] rfl ?_)
      rintro _ rfl
      refine g_st (st' := [.long (lN (num (cut b cnt) (a + 4 * w) 4)), .long (lN (hiW (cut b cnt) a (kd (num (cut b cnt) (a + 4) 4)) w))]) rfl ?_
      have hi5 := num4_lt hct (a + 4 * w)
      have hi6 := hiW_lt hct a (kd (num (cut b cnt) (a + 4) 4)) w
      refine g_maxL (pc' := 61) hE (by omega) (by omega) kX4_54 (by omega) (by omega) (by omega) (Nat.le_of_ble_eq_true rfl) dX4_highestReference_58 rfl ?_
      refine g_eql (show _ = lN (hiW (cut b cnt) a (kd (num (cut b cnt) (a + 4) 4)) (w + 1)) from by rw [show hiW (cut b cnt) a (kd (num (cut b cnt) (a + 4) 4)) (w + 1) = max (hiW (cut b cnt) a (kd (num (cut b cnt) (a + 4) 4)) w) (num (cut b cnt) (a + 4 * w) 4) from if_pos hc42]) ?_
      refine g_lstore (pc' := 63) hE [(6, .long (lN (hiW (cut b cnt) a (kd (num (cut b cnt) (a + 4) 4)) (w + 1)))), (8, .int (nI w)), (5, .int (nI (wds (num (cut b cnt) (a + 4) 4)))), (4, .int (nI (kd (num (cut b cnt) (a + 4) 4)))), (2, .long (lN (num (cut b cnt) (a + 4) 4))), (0, .ref t0), (1, .int (nI a))] dX4_highestReference_61 rfl (by decide) rfl ?_
      refine g_iinc (pc' := 66) hE (nI (w + 1)) [(8, .int (nI (w + 1))), (6, .long (lN (hiW (cut b cnt) a (kd (num (cut b cnt) (a + 4) 4)) (w + 1)))), (5, .int (nI (wds (num (cut b cnt) (a + 4) 4)))), (4, .int (nI (kd (num (cut b cnt) (a + 4) 4)))), (2, .long (lN (num (cut b cnt) (a + 4) 4))), (0, .ref t0), (1, .int (nI a))] 1 rfl dX4_highestReference_63 rfl (g_incN _ 1) (by decide) rfl ?_
      refine g_goto (tgt := 27) hE dX4_highestReference_66 rfl ?_
      exact ih27 _ (by omega) (w + 1) rfl (by omega)

set_option maxHeartbeats 4000000 in
set_option maxRecDepth 100000 in
theorem qX4_headError (l : Launch) (D : va_G) (T : Nat → ClassId) (t0 t1 cnt : Nat) (b : Nat → Nat) (hc : cnt ≤ 8192) (hb : ∀ i, b i < 256) : Con l D T yX4_headError cX4_headError 5 (some .int) 3 0 0 [.ref t0] [(t0, .inr (4, [.int (nI 8192), .ref t1, .int (nI cnt)])), (t1, .inl (T 1, ((8192 + 7) / 8), .inr (.inl (pack b))))] (fun v w1 => w1 = [(t0, .inr (4, [.int (nI 8192), .ref t1, .int (nI cnt)])), (t1, .inl (T 1, ((8192 + 7) / 8), .inr (.inl (pack b))))] ∧ v = some (.int (nI (headE (cut b cnt) cnt)))) := by
  refine Con.of (by decide) (Nat.le_of_ble_eq_true rfl) ?_
  intro E hE
  have hct := cut_lt (c := cnt) hb
  have n1 := num_lt hct 0 2
  have n2 := num4_lt hct 4
  have n3 := num4_lt hct 8
  have n4 := num4_lt hct 12
  have n5 := num4_lt hct 16
  have n6 := num4_lt hct 20
  have a2 := hct 2
  have a3 := hct 3
  have a4 := hct (24 + num (cut b cnt) 12 4)
  have a5 := hct (cnt - 1)
  refine g_lv (lv' := [(0, .ref t0)]) [0] rfl ?_
  refine g_aload_n (pc' := 1) hE 0 rfl rfl dX4_headError_0 rfl ?_
  refine g_callV (pc' := 4) (As := []) (rest := []) hE (qX5_count l D T t0 t1 8192 cnt b) mX5_count kX4_25 iX5_count sX5_count (by omega) rfl (by omega) 0 rfl rfl [0, 1] rfl (by decide) rfl (Nat.le_of_ble_eq_true rfl) dX4_headError_1 rfl (gBackR [0, 1] rfl ?_)
  rintro _ rfl
  refine g_st (st' := [.int (nI cnt)]) rfl ?_
  refine g_bipush (pc' := 6) hE (nI 24) (by decide) dX4_headError_4 rfl ?_
  refine g_icmpN_lt (pc' := 9) (tgt := 64) hE (by omega) (by omega) dX4_headError_6 rfl rfl (fun hc6 => ?_) (fun hc6 => ?_)
  · refine g_iconst (pc' := 65) hE (nI 1) (by decide) dX4_headError_64 rfl ?_
    exact hE.iret (⟨rfl, by unfold headE; rw [if_pos (by omega)]⟩) (by omega) (by omega) dX4_headError_65
  · refine g_aload_n (pc' := 10) hE 0 rfl rfl dX4_headError_9 rfl ?_
    refine g_iconst (pc' := 11) hE (nI 0) (by decide) dX4_headError_10 rfl ?_
    refine g_iconst (pc' := 12) hE (nI 2) (by decide) dX4_headError_11 rfl ?_
    refine g_callV (pc' := 15) (As := [.int (nI 0), .int (nI 2)]) (rest := []) hE (qX5_number l D T t0 t1 8192 cnt b 0 2 (by decide) hc hb (by decide) (by decide)) mX5_number kX4_31 iX5_number sX5_number (by omega) rfl (by omega) 0 rfl rfl [0, 1] rfl (by decide) rfl (Nat.le_of_ble_eq_true rfl) dX4_headError_12 rfl (gBackR [0, 1] rfl ?_)
    rintro _ rfl
    refine g_st (st' := [.long (lN (num (cut b cnt) 0 2))]) rfl ?_
    refine g_ldc2 (pc' := 18) hE (v := lN 60319) kX4_35 dX4_headError_15 rfl ?_
    refine g_lcmp (pc' := 19) hE dX4_headError_18 rfl ?_
    refine g_ifcN_ne (pc' := 22) (tgt := 64) hE (by omega) (by omega) dX4_headError_19 rfl rfl (fun hc19 => ?_) (fun hc19 => ?_)
    · refine g_iconst (pc' := 65) hE (nI 1) (by decide) dX4_headError_64 rfl ?_
      exact hE.iret (⟨rfl, by unfold headE; rw [if_pos (by omega)]⟩) (by omega) (by omega) dX4_headError_65
    · refine g_aload_n (pc' := 23) hE 0 rfl rfl dX4_headError_22 rfl ?_
      refine g_iconst (pc' := 24) hE (nI 2) (by decide) dX4_headError_23 rfl ?_
      refine g_callV (pc' := 27) (As := [.int (nI 2)]) (rest := []) hE (qX5_at l D T t0 t1 8192 cnt b 2 (by decide) hc hb (by decide)) mX5_at kX4_37 iX5_at sX5_at (by omega) rfl (by omega) 0 rfl rfl [0, 1] rfl (by decide) rfl (Nat.le_of_ble_eq_true rfl) dX4_headError_24 rfl (gBackR [0, 1] rfl ?_)
      rintro _ rfl
      refine g_st (st' := [.int (nI (cut b cnt 2))]) rfl ?_
      refine g_iconst (pc' := 28) hE (nI 1) (by decide) dX4_headError_27 rfl ?_
      refine g_icmpN_ne (pc' := 31) (tgt := 64) hE (by omega) (by omega) dX4_headError_28 rfl rfl (fun hc28 => ?_) (fun hc28 => ?_)
      · refine g_iconst (pc' := 65) hE (nI 1) (by decide) dX4_headError_64 rfl ?_
        exact hE.iret (⟨rfl, by unfold headE; rw [if_pos (by omega)]⟩) (by omega) (by omega) dX4_headError_65
      · refine g_aload_n (pc' := 32) hE 0 rfl rfl dX4_headError_31 rfl ?_
        refine g_iconst (pc' := 33) hE (nI 3) (by decide) dX4_headError_32 rfl ?_
        refine g_callV (pc' := 36) (As := [.int (nI 3)]) (rest := []) hE (qX5_at l D T t0 t1 8192 cnt b 3 (by decide) hc hb (by decide)) mX5_at kX4_37 iX5_at sX5_at (by omega) rfl (by omega) 0 rfl rfl [0, 1] rfl (by decide) rfl (Nat.le_of_ble_eq_true rfl) dX4_headError_33 rfl (gBackR [0, 1] rfl ?_)
        rintro _ rfl
        refine g_st (st' := [.int (nI (cut b cnt 3))]) rfl ?_
        refine g_ifN_ne (pc' := 39) (tgt := 64) hE (by omega) dX4_headError_36 rfl rfl (fun hc36 => ?_) (fun hc36 => ?_)
        · refine g_iconst (pc' := 65) hE (nI 1) (by decide) dX4_headError_64 rfl ?_
          exact hE.iret (⟨rfl, by unfold headE; rw [if_pos (by omega)]⟩) (by omega) (by omega) dX4_headError_65
        · refine g_aload_n (pc' := 40) hE 0 rfl rfl dX4_headError_39 rfl ?_
          refine g_iconst (pc' := 41) hE (nI 4) (by decide) dX4_headError_40 rfl ?_
          refine g_iconst (pc' := 42) hE (nI 4) (by decide) dX4_headError_41 rfl ?_
          refine g_callV (pc' := 45) (As := [.int (nI 4), .int (nI 4)]) (rest := []) hE (qX5_number l D T t0 t1 8192 cnt b 4 4 (by decide) hc hb (by decide) (by decide)) mX5_number kX4_31 iX5_number sX5_number (by omega) rfl (by omega) 0 rfl rfl [0, 1] rfl (by decide) rfl (Nat.le_of_ble_eq_true rfl) dX4_headError_42 rfl (gBackR [0, 1] rfl ?_)
          rintro _ rfl
          refine g_st (st' := [.long (lN (num (cut b cnt) 4 4))]) rfl ?_
          refine g_ldc2 (pc' := 48) hE (v := lN 24) kX4_41 dX4_headError_45 rfl ?_
          refine g_lcmp (pc' := 49) hE dX4_headError_48 rfl ?_
          refine g_ifcN_ne (pc' := 52) (tgt := 64) hE (by omega) (by omega) dX4_headError_49 rfl rfl (fun hc49 => ?_) (fun hc49 => ?_)
          · refine g_iconst (pc' := 65) hE (nI 1) (by decide) dX4_headError_64 rfl ?_
            exact hE.iret (⟨rfl, by unfold headE; rw [if_pos (by omega)]⟩) (by omega) (by omega) dX4_headError_65
          · refine g_aload_n (pc' := 53) hE 0 rfl rfl dX4_headError_52 rfl ?_
            refine g_bipush (pc' := 55) hE (nI 8) (by decide) dX4_headError_53 rfl ?_
            refine g_iconst (pc' := 56) hE (nI 4) (by decide) dX4_headError_55 rfl ?_
            refine g_callV (pc' := 59) (As := [.int (nI 8), .int (nI 4)]) (rest := []) hE (qX5_number l D T t0 t1 8192 cnt b 8 4 (by decide) hc hb (by decide) (by decide)) mX5_number kX4_31 iX5_number sX5_number (by omega) rfl (by omega) 0 rfl rfl [0, 1] rfl (by decide) rfl (Nat.le_of_ble_eq_true rfl) dX4_headError_56 rfl (gBackR [0, 1] rfl ?_)
            rintro _ rfl
            refine g_st (st' := [.long (lN (num (cut b cnt) 8 4))]) rfl ?_
            refine g_lconst (pc' := 60) hE (lN 0) (by decide) dX4_headError_59 rfl ?_
            refine g_lcmp (pc' := 61) hE dX4_headError_60 rfl ?_
            refine g_ifcN_eq (pc' := 64) (tgt := 66) hE (by omega) (by omega) dX4_headError_61 rfl rfl (fun hc61 => ?_) (fun hc61 => ?_)
            · refine g_aload_n (pc' := 67) hE 0 rfl rfl dX4_headError_66 rfl ?_
              refine g_bipush (pc' := 69) hE (nI 12) (by decide) dX4_headError_67 rfl ?_
              refine g_iconst (pc' := 70) hE (nI 4) (by decide) dX4_headError_69 rfl ?_
              refine g_callV (pc' := 73) (As := [.int (nI 12), .int (nI 4)]) (rest := []) hE (qX5_number l D T t0 t1 8192 cnt b 12 4 (by decide) hc hb (by decide) (by decide)) mX5_number kX4_31 iX5_number sX5_number (by omega) rfl (by omega) 0 rfl rfl [0, 1] rfl (by decide) rfl (Nat.le_of_ble_eq_true rfl) dX4_headError_70 rfl (gBackR [0, 1] rfl ?_)
              rintro _ rfl
              refine g_st (st' := [.long (lN (num (cut b cnt) 12 4))]) rfl ?_
              refine g_lstore_n (pc' := 74) hE [(1, .long (lN (num (cut b cnt) 12 4))), (0, .ref t0)] dX4_headError_73 rfl rfl (by decide) rfl ?_
              refine g_aload_n (pc' := 75) hE 1 rfl rfl dX4_headError_74 rfl ?_
              refine g_bipush (pc' := 77) hE (nI 20) (by decide) dX4_headError_75 rfl ?_
              refine g_iconst (pc' := 78) hE (nI 4) (by decide) dX4_headError_77 rfl ?_
              refine g_callV (pc' := 81) (As := [.int (nI 20), .int (nI 4)]) (rest := []) hE (qX5_number l D T t0 t1 8192 cnt b 20 4 (by decide) hc hb (by decide) (by decide)) mX5_number kX4_31 iX5_number sX5_number (by omega) rfl (by omega) 0 rfl rfl [0, 1] rfl (by decide) rfl (Nat.le_of_ble_eq_true rfl) dX4_headError_78 rfl (gBackR [0, 1] rfl ?_)
              rintro _ rfl
              refine g_st (st' := [.long (lN (num (cut b cnt) 20 4))]) rfl ?_
              refine g_lstore_n (pc' := 82) hE [(3, .long (lN (num (cut b cnt) 20 4))), (1, .long (lN (num (cut b cnt) 12 4))), (0, .ref t0)] dX4_headError_81 rfl rfl (by decide) rfl ?_
              refine g_aload_n (pc' := 83) hE 2 rfl rfl dX4_headError_82 rfl ?_
              refine g_bipush (pc' := 85) hE (nI 16) (by decide) dX4_headError_83 rfl ?_
              refine g_iconst (pc' := 86) hE (nI 4) (by decide) dX4_headError_85 rfl ?_
              refine g_callV (pc' := 89) (As := [.int (nI 16), .int (nI 4)]) (rest := []) hE (qX5_number l D T t0 t1 8192 cnt b 16 4 (by decide) hc hb (by decide) (by decide)) mX5_number kX4_31 iX5_number sX5_number (by omega) rfl (by omega) 0 rfl rfl [0, 1] rfl (by decide) rfl (Nat.le_of_ble_eq_true rfl) dX4_headError_86 rfl (gBackR [0, 1] rfl ?_)
              rintro _ rfl
              refine g_st (st' := [.long (lN (num (cut b cnt) 16 4))]) rfl ?_
              refine g_lload_n (pc' := 90) hE 1 rfl rfl dX4_headError_89 rfl ?_
              refine g_lcmp (pc' := 91) hE dX4_headError_90 rfl ?_
              refine g_ifcN_ne (pc' := 94) (tgt := 116) hE (by omega) (by omega) dX4_headError_91 rfl rfl (fun hc91 => ?_) (fun hc91 => ?_)
              · refine g_iconst (pc' := 117) hE (nI 2) (by decide) dX4_headError_116 rfl ?_
                exact hE.iret (⟨rfl, by unfold headE; rw [if_neg (by omega), if_pos (by omega)]⟩) (by omega) (by omega) dX4_headError_117
              · refine g_aload_n (pc' := 95) hE 2 rfl rfl dX4_headError_94 rfl ?_
                refine g_callV (pc' := 98) (As := []) (rest := []) hE (qX5_count l D T t0 t1 8192 cnt b) mX5_count kX4_25 iX5_count sX5_count (by omega) rfl (by omega) 0 rfl rfl [0, 1] rfl (by decide) rfl (Nat.le_of_ble_eq_true rfl) dX4_headError_95 rfl (gBackR [0, 1] rfl ?_)
                rintro _ rfl
                refine g_st (st' := [.int (nI cnt)]) rfl ?_
                refine g_i2l (pc' := 99) hE (lN cnt) (nI_l (by omega)) dX4_headError_98 rfl ?_
                refine g_ldc2 (pc' := 102) hE (v := lN 24) kX4_41 dX4_headError_99 rfl ?_
                refine g_lload_n (pc' := 103) hE 1 rfl rfl dX4_headError_102 rfl ?_
                refine g_ladd (pc' := 104) hE dX4_headError_103 rfl ?_
                refine g_eql (show _ = lN (24 + num (cut b cnt) 12 4) from lN_add _ _) ?_
                refine g_lload_n (pc' := 105) hE 0 rfl rfl dX4_headError_104 rfl ?_
                refine g_ladd (pc' := 106) hE dX4_headError_105 rfl ?_
                refine g_eql (show _ = lN (24 + num (cut b cnt) 12 4 + num (cut b cnt) 20 4) from lN_add _ _) ?_
                refine g_lcmp (pc' := 107) hE dX4_headError_106 rfl ?_
                refine g_ifcN_ne (pc' := 110) (tgt := 116) hE (by omega) (by omega) dX4_headError_107 rfl rfl (fun hc107 => ?_) (fun hc107 => ?_)
                · refine g_iconst (pc' := 117) hE (nI 2) (by decide) dX4_headError_116 rfl ?_
                  exact hE.iret (⟨rfl, by unfold headE; rw [if_neg (by omega), if_pos (by omega)]⟩) (by omega) (by omega) dX4_headError_117
                · refine g_lload_n (pc' := 111) hE 0 rfl rfl dX4_headError_110 rfl ?_
                  refine g_lconst (pc' := 112) hE (lN 0) (by decide) dX4_headError_111 rfl ?_
                  refine g_lcmp (pc' := 113) hE dX4_headError_112 rfl ?_
                  refine g_ifcN_ne (pc' := 116) (tgt := 118) hE (by omega) (by omega) dX4_headError_113 rfl rfl (fun hc113 => ?_) (fun hc113 => ?_)
                  · refine g_aload_n (pc' := 119) hE 2 rfl rfl dX4_headError_118 rfl ?_
                    refine g_bipush (pc' := 121) hE (nI 24) (by decide) dX4_headError_119 rfl ?_
                    refine g_lload_n (pc' := 122) hE 1 rfl rfl dX4_headError_121 rfl ?_
                    refine g_l2i (pc' := 123) hE (nI (num (cut b cnt) 12 4)) (lN_i _) dX4_headError_122 rfl ?_
                    refine g_iadd (pc' := 124) hE dX4_headError_123 rfl ?_
                    refine g_eqi (show _ = nI (24 + num (cut b cnt) 12 4) from nI_add _ _) ?_
                    refine g_callV (pc' := 127) (As := [.int (nI (24 + num (cut b cnt) 12 4))]) (rest := []) hE (qX5_at l D T t0 t1 8192 cnt b (24 + num (cut b cnt) 12 4) (by decide) hc hb (by omega)) mX5_at kX4_37 iX5_at sX5_at (by omega) rfl (by omega) 0 rfl rfl [0, 1] rfl (by decide) rfl (Nat.le_of_ble_eq_true rfl) dX4_headError_124 rfl (gBackR [0, 1] rfl ?_)
                    rintro _ rfl
                    refine g_st (st' := [.int (nI (cut b cnt (24 + num (cut b cnt) 12 4)))]) rfl ?_
                    refine g_ifN_ne (pc' := 130) (tgt := 143) hE (by omega) dX4_headError_127 rfl rfl (fun hc127 => ?_) (fun hc127 => ?_)
                    · refine g_iconst (pc' := 144) hE (nI 2) (by decide) dX4_headError_143 rfl ?_
                      refine g_goto (tgt := 148) hE dX4_headError_144 rfl ?_
                      exact hE.iret (⟨rfl, by unfold headE; rw [if_neg (by omega), if_neg (by omega)]; first | rw [if_pos (by omega)] | rw [if_neg (by omega)]⟩) (by omega) (by omega) dX4_headError_148
                    · refine g_aload_n (pc' := 131) hE 2 rfl rfl dX4_headError_130 rfl ?_
                      refine g_aload_n (pc' := 132) hE 2 rfl rfl dX4_headError_131 rfl ?_
                      refine g_callV (pc' := 135) (As := []) (rest := [.ref t0]) hE (qX5_count l D T t0 t1 8192 cnt b) mX5_count kX4_25 iX5_count sX5_count (by omega) rfl (by omega) 0 rfl rfl [0, 1] rfl (by decide) rfl (Nat.le_of_ble_eq_true rfl) dX4_headError_132 rfl (gBackR [0, 1] rfl ?_)
                      rintro _ rfl
                      refine g_st (st' := [.int (nI cnt), .ref t0]) rfl ?_
                      refine g_iconst (pc' := 136) hE (nI 1) (by decide) dX4_headError_135 rfl ?_
                      refine g_isub (pc' := 137) hE dX4_headError_136 rfl ?_
                      refine g_eqi (show _ = nI (cnt - 1) from pk_sub (by omega)) ?_
                      refine g_callV (pc' := 140) (As := [.int (nI (cnt - 1))]) (rest := []) hE (qX5_at l D T t0 t1 8192 cnt b (cnt - 1) (by decide) hc hb (by omega)) mX5_at kX4_37 iX5_at sX5_at (by omega) rfl (by omega) 0 rfl rfl [0, 1] rfl (by decide) rfl (Nat.le_of_ble_eq_true rfl) dX4_headError_137 rfl (gBackR [0, 1] rfl ?_)
                      rintro _ rfl
                      refine g_st (st' := [.int (nI (cut b cnt (cnt - 1)))]) rfl ?_
                      refine g_ifN_eq (pc' := 143) (tgt := 147) hE (by omega) dX4_headError_140 rfl rfl (fun hc140 => ?_) (fun hc140 => ?_)
                      · refine g_iconst (pc' := 148) hE (nI 0) (by decide) dX4_headError_147 rfl ?_
                        exact hE.iret (⟨rfl, by unfold headE; rw [if_neg (by omega), if_neg (by omega)]; first | rw [if_pos (by omega)] | rw [if_neg (by omega)]⟩) (by omega) (by omega) dX4_headError_148
                      · refine g_iconst (pc' := 144) hE (nI 2) (by decide) dX4_headError_143 rfl ?_
                        refine g_goto (tgt := 148) hE dX4_headError_144 rfl ?_
                        exact hE.iret (⟨rfl, by unfold headE; rw [if_neg (by omega), if_neg (by omega)]; first | rw [if_pos (by omega)] | rw [if_neg (by omega)]⟩) (by omega) (by omega) dX4_headError_148
                  · refine g_iconst (pc' := 117) hE (nI 2) (by decide) dX4_headError_116 rfl ?_
                    exact hE.iret (⟨rfl, by unfold headE; rw [if_neg (by omega), if_pos (by omega)]⟩) (by omega) (by omega) dX4_headError_117
            · refine g_iconst (pc' := 65) hE (nI 1) (by decide) dX4_headError_64 rfl ?_
              exact hE.iret (⟨rfl, by unfold headE; rw [if_pos (by omega)]⟩) (by omega) (by omega) dX4_headError_65
