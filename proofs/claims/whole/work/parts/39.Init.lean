set_option maxHeartbeats 4000000 in
set_option maxRecDepth 100000 in
theorem qX5_init8 (l : Launch) (D : va_G) (T : Nat → ClassId) (h0 : Nat)  : Con l D T yX5_init cX5_init 2 none 1 1 1024 [.ref h0, .int (nI 8192)] [(h0, .inr (4, [.int (nI 0), .null, .int (nI 0)]))] (fun r w1 => ∃ a0 : Nat, r = none ∧ w1 = [(h0, .inr (4, [.int (nI 8192), .ref a0, .int (nI 0)])), (a0, .inl (T 1, ((8192 + 7) / 8), .inr (.inl (pack (fun _ => 0)))))]) := by
  refine Con.of (by decide) (Nat.le_of_ble_eq_true rfl) ?_
  intro E hE
  refine g_lv (lv' := [(0, .ref h0), (1, .int (nI 8192))]) [0, 1] rfl ?_
  refine g_aload_n (pc' := 1) hE 0 rfl rfl dX5_init_0 rfl ?_
  refine g_objInit (pc' := 4) hE kX5_1 kO_i kO_c (by decide) (Nat.le_of_ble_eq_true rfl) dX5_init_1 rfl ?_
  refine g_aload_n (pc' := 5) hE 0 rfl rfl dX5_init_4 rfl ?_
  refine g_iload_n (pc' := 6) hE 1 rfl rfl dX5_init_5 rfl ?_
  refine g_putF (pc' := 9) hE gcX5 0 rfl 0 [(h0, .inr (4, [.int (nI 8192), .null, .int (nI 0)]))] (by decide) (Nat.le_of_ble_eq_true rfl) rfl rfl rfl rfl rfl rfl kX5_7 dX5_init_6 rfl ?_
  refine g_aload_n (pc' := 10) hE 0 rfl rfl dX5_init_9 rfl ?_
  refine g_iload_n (pc' := 11) hE 1 rfl rfl dX5_init_10 rfl ?_
  refine g_bipush (pc' := 13) hE (nI 7) (by decide) dX5_init_11 rfl ?_
  refine g_iadd (pc' := 14) hE dX5_init_13 rfl ?_
  refine g_eqi (show _ = nI 8199 from nI_add _ _) ?_
  refine g_bipush (pc' := 16) hE (nI 8) (by decide) dX5_init_14 rfl ?_
  refine g_idiv (pc' := 17) hE (by decide) dX5_init_16 rfl ?_
  refine g_eqi (show _ = nI ((8192 + 7) / 8) from by decide) ?_
  refine g_newJ (pc' := 19) hE kA_J (by omega) (by omega) (by omega) dX5_init_17 rfl (fun w17 => ?_)
  refine g_w (ws' := [(h0, .inr (4, [.int (nI 8192), .null, .int (nI 0)])), (w17, .inl (T 1, (8192 + 7) / 8, .inr (.inl (pack (fun _ => 0)))))]) (by rw [pack_0]; rfl) ?_
  refine g_widen (n' := 1) (k' := 1024) (by omega) (by omega) ?_
  refine g_putF (pc' := 22) hE gcX5 0 rfl 1 [(h0, .inr (4, [.int (nI 8192), .ref w17, .int (nI 0)])), (w17, .inl (T 1, (8192 + 7) / 8, .inr (.inl (pack (fun _ => 0)))))] (by decide) (Nat.le_of_ble_eq_true rfl) rfl rfl rfl rfl rfl rfl kX5_13 dX5_init_19 rfl ?_
  refine g_aload_n (pc' := 23) hE 0 rfl rfl dX5_init_22 rfl ?_
  refine g_iconst (pc' := 24) hE (nI 0) (by decide) dX5_init_23 rfl ?_
  refine g_put (pc' := 27) hE gcX5 0 rfl 2 [(h0, .inr (4, [.int (nI 8192), .ref w17, .int (nI 0)])), (w17, .inl (T 1, (8192 + 7) / 8, .inr (.inl (pack (fun _ => 0)))))] (by decide) (Nat.le_of_ble_eq_true rfl) rfl rfl rfl rfl kX5_17 dX5_init_24 rfl ?_
  exact hE.vret (⟨w17, rfl, rfl⟩) (by omega) (by omega) dX5_init_27

set_option maxHeartbeats 4000000 in
set_option maxRecDepth 100000 in
theorem qX5_init16 (l : Launch) (D : va_G) (T : Nat → ClassId) (h0 : Nat)  : Con l D T yX5_init cX5_init 2 none 1 1 2048 [.ref h0, .int (nI 16384)] [(h0, .inr (4, [.int (nI 0), .null, .int (nI 0)]))] (fun r w1 => ∃ a0 : Nat, r = none ∧ w1 = [(h0, .inr (4, [.int (nI 16384), .ref a0, .int (nI 0)])), (a0, .inl (T 1, ((16384 + 7) / 8), .inr (.inl (pack (fun _ => 0)))))]) := by
  refine Con.of (by decide) (Nat.le_of_ble_eq_true rfl) ?_
  intro E hE
  refine g_lv (lv' := [(0, .ref h0), (1, .int (nI 16384))]) [0, 1] rfl ?_
  refine g_aload_n (pc' := 1) hE 0 rfl rfl dX5_init_0 rfl ?_
  refine g_objInit (pc' := 4) hE kX5_1 kO_i kO_c (by decide) (Nat.le_of_ble_eq_true rfl) dX5_init_1 rfl ?_
  refine g_aload_n (pc' := 5) hE 0 rfl rfl dX5_init_4 rfl ?_
  refine g_iload_n (pc' := 6) hE 1 rfl rfl dX5_init_5 rfl ?_
  refine g_putF (pc' := 9) hE gcX5 0 rfl 0 [(h0, .inr (4, [.int (nI 16384), .null, .int (nI 0)]))] (by decide) (Nat.le_of_ble_eq_true rfl) rfl rfl rfl rfl rfl rfl kX5_7 dX5_init_6 rfl ?_
  refine g_aload_n (pc' := 10) hE 0 rfl rfl dX5_init_9 rfl ?_
  refine g_iload_n (pc' := 11) hE 1 rfl rfl dX5_init_10 rfl ?_
  refine g_bipush (pc' := 13) hE (nI 7) (by decide) dX5_init_11 rfl ?_
  refine g_iadd (pc' := 14) hE dX5_init_13 rfl ?_
  refine g_eqi (show _ = nI 16391 from nI_add _ _) ?_
  refine g_bipush (pc' := 16) hE (nI 8) (by decide) dX5_init_14 rfl ?_
  refine g_idiv (pc' := 17) hE (by decide) dX5_init_16 rfl ?_
  refine g_eqi (show _ = nI ((16384 + 7) / 8) from by decide) ?_
  refine g_newJ (pc' := 19) hE kA_J (by omega) (by omega) (by omega) dX5_init_17 rfl (fun w17 => ?_)
  refine g_w (ws' := [(h0, .inr (4, [.int (nI 16384), .null, .int (nI 0)])), (w17, .inl (T 1, (16384 + 7) / 8, .inr (.inl (pack (fun _ => 0)))))]) (by rw [pack_0]; rfl) ?_
  refine g_widen (n' := 1) (k' := 2048) (by omega) (by omega) ?_
  refine g_putF (pc' := 22) hE gcX5 0 rfl 1 [(h0, .inr (4, [.int (nI 16384), .ref w17, .int (nI 0)])), (w17, .inl (T 1, (16384 + 7) / 8, .inr (.inl (pack (fun _ => 0)))))] (by decide) (Nat.le_of_ble_eq_true rfl) rfl rfl rfl rfl rfl rfl kX5_13 dX5_init_19 rfl ?_
  refine g_aload_n (pc' := 23) hE 0 rfl rfl dX5_init_22 rfl ?_
  refine g_iconst (pc' := 24) hE (nI 0) (by decide) dX5_init_23 rfl ?_
  refine g_put (pc' := 27) hE gcX5 0 rfl 2 [(h0, .inr (4, [.int (nI 16384), .ref w17, .int (nI 0)])), (w17, .inl (T 1, (16384 + 7) / 8, .inr (.inl (pack (fun _ => 0)))))] (by decide) (Nat.le_of_ble_eq_true rfl) rfl rfl rfl rfl kX5_17 dX5_init_24 rfl ?_
  exact hE.vret (⟨w17, rfl, rfl⟩) (by omega) (by omega) dX5_init_27

set_option maxHeartbeats 4000000 in
set_option maxRecDepth 100000 in
theorem qX4_init (l : Launch) (D : va_G) (T : Nat → ClassId) (h0 : Nat)  : Con l D T yX4_init cX4_init 1 none 1 0 0 [.ref h0] [(h0, .inr (3, [.int (nI 0), .int (nI 0), .int (nI 0)]))] (fun r w1 => r = none ∧ w1 = [(h0, .inr (3, [.int (nI 0), .int (nI 0), .int (nI 0)]))]) := by
  refine Con.of (by decide) (Nat.le_of_ble_eq_true rfl) ?_
  intro E hE
  refine g_lv (lv' := [(0, .ref h0)]) [0] rfl ?_
  refine g_aload_n (pc' := 1) hE 0 rfl rfl dX4_init_0 rfl ?_
  refine g_objInit (pc' := 4) hE kX4_3 kO_i kO_c (by decide) (Nat.le_of_ble_eq_true rfl) dX4_init_1 rfl ?_
  exact hE.vret (⟨rfl, rfl⟩) (Nat.zero_le _) (Nat.zero_le _) dX4_init_4

set_option maxHeartbeats 4000000 in
set_option maxRecDepth 100000 in
theorem qX7_init (l : Launch) (D : va_G) (T : Nat → ClassId) (h0 : Nat)  : Con l D T yX7_init cX7_init 1 none 2 5 1630 [.ref h0] [(h0, .inr (6, [.null, .null, .null, .null, .int (nI 0), .int (nI 0)]))] (fun r w1 => ∃ a0 a1 a2 a3 a4 : Nat, r = none ∧ w1 = [(h0, .inr (6, [.ref a0, .ref a1, .ref a2, .ref a3, .int (nI 0), .int (nI 0)])), (a0, .inl (T 0, 201, .inl (fun z9 => nI ((fun _ => 0) z9)))), (a1, .inl (T 1, 201, .inr (.inl (fun z9 => lN ((fun _ => 0) z9))))), (a2, .inl (T 0, 201, .inl (fun z9 => nI ((fun _ => 0) z9)))), (a3, .inr (4, [.int (nI 8192), .ref a4, .int (nI 0)])), (a4, .inl (T 1, ((8192 + 7) / 8), .inr (.inl (pack (fun _ => 0)))))]) := by
  refine Con.of (by decide) (Nat.le_of_ble_eq_true rfl) ?_
  intro E hE
  refine g_lv (lv' := [(0, .ref h0)]) [0] rfl ?_
  refine g_aload_n (pc' := 1) hE 0 rfl rfl dX7_init_0 rfl ?_
  refine g_objInit (pc' := 4) hE kX7_3 kO_i kO_c (by decide) (Nat.le_of_ble_eq_true rfl) dX7_init_1 rfl ?_
  refine g_aload_n (pc' := 5) hE 0 rfl rfl dX7_init_4 rfl ?_
  refine g_sipush (pc' := 8) hE (nI 201) (by decide) dX7_init_5 rfl ?_
  refine g_newI (pc' := 10) hE kA_I (by omega) (by omega) (by omega) dX7_init_8 rfl (fun w8 => ?_)
  refine g_w (ws' := [(h0, .inr (6, [.null, .null, .null, .null, .int (nI 0), .int (nI 0)])), (w8, .inl (T 0, 201, .inl (fun z9 => nI ((fun _ => 0) z9))))]) rfl ?_
  refine g_widen (n' := 1) (k' := 201) (by omega) (by omega) ?_
  refine g_putF (pc' := 13) hE gcX7 0 rfl 0 [(h0, .inr (6, [.ref w8, .null, .null, .null, .int (nI 0), .int (nI 0)])), (w8, .inl (T 0, 201, .inl (fun z9 => nI ((fun _ => 0) z9))))] (by decide) (Nat.le_of_ble_eq_true rfl) rfl rfl rfl rfl rfl rfl kX7_9 dX7_init_10 rfl ?_
  refine g_aload_n (pc' := 14) hE 0 rfl rfl dX7_init_13 rfl ?_
  refine g_sipush (pc' := 17) hE (nI 201) (by decide) dX7_init_14 rfl ?_
  refine g_newJ (pc' := 19) hE kA_J (by omega) (by omega) (by omega) dX7_init_17 rfl (fun w17 => ?_)
  refine g_w (ws' := [(h0, .inr (6, [.ref w8, .null, .null, .null, .int (nI 0), .int (nI 0)])), (w8, .inl (T 0, 201, .inl (fun z9 => nI ((fun _ => 0) z9)))), (w17, .inl (T 1, 201, .inr (.inl (fun z9 => lN ((fun _ => 0) z9)))))]) rfl ?_
  refine g_widen (n' := 2) (k' := 402) (by omega) (by omega) ?_
  refine g_putF (pc' := 22) hE gcX7 0 rfl 1 [(h0, .inr (6, [.ref w8, .ref w17, .null, .null, .int (nI 0), .int (nI 0)])), (w8, .inl (T 0, 201, .inl (fun z9 => nI ((fun _ => 0) z9)))), (w17, .inl (T 1, 201, .inr (.inl (fun z9 => lN ((fun _ => 0) z9)))))] (by decide) (Nat.le_of_ble_eq_true rfl) rfl rfl rfl rfl rfl rfl kX7_15 dX7_init_19 rfl ?_
  refine g_aload_n (pc' := 23) hE 0 rfl rfl dX7_init_22 rfl ?_
  refine g_sipush (pc' := 26) hE (nI 201) (by decide) dX7_init_23 rfl ?_
  refine g_newI (pc' := 28) hE kA_I (by omega) (by omega) (by omega) dX7_init_26 rfl (fun w26 => ?_)
  refine g_w (ws' := [(h0, .inr (6, [.ref w8, .ref w17, .null, .null, .int (nI 0), .int (nI 0)])), (w8, .inl (T 0, 201, .inl (fun z9 => nI ((fun _ => 0) z9)))), (w17, .inl (T 1, 201, .inr (.inl (fun z9 => lN ((fun _ => 0) z9))))), (w26, .inl (T 0, 201, .inl (fun z9 => nI ((fun _ => 0) z9))))]) rfl ?_
  refine g_widen (n' := 3) (k' := 603) (by omega) (by omega) ?_
  refine g_putF (pc' := 31) hE gcX7 0 rfl 2 [(h0, .inr (6, [.ref w8, .ref w17, .ref w26, .null, .int (nI 0), .int (nI 0)])), (w8, .inl (T 0, 201, .inl (fun z9 => nI ((fun _ => 0) z9)))), (w17, .inl (T 1, 201, .inr (.inl (fun z9 => lN ((fun _ => 0) z9))))), (w26, .inl (T 0, 201, .inl (fun z9 => nI ((fun _ => 0) z9))))] (by decide) (Nat.le_of_ble_eq_true rfl) rfl rfl rfl rfl rfl rfl kX7_19 dX7_init_28 rfl ?_
  refine g_aload_n (pc' := 32) hE 0 rfl rfl dX7_init_31 rfl ?_
  refine g_new (pc' := 35) hE gcX5 (fs := [.int (nI 0), .null, .int (nI 0)]) kX7_22 kN_X5 kI_X5 (by decide) (by omega) (by omega) dX7_init_32 rfl (fun w32 => ?_)
  refine g_w (ws' := [(h0, .inr (6, [.ref w8, .ref w17, .ref w26, .null, .int (nI 0), .int (nI 0)])), (w8, .inl (T 0, 201, .inl (fun z9 => nI ((fun _ => 0) z9)))), (w17, .inl (T 1, 201, .inr (.inl (fun z9 => lN ((fun _ => 0) z9))))), (w26, .inl (T 0, 201, .inl (fun z9 => nI ((fun _ => 0) z9)))), (w32, .inr (4, [.int (nI 0), .null, .int (nI 0)]))]) rfl ?_
  refine g_widen (n' := 4) (k' := 606) (by omega) (by omega) ?_
  refine g_dup (pc' := 36) hE rfl dX7_init_35 rfl ?_
  refine g_sipush (pc' := 39) hE (nI 8192) (by decide) dX7_init_36 rfl ?_
  refine g_callI (pc' := 42) (As := [.int (nI 8192)]) (rest := [.ref w32, .ref h0]) hE (qX5_init8 l D T w32) mX5_init kX7_24 iX5_init rfl (by decide) rfl (by omega) [4] rfl (by decide) rfl (Nat.le_of_ble_eq_true rfl) dX7_init_39 rfl (gBackN (wr := [(h0, .inr (6, [.ref w8, .ref w17, .ref w26, .null, .int (nI 0), .int (nI 0)])), (w8, .inl (T 0, 201, .inl (fun z9 => nI ((fun _ => 0) z9)))), (w17, .inl (T 1, 201, .inr (.inl (fun z9 => lN ((fun _ => 0) z9))))), (w26, .inl (T 0, 201, .inl (fun z9 => nI ((fun _ => 0) z9))))]) [4] [0, 1, 2, 3] rfl rfl (by decide) (by decide) ?_)
  rintro _ _ ⟨wr, rfl, rfl⟩
  refine g_w (ws' := [(h0, .inr (6, [.ref w8, .ref w17, .ref w26, .null, .int (nI 0), .int (nI 0)])), (w8, .inl (T 0, 201, .inl (fun z9 => nI ((fun _ => 0) z9)))), (w17, .inl (T 1, 201, .inr (.inl (fun z9 => lN ((fun _ => 0) z9))))), (w26, .inl (T 0, 201, .inl (fun z9 => nI ((fun _ => 0) z9)))), (w32, .inr (4, [.int (nI 8192), .ref wr, .int (nI 0)])), (wr, .inl (T 1, ((8192 + 7) / 8), .inr (.inl (pack (fun _ => 0)))))]) rfl ?_
  refine g_widen (n' := 5) (k' := 1630) (by omega) (by omega) ?_
  refine g_put (pc' := 45) hE gcX7 0 rfl 3 [(h0, .inr (6, [.ref w8, .ref w17, .ref w26, .ref w32, .int (nI 0), .int (nI 0)])), (w8, .inl (T 0, 201, .inl (fun z9 => nI ((fun _ => 0) z9)))), (w17, .inl (T 1, 201, .inr (.inl (fun z9 => lN ((fun _ => 0) z9))))), (w26, .inl (T 0, 201, .inl (fun z9 => nI ((fun _ => 0) z9)))), (w32, .inr (4, [.int (nI 8192), .ref wr, .int (nI 0)])), (wr, .inl (T 1, ((8192 + 7) / 8), .inr (.inl (pack (fun _ => 0)))))] (by decide) (Nat.le_of_ble_eq_true rfl) rfl rfl rfl rfl kX7_27 dX7_init_42 rfl ?_
  refine g_aload_n (pc' := 46) hE 0 rfl rfl dX7_init_45 rfl ?_
  refine g_iconst (pc' := 47) hE (nI 0) (by decide) dX7_init_46 rfl ?_
  refine g_put (pc' := 50) hE gcX7 0 rfl 4 [(h0, .inr (6, [.ref w8, .ref w17, .ref w26, .ref w32, .int (nI 0), .int (nI 0)])), (w8, .inl (T 0, 201, .inl (fun z9 => nI ((fun _ => 0) z9)))), (w17, .inl (T 1, 201, .inr (.inl (fun z9 => lN ((fun _ => 0) z9))))), (w26, .inl (T 0, 201, .inl (fun z9 => nI ((fun _ => 0) z9)))), (w32, .inr (4, [.int (nI 8192), .ref wr, .int (nI 0)])), (wr, .inl (T 1, ((8192 + 7) / 8), .inr (.inl (pack (fun _ => 0)))))] (by decide) (Nat.le_of_ble_eq_true rfl) rfl rfl rfl rfl kX7_31 dX7_init_47 rfl ?_
  refine g_aload_n (pc' := 51) hE 0 rfl rfl dX7_init_50 rfl ?_
  refine g_iconst (pc' := 52) hE (nI 0) (by decide) dX7_init_51 rfl ?_
  refine g_put (pc' := 55) hE gcX7 0 rfl 5 [(h0, .inr (6, [.ref w8, .ref w17, .ref w26, .ref w32, .int (nI 0), .int (nI 0)])), (w8, .inl (T 0, 201, .inl (fun z9 => nI ((fun _ => 0) z9)))), (w17, .inl (T 1, 201, .inr (.inl (fun z9 => lN ((fun _ => 0) z9))))), (w26, .inl (T 0, 201, .inl (fun z9 => nI ((fun _ => 0) z9)))), (w32, .inr (4, [.int (nI 8192), .ref wr, .int (nI 0)])), (wr, .inl (T 1, ((8192 + 7) / 8), .inr (.inl (pack (fun _ => 0)))))] (by decide) (Nat.le_of_ble_eq_true rfl) rfl rfl rfl rfl kX7_35 dX7_init_52 rfl ?_
  exact hE.vret (⟨w8, w17, w26, w32, wr, rfl, rfl⟩) (by omega) (by omega) dX7_init_55

set_option maxHeartbeats 4000000 in
set_option maxRecDepth 100000 in
theorem qX3_init (l : Launch) (D : va_G) (T : Nat → ClassId) (h0 : Nat)  : Con l D T yX3_init cX3_init 1 none 1 5 3404 [.ref h0] [(h0, .inr (2, [.null, .null, .null, .null, .null, .int (nI 0), .int (nI 0), .int (nI 0)]))] (fun r w1 => ∃ a0 a1 a2 a3 a4 : Nat, r = none ∧ w1 = [(h0, .inr (2, [.ref a0, .ref a1, .ref a2, .ref a3, .ref a4, .int (nI 0), .int (nI 0), .int (nI 1)])), (a0, .inl (T 0, 201, .inl (fun z9 => nI ((fun _ => 0) z9)))), (a1, .inl (T 0, 800, .inl (fun z9 => nI ((fun _ => 0) z9)))), (a2, .inl (T 0, 801, .inl (fun z9 => nI ((fun _ => 0) z9)))), (a3, .inl (T 0, 801, .inl (fun z9 => nI ((fun _ => 0) z9)))), (a4, .inl (T 0, 801, .inl (fun z9 => nI ((fun _ => 0) z9))))]) := by
  refine Con.of (by decide) (Nat.le_of_ble_eq_true rfl) ?_
  intro E hE
  refine g_lv (lv' := [(0, .ref h0)]) [0] rfl ?_
  refine g_aload_n (pc' := 1) hE 0 rfl rfl dX3_init_0 rfl ?_
  refine g_objInit (pc' := 4) hE kX3_3 kO_i kO_c (by decide) (Nat.le_of_ble_eq_true rfl) dX3_init_1 rfl ?_
  refine g_aload_n (pc' := 5) hE 0 rfl rfl dX3_init_4 rfl ?_
  refine g_sipush (pc' := 8) hE (nI 201) (by decide) dX3_init_5 rfl ?_
  refine g_newI (pc' := 10) hE kA_I (by omega) (by omega) (by omega) dX3_init_8 rfl (fun w8 => ?_)
  refine g_w (ws' := [(h0, .inr (2, [.null, .null, .null, .null, .null, .int (nI 0), .int (nI 0), .int (nI 0)])), (w8, .inl (T 0, 201, .inl (fun z9 => nI ((fun _ => 0) z9))))]) rfl ?_
  refine g_widen (n' := 1) (k' := 201) (by omega) (by omega) ?_
  refine g_putF (pc' := 13) hE gcX3 0 rfl 0 [(h0, .inr (2, [.ref w8, .null, .null, .null, .null, .int (nI 0), .int (nI 0), .int (nI 0)])), (w8, .inl (T 0, 201, .inl (fun z9 => nI ((fun _ => 0) z9))))] (by decide) (Nat.le_of_ble_eq_true rfl) rfl rfl rfl rfl rfl rfl kX3_9 dX3_init_10 rfl ?_
  refine g_aload_n (pc' := 14) hE 0 rfl rfl dX3_init_13 rfl ?_
  refine g_sipush (pc' := 17) hE (nI 800) (by decide) dX3_init_14 rfl ?_
  refine g_newI (pc' := 19) hE kA_I (by omega) (by omega) (by omega) dX3_init_17 rfl (fun w17 => ?_)
  refine g_w (ws' := [(h0, .inr (2, [.ref w8, .null, .null, .null, .null, .int (nI 0), .int (nI 0), .int (nI 0)])), (w8, .inl (T 0, 201, .inl (fun z9 => nI ((fun _ => 0) z9)))), (w17, .inl (T 0, 800, .inl (fun z9 => nI ((fun _ => 0) z9))))]) rfl ?_
  refine g_widen (n' := 2) (k' := 1001) (by omega) (by omega) ?_
  refine g_putF (pc' := 22) hE gcX3 0 rfl 1 [(h0, .inr (2, [.ref w8, .ref w17, .null, .null, .null, .int (nI 0), .int (nI 0), .int (nI 0)])), (w8, .inl (T 0, 201, .inl (fun z9 => nI ((fun _ => 0) z9)))), (w17, .inl (T 0, 800, .inl (fun z9 => nI ((fun _ => 0) z9))))] (by decide) (Nat.le_of_ble_eq_true rfl) rfl rfl rfl rfl rfl rfl kX3_15 dX3_init_19 rfl ?_
  refine g_aload_n (pc' := 23) hE 0 rfl rfl dX3_init_22 rfl ?_
  refine g_sipush (pc' := 26) hE (nI 801) (by decide) dX3_init_23 rfl ?_
  refine g_newI (pc' := 28) hE kA_I (by omega) (by omega) (by omega) dX3_init_26 rfl (fun w26 => ?_)
  refine g_w (ws' := [(h0, .inr (2, [.ref w8, .ref w17, .null, .null, .null, .int (nI 0), .int (nI 0), .int (nI 0)])), (w8, .inl (T 0, 201, .inl (fun z9 => nI ((fun _ => 0) z9)))), (w17, .inl (T 0, 800, .inl (fun z9 => nI ((fun _ => 0) z9)))), (w26, .inl (T 0, 801, .inl (fun z9 => nI ((fun _ => 0) z9))))]) rfl ?_
  refine g_widen (n' := 3) (k' := 1802) (by omega) (by omega) ?_
  refine g_putF (pc' := 31) hE gcX3 0 rfl 2 [(h0, .inr (2, [.ref w8, .ref w17, .ref w26, .null, .null, .int (nI 0), .int (nI 0), .int (nI 0)])), (w8, .inl (T 0, 201, .inl (fun z9 => nI ((fun _ => 0) z9)))), (w17, .inl (T 0, 800, .inl (fun z9 => nI ((fun _ => 0) z9)))), (w26, .inl (T 0, 801, .inl (fun z9 => nI ((fun _ => 0) z9))))] (by decide) (Nat.le_of_ble_eq_true rfl) rfl rfl rfl rfl rfl rfl kX3_18 dX3_init_28 rfl ?_
  refine g_aload_n (pc' := 32) hE 0 rfl rfl dX3_init_31 rfl ?_
  refine g_sipush (pc' := 35) hE (nI 801) (by decide) dX3_init_32 rfl ?_
  refine g_newI (pc' := 37) hE kA_I (by omega) (by omega) (by omega) dX3_init_35 rfl (fun w35 => ?_)
  refine g_w (ws' := [(h0, .inr (2, [.ref w8, .ref w17, .ref w26, .null, .null, .int (nI 0), .int (nI 0), .int (nI 0)])), (w8, .inl (T 0, 201, .inl (fun z9 => nI ((fun _ => 0) z9)))), (w17, .inl (T 0, 800, .inl (fun z9 => nI ((fun _ => 0) z9)))), (w26, .inl (T 0, 801, .inl (fun z9 => nI ((fun _ => 0) z9)))), (w35, .inl (T 0, 801, .inl (fun z9 => nI ((fun _ => 0) z9))))]) rfl ?_
  refine g_widen (n' := 4) (k' := 2603) (by omega) (by omega) ?_
  refine g_putF (pc' := 40) hE gcX3 0 rfl 3 [(h0, .inr (2, [.ref w8, .ref w17, .ref w26, .ref w35, .null, .int (nI 0), .int (nI 0), .int (nI 0)])), (w8, .inl (T 0, 201, .inl (fun z9 => nI ((fun _ => 0) z9)))), (w17, .inl (T 0, 800, .inl (fun z9 => nI ((fun _ => 0) z9)))), (w26, .inl (T 0, 801, .inl (fun z9 => nI ((fun _ => 0) z9)))), (w35, .inl (T 0, 801, .inl (fun z9 => nI ((fun _ => 0) z9))))] (by decide) (Nat.le_of_ble_eq_true rfl) rfl rfl rfl rfl rfl rfl kX3_21 dX3_init_37 rfl ?_
  refine g_aload_n (pc' := 41) hE 0 rfl rfl dX3_init_40 rfl ?_
  refine g_sipush (pc' := 44) hE (nI 801) (by decide) dX3_init_41 rfl ?_
  refine g_newI (pc' := 46) hE kA_I (by omega) (by omega) (by omega) dX3_init_44 rfl (fun w44 => ?_)
  refine g_w (ws' := [(h0, .inr (2, [.ref w8, .ref w17, .ref w26, .ref w35, .null, .int (nI 0), .int (nI 0), .int (nI 0)])), (w8, .inl (T 0, 201, .inl (fun z9 => nI ((fun _ => 0) z9)))), (w17, .inl (T 0, 800, .inl (fun z9 => nI ((fun _ => 0) z9)))), (w26, .inl (T 0, 801, .inl (fun z9 => nI ((fun _ => 0) z9)))), (w35, .inl (T 0, 801, .inl (fun z9 => nI ((fun _ => 0) z9)))), (w44, .inl (T 0, 801, .inl (fun z9 => nI ((fun _ => 0) z9))))]) rfl ?_
  refine g_widen (n' := 5) (k' := 3404) (by omega) (by omega) ?_
  refine g_putF (pc' := 49) hE gcX3 0 rfl 4 [(h0, .inr (2, [.ref w8, .ref w17, .ref w26, .ref w35, .ref w44, .int (nI 0), .int (nI 0), .int (nI 0)])), (w8, .inl (T 0, 201, .inl (fun z9 => nI ((fun _ => 0) z9)))), (w17, .inl (T 0, 800, .inl (fun z9 => nI ((fun _ => 0) z9)))), (w26, .inl (T 0, 801, .inl (fun z9 => nI ((fun _ => 0) z9)))), (w35, .inl (T 0, 801, .inl (fun z9 => nI ((fun _ => 0) z9)))), (w44, .inl (T 0, 801, .inl (fun z9 => nI ((fun _ => 0) z9))))] (by decide) (Nat.le_of_ble_eq_true rfl) rfl rfl rfl rfl rfl rfl kX3_24 dX3_init_46 rfl ?_
  refine g_aload_n (pc' := 50) hE 0 rfl rfl dX3_init_49 rfl ?_
  refine g_iconst (pc' := 51) hE (nI 0) (by decide) dX3_init_50 rfl ?_
  refine g_put (pc' := 54) hE gcX3 0 rfl 5 [(h0, .inr (2, [.ref w8, .ref w17, .ref w26, .ref w35, .ref w44, .int (nI 0), .int (nI 0), .int (nI 0)])), (w8, .inl (T 0, 201, .inl (fun z9 => nI ((fun _ => 0) z9)))), (w17, .inl (T 0, 800, .inl (fun z9 => nI ((fun _ => 0) z9)))), (w26, .inl (T 0, 801, .inl (fun z9 => nI ((fun _ => 0) z9)))), (w35, .inl (T 0, 801, .inl (fun z9 => nI ((fun _ => 0) z9)))), (w44, .inl (T 0, 801, .inl (fun z9 => nI ((fun _ => 0) z9))))] (by decide) (Nat.le_of_ble_eq_true rfl) rfl rfl rfl rfl kX3_27 dX3_init_51 rfl ?_
  refine g_aload_n (pc' := 55) hE 0 rfl rfl dX3_init_54 rfl ?_
  refine g_iconst (pc' := 56) hE (nI 0) (by decide) dX3_init_55 rfl ?_
  refine g_put (pc' := 59) hE gcX3 0 rfl 6 [(h0, .inr (2, [.ref w8, .ref w17, .ref w26, .ref w35, .ref w44, .int (nI 0), .int (nI 0), .int (nI 0)])), (w8, .inl (T 0, 201, .inl (fun z9 => nI ((fun _ => 0) z9)))), (w17, .inl (T 0, 800, .inl (fun z9 => nI ((fun _ => 0) z9)))), (w26, .inl (T 0, 801, .inl (fun z9 => nI ((fun _ => 0) z9)))), (w35, .inl (T 0, 801, .inl (fun z9 => nI ((fun _ => 0) z9)))), (w44, .inl (T 0, 801, .inl (fun z9 => nI ((fun _ => 0) z9))))] (by decide) (Nat.le_of_ble_eq_true rfl) rfl rfl rfl rfl kX3_31 dX3_init_56 rfl ?_
  refine g_aload_n (pc' := 60) hE 0 rfl rfl dX3_init_59 rfl ?_
  refine g_iconst (pc' := 61) hE (nI 1) (by decide) dX3_init_60 rfl ?_
  refine g_put (pc' := 64) hE gcX3 0 rfl 7 [(h0, .inr (2, [.ref w8, .ref w17, .ref w26, .ref w35, .ref w44, .int (nI 0), .int (nI 0), .int (nI 1)])), (w8, .inl (T 0, 201, .inl (fun z9 => nI ((fun _ => 0) z9)))), (w17, .inl (T 0, 800, .inl (fun z9 => nI ((fun _ => 0) z9)))), (w26, .inl (T 0, 801, .inl (fun z9 => nI ((fun _ => 0) z9)))), (w35, .inl (T 0, 801, .inl (fun z9 => nI ((fun _ => 0) z9)))), (w44, .inl (T 0, 801, .inl (fun z9 => nI ((fun _ => 0) z9))))] (by decide) (Nat.le_of_ble_eq_true rfl) rfl rfl rfl rfl kX3_34 dX3_init_61 rfl ?_
  exact hE.vret (⟨w8, w17, w26, w35, w44, rfl, rfl⟩) (by omega) (by omega) dX3_init_64

set_option maxHeartbeats 4000000 in
set_option maxRecDepth 100000 in
theorem qX2_init (l : Launch) (D : va_G) (T : Nat → ClassId) (h0 : Nat)  : Con l D T yX2_init cX2_init 1 none 1 7 3007 [.ref h0] [(h0, .inr (1, [.null, .null, .null, .null, .null, .null, .null]))] (fun r w1 => ∃ a0 a1 a2 a3 a4 a5 a6 : Nat, r = none ∧ w1 = [(h0, .inr (1, [.ref a0, .ref a1, .ref a2, .ref a3, .ref a4, .ref a5, .ref a6])), (a0, .inl (T 0, 202, .inl (fun z9 => nI ((fun _ => 0) z9)))), (a1, .inl (T 0, 1000, .inl (fun z9 => nI ((fun _ => 0) z9)))), (a2, .inl (T 0, 202, .inl (fun z9 => nI ((fun _ => 0) z9)))), (a3, .inl (T 0, 1000, .inl (fun z9 => nI ((fun _ => 0) z9)))), (a4, .inl (T 0, 201, .inl (fun z9 => nI ((fun _ => 0) z9)))), (a5, .inl (T 2, 201, .inl (fun z9 => nI ((fun _ => 0) z9)))), (a6, .inl (T 2, 201, .inl (fun z9 => nI ((fun _ => 0) z9))))]) := by
  refine Con.of (by decide) (Nat.le_of_ble_eq_true rfl) ?_
  intro E hE
  refine g_lv (lv' := [(0, .ref h0)]) [0] rfl ?_
  refine g_aload_n (pc' := 1) hE 0 rfl rfl dX2_init_0 rfl ?_
  refine g_objInit (pc' := 4) hE kX2_3 kO_i kO_c (by decide) (Nat.le_of_ble_eq_true rfl) dX2_init_1 rfl ?_
  refine g_aload_n (pc' := 5) hE 0 rfl rfl dX2_init_4 rfl ?_
  refine g_sipush (pc' := 8) hE (nI 202) (by decide) dX2_init_5 rfl ?_
  refine g_newI (pc' := 10) hE kA_I (by omega) (by omega) (by omega) dX2_init_8 rfl (fun w8 => ?_)
  refine g_w (ws' := [(h0, .inr (1, [.null, .null, .null, .null, .null, .null, .null])), (w8, .inl (T 0, 202, .inl (fun z9 => nI ((fun _ => 0) z9))))]) rfl ?_
  refine g_widen (n' := 1) (k' := 202) (by omega) (by omega) ?_
  refine g_putF (pc' := 13) hE gcX2 0 rfl 0 [(h0, .inr (1, [.ref w8, .null, .null, .null, .null, .null, .null])), (w8, .inl (T 0, 202, .inl (fun z9 => nI ((fun _ => 0) z9))))] (by decide) (Nat.le_of_ble_eq_true rfl) rfl rfl rfl rfl rfl rfl kX2_9 dX2_init_10 rfl ?_
  refine g_aload_n (pc' := 14) hE 0 rfl rfl dX2_init_13 rfl ?_
  refine g_sipush (pc' := 17) hE (nI 1000) (by decide) dX2_init_14 rfl ?_
  refine g_newI (pc' := 19) hE kA_I (by omega) (by omega) (by omega) dX2_init_17 rfl (fun w17 => ?_)
  refine g_w (ws' := [(h0, .inr (1, [.ref w8, .null, .null, .null, .null, .null, .null])), (w8, .inl (T 0, 202, .inl (fun z9 => nI ((fun _ => 0) z9)))), (w17, .inl (T 0, 1000, .inl (fun z9 => nI ((fun _ => 0) z9))))]) rfl ?_
  refine g_widen (n' := 2) (k' := 1202) (by omega) (by omega) ?_
  refine g_putF (pc' := 22) hE gcX2 0 rfl 1 [(h0, .inr (1, [.ref w8, .ref w17, .null, .null, .null, .null, .null])), (w8, .inl (T 0, 202, .inl (fun z9 => nI ((fun _ => 0) z9)))), (w17, .inl (T 0, 1000, .inl (fun z9 => nI ((fun _ => 0) z9))))] (by decide) (Nat.le_of_ble_eq_true rfl) rfl rfl rfl rfl rfl rfl kX2_15 dX2_init_19 rfl ?_
  refine g_aload_n (pc' := 23) hE 0 rfl rfl dX2_init_22 rfl ?_
  refine g_sipush (pc' := 26) hE (nI 202) (by decide) dX2_init_23 rfl ?_
  refine g_newI (pc' := 28) hE kA_I (by omega) (by omega) (by omega) dX2_init_26 rfl (fun w26 => ?_)
  refine g_w (ws' := [(h0, .inr (1, [.ref w8, .ref w17, .null, .null, .null, .null, .null])), (w8, .inl (T 0, 202, .inl (fun z9 => nI ((fun _ => 0) z9)))), (w17, .inl (T 0, 1000, .inl (fun z9 => nI ((fun _ => 0) z9)))), (w26, .inl (T 0, 202, .inl (fun z9 => nI ((fun _ => 0) z9))))]) rfl ?_
  refine g_widen (n' := 3) (k' := 1404) (by omega) (by omega) ?_
  refine g_putF (pc' := 31) hE gcX2 0 rfl 2 [(h0, .inr (1, [.ref w8, .ref w17, .ref w26, .null, .null, .null, .null])), (w8, .inl (T 0, 202, .inl (fun z9 => nI ((fun _ => 0) z9)))), (w17, .inl (T 0, 1000, .inl (fun z9 => nI ((fun _ => 0) z9)))), (w26, .inl (T 0, 202, .inl (fun z9 => nI ((fun _ => 0) z9))))] (by decide) (Nat.le_of_ble_eq_true rfl) rfl rfl rfl rfl rfl rfl kX2_18 dX2_init_28 rfl ?_
  refine g_aload_n (pc' := 32) hE 0 rfl rfl dX2_init_31 rfl ?_
  refine g_sipush (pc' := 35) hE (nI 1000) (by decide) dX2_init_32 rfl ?_
  refine g_newI (pc' := 37) hE kA_I (by omega) (by omega) (by omega) dX2_init_35 rfl (fun w35 => ?_)
  refine g_w (ws' := [(h0, .inr (1, [.ref w8, .ref w17, .ref w26, .null, .null, .null, .null])), (w8, .inl (T 0, 202, .inl (fun z9 => nI ((fun _ => 0) z9)))), (w17, .inl (T 0, 1000, .inl (fun z9 => nI ((fun _ => 0) z9)))), (w26, .inl (T 0, 202, .inl (fun z9 => nI ((fun _ => 0) z9)))), (w35, .inl (T 0, 1000, .inl (fun z9 => nI ((fun _ => 0) z9))))]) rfl ?_
  refine g_widen (n' := 4) (k' := 2404) (by omega) (by omega) ?_
  refine g_putF (pc' := 40) hE gcX2 0 rfl 3 [(h0, .inr (1, [.ref w8, .ref w17, .ref w26, .ref w35, .null, .null, .null])), (w8, .inl (T 0, 202, .inl (fun z9 => nI ((fun _ => 0) z9)))), (w17, .inl (T 0, 1000, .inl (fun z9 => nI ((fun _ => 0) z9)))), (w26, .inl (T 0, 202, .inl (fun z9 => nI ((fun _ => 0) z9)))), (w35, .inl (T 0, 1000, .inl (fun z9 => nI ((fun _ => 0) z9))))] (by decide) (Nat.le_of_ble_eq_true rfl) rfl rfl rfl rfl rfl rfl kX2_21 dX2_init_37 rfl ?_
  refine g_aload_n (pc' := 41) hE 0 rfl rfl dX2_init_40 rfl ?_
  refine g_sipush (pc' := 44) hE (nI 201) (by decide) dX2_init_41 rfl ?_
  refine g_newI (pc' := 46) hE kA_I (by omega) (by omega) (by omega) dX2_init_44 rfl (fun w44 => ?_)
  refine g_w (ws' := [(h0, .inr (1, [.ref w8, .ref w17, .ref w26, .ref w35, .null, .null, .null])), (w8, .inl (T 0, 202, .inl (fun z9 => nI ((fun _ => 0) z9)))), (w17, .inl (T 0, 1000, .inl (fun z9 => nI ((fun _ => 0) z9)))), (w26, .inl (T 0, 202, .inl (fun z9 => nI ((fun _ => 0) z9)))), (w35, .inl (T 0, 1000, .inl (fun z9 => nI ((fun _ => 0) z9)))), (w44, .inl (T 0, 201, .inl (fun z9 => nI ((fun _ => 0) z9))))]) rfl ?_
  refine g_widen (n' := 5) (k' := 2605) (by omega) (by omega) ?_
  refine g_putF (pc' := 49) hE gcX2 0 rfl 4 [(h0, .inr (1, [.ref w8, .ref w17, .ref w26, .ref w35, .ref w44, .null, .null])), (w8, .inl (T 0, 202, .inl (fun z9 => nI ((fun _ => 0) z9)))), (w17, .inl (T 0, 1000, .inl (fun z9 => nI ((fun _ => 0) z9)))), (w26, .inl (T 0, 202, .inl (fun z9 => nI ((fun _ => 0) z9)))), (w35, .inl (T 0, 1000, .inl (fun z9 => nI ((fun _ => 0) z9)))), (w44, .inl (T 0, 201, .inl (fun z9 => nI ((fun _ => 0) z9))))] (by decide) (Nat.le_of_ble_eq_true rfl) rfl rfl rfl rfl rfl rfl kX2_24 dX2_init_46 rfl ?_
  refine g_aload_n (pc' := 50) hE 0 rfl rfl dX2_init_49 rfl ?_
  refine g_sipush (pc' := 53) hE (nI 201) (by decide) dX2_init_50 rfl ?_
  refine g_newZ (pc' := 55) hE kA_Z (by omega) (by omega) (by omega) dX2_init_53 rfl (fun w53 => ?_)
  refine g_w (ws' := [(h0, .inr (1, [.ref w8, .ref w17, .ref w26, .ref w35, .ref w44, .null, .null])), (w8, .inl (T 0, 202, .inl (fun z9 => nI ((fun _ => 0) z9)))), (w17, .inl (T 0, 1000, .inl (fun z9 => nI ((fun _ => 0) z9)))), (w26, .inl (T 0, 202, .inl (fun z9 => nI ((fun _ => 0) z9)))), (w35, .inl (T 0, 1000, .inl (fun z9 => nI ((fun _ => 0) z9)))), (w44, .inl (T 0, 201, .inl (fun z9 => nI ((fun _ => 0) z9)))), (w53, .inl (T 2, 201, .inl (fun z9 => nI ((fun _ => 0) z9))))]) rfl ?_
  refine g_widen (n' := 6) (k' := 2806) (by omega) (by omega) ?_
  refine g_putF (pc' := 58) hE gcX2 0 rfl 5 [(h0, .inr (1, [.ref w8, .ref w17, .ref w26, .ref w35, .ref w44, .ref w53, .null])), (w8, .inl (T 0, 202, .inl (fun z9 => nI ((fun _ => 0) z9)))), (w17, .inl (T 0, 1000, .inl (fun z9 => nI ((fun _ => 0) z9)))), (w26, .inl (T 0, 202, .inl (fun z9 => nI ((fun _ => 0) z9)))), (w35, .inl (T 0, 1000, .inl (fun z9 => nI ((fun _ => 0) z9)))), (w44, .inl (T 0, 201, .inl (fun z9 => nI ((fun _ => 0) z9)))), (w53, .inl (T 2, 201, .inl (fun z9 => nI ((fun _ => 0) z9))))] (by decide) (Nat.le_of_ble_eq_true rfl) rfl rfl rfl rfl rfl rfl kX2_27 dX2_init_55 rfl ?_
  refine g_aload_n (pc' := 59) hE 0 rfl rfl dX2_init_58 rfl ?_
  refine g_sipush (pc' := 62) hE (nI 201) (by decide) dX2_init_59 rfl ?_
  refine g_newZ (pc' := 64) hE kA_Z (by omega) (by omega) (by omega) dX2_init_62 rfl (fun w62 => ?_)
  refine g_w (ws' := [(h0, .inr (1, [.ref w8, .ref w17, .ref w26, .ref w35, .ref w44, .ref w53, .null])), (w8, .inl (T 0, 202, .inl (fun z9 => nI ((fun _ => 0) z9)))), (w17, .inl (T 0, 1000, .inl (fun z9 => nI ((fun _ => 0) z9)))), (w26, .inl (T 0, 202, .inl (fun z9 => nI ((fun _ => 0) z9)))), (w35, .inl (T 0, 1000, .inl (fun z9 => nI ((fun _ => 0) z9)))), (w44, .inl (T 0, 201, .inl (fun z9 => nI ((fun _ => 0) z9)))), (w53, .inl (T 2, 201, .inl (fun z9 => nI ((fun _ => 0) z9)))), (w62, .inl (T 2, 201, .inl (fun z9 => nI ((fun _ => 0) z9))))]) rfl ?_
  refine g_widen (n' := 7) (k' := 3007) (by omega) (by omega) ?_
  refine g_putF (pc' := 67) hE gcX2 0 rfl 6 [(h0, .inr (1, [.ref w8, .ref w17, .ref w26, .ref w35, .ref w44, .ref w53, .ref w62])), (w8, .inl (T 0, 202, .inl (fun z9 => nI ((fun _ => 0) z9)))), (w17, .inl (T 0, 1000, .inl (fun z9 => nI ((fun _ => 0) z9)))), (w26, .inl (T 0, 202, .inl (fun z9 => nI ((fun _ => 0) z9)))), (w35, .inl (T 0, 1000, .inl (fun z9 => nI ((fun _ => 0) z9)))), (w44, .inl (T 0, 201, .inl (fun z9 => nI ((fun _ => 0) z9)))), (w53, .inl (T 2, 201, .inl (fun z9 => nI ((fun _ => 0) z9)))), (w62, .inl (T 2, 201, .inl (fun z9 => nI ((fun _ => 0) z9))))] (by decide) (Nat.le_of_ble_eq_true rfl) rfl rfl rfl rfl rfl rfl kX2_31 dX2_init_64 rfl ?_
  exact hE.vret (⟨w8, w17, w26, w35, w44, w53, w62, rfl, rfl⟩) (by omega) (by omega) dX2_init_67

set_option maxHeartbeats 4000000 in
set_option maxRecDepth 100000 in
theorem qX0_init (l : Launch) (D : va_G) (T : Nat → ClassId) (h0 : Nat)  : Con l D T yX0_init cX0_init 1 none 1 7 1407 [.ref h0] [(h0, .inr (0, [.null, .null, .null, .null, .null, .null, .null, .int (nI 0), .int (nI 0)]))] (fun r w1 => ∃ a0 a1 a2 a3 a4 a5 a6 : Nat, r = none ∧ w1 = [(h0, .inr (0, [.ref a0, .ref a1, .ref a2, .ref a3, .ref a4, .ref a5, .ref a6, .int (nI 1), .int (nI 0)])), (a0, .inl (T 0, 201, .inl (fun z9 => nI ((fun _ => 0) z9)))), (a1, .inl (T 0, 201, .inl (fun z9 => nI ((fun _ => 0) z9)))), (a2, .inl (T 0, 201, .inl (fun z9 => nI ((fun _ => 0) z9)))), (a3, .inl (T 0, 201, .inl (fun z9 => oI ((fun _ => some 0) z9)))), (a4, .inl (T 0, 201, .inl (fun z9 => nI ((fun _ => 0) z9)))), (a5, .inl (T 0, 201, .inl (fun z9 => nI ((fun _ => 0) z9)))), (a6, .inl (T 0, 201, .inl (fun z9 => nI ((fun _ => 0) z9))))]) := by
  refine Con.of (by decide) (Nat.le_of_ble_eq_true rfl) ?_
  intro E hE
  refine g_lv (lv' := [(0, .ref h0)]) [0] rfl ?_
  refine g_aload_n (pc' := 1) hE 0 rfl rfl dX0_init_0 rfl ?_
  refine g_objInit (pc' := 4) hE kX0_3 kO_i kO_c (by decide) (Nat.le_of_ble_eq_true rfl) dX0_init_1 rfl ?_
  refine g_aload_n (pc' := 5) hE 0 rfl rfl dX0_init_4 rfl ?_
  refine g_sipush (pc' := 8) hE (nI 201) (by decide) dX0_init_5 rfl ?_
  refine g_newI (pc' := 10) hE kA_I (by omega) (by omega) (by omega) dX0_init_8 rfl (fun w8 => ?_)
  refine g_w (ws' := [(h0, .inr (0, [.null, .null, .null, .null, .null, .null, .null, .int (nI 0), .int (nI 0)])), (w8, .inl (T 0, 201, .inl (fun z9 => nI ((fun _ => 0) z9))))]) rfl ?_
  refine g_widen (n' := 1) (k' := 201) (by omega) (by omega) ?_
  refine g_putF (pc' := 13) hE gcX0 0 rfl 0 [(h0, .inr (0, [.ref w8, .null, .null, .null, .null, .null, .null, .int (nI 0), .int (nI 0)])), (w8, .inl (T 0, 201, .inl (fun z9 => nI ((fun _ => 0) z9))))] (by decide) (Nat.le_of_ble_eq_true rfl) rfl rfl rfl rfl rfl rfl kX0_9 dX0_init_10 rfl ?_
  refine g_aload_n (pc' := 14) hE 0 rfl rfl dX0_init_13 rfl ?_
  refine g_sipush (pc' := 17) hE (nI 201) (by decide) dX0_init_14 rfl ?_
  refine g_newI (pc' := 19) hE kA_I (by omega) (by omega) (by omega) dX0_init_17 rfl (fun w17 => ?_)
  refine g_w (ws' := [(h0, .inr (0, [.ref w8, .null, .null, .null, .null, .null, .null, .int (nI 0), .int (nI 0)])), (w8, .inl (T 0, 201, .inl (fun z9 => nI ((fun _ => 0) z9)))), (w17, .inl (T 0, 201, .inl (fun z9 => nI ((fun _ => 0) z9))))]) rfl ?_
  refine g_widen (n' := 2) (k' := 402) (by omega) (by omega) ?_
  refine g_putF (pc' := 22) hE gcX0 0 rfl 1 [(h0, .inr (0, [.ref w8, .ref w17, .null, .null, .null, .null, .null, .int (nI 0), .int (nI 0)])), (w8, .inl (T 0, 201, .inl (fun z9 => nI ((fun _ => 0) z9)))), (w17, .inl (T 0, 201, .inl (fun z9 => nI ((fun _ => 0) z9))))] (by decide) (Nat.le_of_ble_eq_true rfl) rfl rfl rfl rfl rfl rfl kX0_15 dX0_init_19 rfl ?_
  refine g_aload_n (pc' := 23) hE 0 rfl rfl dX0_init_22 rfl ?_
  refine g_sipush (pc' := 26) hE (nI 201) (by decide) dX0_init_23 rfl ?_
  refine g_newI (pc' := 28) hE kA_I (by omega) (by omega) (by omega) dX0_init_26 rfl (fun w26 => ?_)
  refine g_w (ws' := [(h0, .inr (0, [.ref w8, .ref w17, .null, .null, .null, .null, .null, .int (nI 0), .int (nI 0)])), (w8, .inl (T 0, 201, .inl (fun z9 => nI ((fun _ => 0) z9)))), (w17, .inl (T 0, 201, .inl (fun z9 => nI ((fun _ => 0) z9)))), (w26, .inl (T 0, 201, .inl (fun z9 => nI ((fun _ => 0) z9))))]) rfl ?_
  refine g_widen (n' := 3) (k' := 603) (by omega) (by omega) ?_
  refine g_putF (pc' := 31) hE gcX0 0 rfl 2 [(h0, .inr (0, [.ref w8, .ref w17, .ref w26, .null, .null, .null, .null, .int (nI 0), .int (nI 0)])), (w8, .inl (T 0, 201, .inl (fun z9 => nI ((fun _ => 0) z9)))), (w17, .inl (T 0, 201, .inl (fun z9 => nI ((fun _ => 0) z9)))), (w26, .inl (T 0, 201, .inl (fun z9 => nI ((fun _ => 0) z9))))] (by decide) (Nat.le_of_ble_eq_true rfl) rfl rfl rfl rfl rfl rfl kX0_18 dX0_init_28 rfl ?_
  refine g_aload_n (pc' := 32) hE 0 rfl rfl dX0_init_31 rfl ?_
  refine g_sipush (pc' := 35) hE (nI 201) (by decide) dX0_init_32 rfl ?_
  refine g_newI (pc' := 37) hE kA_I (by omega) (by omega) (by omega) dX0_init_35 rfl (fun w35 => ?_)
  refine g_w (ws' := [(h0, .inr (0, [.ref w8, .ref w17, .ref w26, .null, .null, .null, .null, .int (nI 0), .int (nI 0)])), (w8, .inl (T 0, 201, .inl (fun z9 => nI ((fun _ => 0) z9)))), (w17, .inl (T 0, 201, .inl (fun z9 => nI ((fun _ => 0) z9)))), (w26, .inl (T 0, 201, .inl (fun z9 => nI ((fun _ => 0) z9)))), (w35, .inl (T 0, 201, .inl (fun z9 => oI ((fun _ => some 0) z9))))]) rfl ?_
  refine g_widen (n' := 4) (k' := 804) (by omega) (by omega) ?_
  refine g_putF (pc' := 40) hE gcX0 0 rfl 3 [(h0, .inr (0, [.ref w8, .ref w17, .ref w26, .ref w35, .null, .null, .null, .int (nI 0), .int (nI 0)])), (w8, .inl (T 0, 201, .inl (fun z9 => nI ((fun _ => 0) z9)))), (w17, .inl (T 0, 201, .inl (fun z9 => nI ((fun _ => 0) z9)))), (w26, .inl (T 0, 201, .inl (fun z9 => nI ((fun _ => 0) z9)))), (w35, .inl (T 0, 201, .inl (fun z9 => oI ((fun _ => some 0) z9))))] (by decide) (Nat.le_of_ble_eq_true rfl) rfl rfl rfl rfl rfl rfl kX0_21 dX0_init_37 rfl ?_
  refine g_aload_n (pc' := 41) hE 0 rfl rfl dX0_init_40 rfl ?_
  refine g_sipush (pc' := 44) hE (nI 201) (by decide) dX0_init_41 rfl ?_
  refine g_newI (pc' := 46) hE kA_I (by omega) (by omega) (by omega) dX0_init_44 rfl (fun w44 => ?_)
  refine g_w (ws' := [(h0, .inr (0, [.ref w8, .ref w17, .ref w26, .ref w35, .null, .null, .null, .int (nI 0), .int (nI 0)])), (w8, .inl (T 0, 201, .inl (fun z9 => nI ((fun _ => 0) z9)))), (w17, .inl (T 0, 201, .inl (fun z9 => nI ((fun _ => 0) z9)))), (w26, .inl (T 0, 201, .inl (fun z9 => nI ((fun _ => 0) z9)))), (w35, .inl (T 0, 201, .inl (fun z9 => oI ((fun _ => some 0) z9)))), (w44, .inl (T 0, 201, .inl (fun z9 => nI ((fun _ => 0) z9))))]) rfl ?_
  refine g_widen (n' := 5) (k' := 1005) (by omega) (by omega) ?_
  refine g_putF (pc' := 49) hE gcX0 0 rfl 4 [(h0, .inr (0, [.ref w8, .ref w17, .ref w26, .ref w35, .ref w44, .null, .null, .int (nI 0), .int (nI 0)])), (w8, .inl (T 0, 201, .inl (fun z9 => nI ((fun _ => 0) z9)))), (w17, .inl (T 0, 201, .inl (fun z9 => nI ((fun _ => 0) z9)))), (w26, .inl (T 0, 201, .inl (fun z9 => nI ((fun _ => 0) z9)))), (w35, .inl (T 0, 201, .inl (fun z9 => oI ((fun _ => some 0) z9)))), (w44, .inl (T 0, 201, .inl (fun z9 => nI ((fun _ => 0) z9))))] (by decide) (Nat.le_of_ble_eq_true rfl) rfl rfl rfl rfl rfl rfl kX0_24 dX0_init_46 rfl ?_
  refine g_aload_n (pc' := 50) hE 0 rfl rfl dX0_init_49 rfl ?_
  refine g_sipush (pc' := 53) hE (nI 201) (by decide) dX0_init_50 rfl ?_
  refine g_newI (pc' := 55) hE kA_I (by omega) (by omega) (by omega) dX0_init_53 rfl (fun w53 => ?_)
  refine g_w (ws' := [(h0, .inr (0, [.ref w8, .ref w17, .ref w26, .ref w35, .ref w44, .null, .null, .int (nI 0), .int (nI 0)])), (w8, .inl (T 0, 201, .inl (fun z9 => nI ((fun _ => 0) z9)))), (w17, .inl (T 0, 201, .inl (fun z9 => nI ((fun _ => 0) z9)))), (w26, .inl (T 0, 201, .inl (fun z9 => nI ((fun _ => 0) z9)))), (w35, .inl (T 0, 201, .inl (fun z9 => oI ((fun _ => some 0) z9)))), (w44, .inl (T 0, 201, .inl (fun z9 => nI ((fun _ => 0) z9)))), (w53, .inl (T 0, 201, .inl (fun z9 => nI ((fun _ => 0) z9))))]) rfl ?_
  refine g_widen (n' := 6) (k' := 1206) (by omega) (by omega) ?_
  refine g_putF (pc' := 58) hE gcX0 0 rfl 5 [(h0, .inr (0, [.ref w8, .ref w17, .ref w26, .ref w35, .ref w44, .ref w53, .null, .int (nI 0), .int (nI 0)])), (w8, .inl (T 0, 201, .inl (fun z9 => nI ((fun _ => 0) z9)))), (w17, .inl (T 0, 201, .inl (fun z9 => nI ((fun _ => 0) z9)))), (w26, .inl (T 0, 201, .inl (fun z9 => nI ((fun _ => 0) z9)))), (w35, .inl (T 0, 201, .inl (fun z9 => oI ((fun _ => some 0) z9)))), (w44, .inl (T 0, 201, .inl (fun z9 => nI ((fun _ => 0) z9)))), (w53, .inl (T 0, 201, .inl (fun z9 => nI ((fun _ => 0) z9))))] (by decide) (Nat.le_of_ble_eq_true rfl) rfl rfl rfl rfl rfl rfl kX0_27 dX0_init_55 rfl ?_
  refine g_aload_n (pc' := 59) hE 0 rfl rfl dX0_init_58 rfl ?_
  refine g_sipush (pc' := 62) hE (nI 201) (by decide) dX0_init_59 rfl ?_
  refine g_newI (pc' := 64) hE kA_I (by omega) (by omega) (by omega) dX0_init_62 rfl (fun w62 => ?_)
  refine g_w (ws' := [(h0, .inr (0, [.ref w8, .ref w17, .ref w26, .ref w35, .ref w44, .ref w53, .null, .int (nI 0), .int (nI 0)])), (w8, .inl (T 0, 201, .inl (fun z9 => nI ((fun _ => 0) z9)))), (w17, .inl (T 0, 201, .inl (fun z9 => nI ((fun _ => 0) z9)))), (w26, .inl (T 0, 201, .inl (fun z9 => nI ((fun _ => 0) z9)))), (w35, .inl (T 0, 201, .inl (fun z9 => oI ((fun _ => some 0) z9)))), (w44, .inl (T 0, 201, .inl (fun z9 => nI ((fun _ => 0) z9)))), (w53, .inl (T 0, 201, .inl (fun z9 => nI ((fun _ => 0) z9)))), (w62, .inl (T 0, 201, .inl (fun z9 => nI ((fun _ => 0) z9))))]) rfl ?_
  refine g_widen (n' := 7) (k' := 1407) (by omega) (by omega) ?_
  refine g_putF (pc' := 67) hE gcX0 0 rfl 6 [(h0, .inr (0, [.ref w8, .ref w17, .ref w26, .ref w35, .ref w44, .ref w53, .ref w62, .int (nI 0), .int (nI 0)])), (w8, .inl (T 0, 201, .inl (fun z9 => nI ((fun _ => 0) z9)))), (w17, .inl (T 0, 201, .inl (fun z9 => nI ((fun _ => 0) z9)))), (w26, .inl (T 0, 201, .inl (fun z9 => nI ((fun _ => 0) z9)))), (w35, .inl (T 0, 201, .inl (fun z9 => oI ((fun _ => some 0) z9)))), (w44, .inl (T 0, 201, .inl (fun z9 => nI ((fun _ => 0) z9)))), (w53, .inl (T 0, 201, .inl (fun z9 => nI ((fun _ => 0) z9)))), (w62, .inl (T 0, 201, .inl (fun z9 => nI ((fun _ => 0) z9))))] (by decide) (Nat.le_of_ble_eq_true rfl) rfl rfl rfl rfl rfl rfl kX0_30 dX0_init_64 rfl ?_
  refine g_aload_n (pc' := 68) hE 0 rfl rfl dX0_init_67 rfl ?_
  refine g_iconst (pc' := 69) hE (nI 1) (by decide) dX0_init_68 rfl ?_
  refine g_put (pc' := 72) hE gcX0 0 rfl 7 [(h0, .inr (0, [.ref w8, .ref w17, .ref w26, .ref w35, .ref w44, .ref w53, .ref w62, .int (nI 1), .int (nI 0)])), (w8, .inl (T 0, 201, .inl (fun z9 => nI ((fun _ => 0) z9)))), (w17, .inl (T 0, 201, .inl (fun z9 => nI ((fun _ => 0) z9)))), (w26, .inl (T 0, 201, .inl (fun z9 => nI ((fun _ => 0) z9)))), (w35, .inl (T 0, 201, .inl (fun z9 => oI ((fun _ => some 0) z9)))), (w44, .inl (T 0, 201, .inl (fun z9 => nI ((fun _ => 0) z9)))), (w53, .inl (T 0, 201, .inl (fun z9 => nI ((fun _ => 0) z9)))), (w62, .inl (T 0, 201, .inl (fun z9 => nI ((fun _ => 0) z9))))] (by decide) (Nat.le_of_ble_eq_true rfl) rfl rfl rfl rfl kX0_33 dX0_init_69 rfl ?_
  refine g_aload_n (pc' := 73) hE 0 rfl rfl dX0_init_72 rfl ?_
  refine g_iconst (pc' := 74) hE (nI 0) (by decide) dX0_init_73 rfl ?_
  refine g_put (pc' := 77) hE gcX0 0 rfl 8 [(h0, .inr (0, [.ref w8, .ref w17, .ref w26, .ref w35, .ref w44, .ref w53, .ref w62, .int (nI 1), .int (nI 0)])), (w8, .inl (T 0, 201, .inl (fun z9 => nI ((fun _ => 0) z9)))), (w17, .inl (T 0, 201, .inl (fun z9 => nI ((fun _ => 0) z9)))), (w26, .inl (T 0, 201, .inl (fun z9 => nI ((fun _ => 0) z9)))), (w35, .inl (T 0, 201, .inl (fun z9 => oI ((fun _ => some 0) z9)))), (w44, .inl (T 0, 201, .inl (fun z9 => nI ((fun _ => 0) z9)))), (w53, .inl (T 0, 201, .inl (fun z9 => nI ((fun _ => 0) z9)))), (w62, .inl (T 0, 201, .inl (fun z9 => nI ((fun _ => 0) z9))))] (by decide) (Nat.le_of_ble_eq_true rfl) rfl rfl rfl rfl kX0_37 dX0_init_74 rfl ?_
  exact hE.vret (⟨w8, w17, w26, w35, w44, w53, w62, rfl, rfl⟩) (by omega) (by omega) dX0_init_77

set_option maxHeartbeats 4000000 in
set_option maxRecDepth 100000 in
theorem qX6_init (l : Launch) (D : va_G) (T : Nat → ClassId) (h0 : Nat)  : Con l D T yX6_init cX6_init 1 none 1 1 201 [.ref h0] [(h0, .inr (5, [.null]))] (fun r w1 => ∃ a0 : Nat, r = none ∧ w1 = [(h0, .inr (5, [.ref a0])), (a0, .inl (T 0, 201, .inl (fun z9 => nI ((fun _ => 0) z9))))]) := by
  refine Con.of (by decide) (Nat.le_of_ble_eq_true rfl) ?_
  intro E hE
  refine g_lv (lv' := [(0, .ref h0)]) [0] rfl ?_
  refine g_aload_n (pc' := 1) hE 0 rfl rfl dX6_init_0 rfl ?_
  refine g_objInit (pc' := 4) hE kX6_3 kO_i kO_c (by decide) (Nat.le_of_ble_eq_true rfl) dX6_init_1 rfl ?_
  refine g_aload_n (pc' := 5) hE 0 rfl rfl dX6_init_4 rfl ?_
  refine g_sipush (pc' := 8) hE (nI 201) (by decide) dX6_init_5 rfl ?_
  refine g_newI (pc' := 10) hE kA_I (by omega) (by omega) (by omega) dX6_init_8 rfl (fun w8 => ?_)
  refine g_w (ws' := [(h0, .inr (5, [.null])), (w8, .inl (T 0, 201, .inl (fun z9 => nI ((fun _ => 0) z9))))]) rfl ?_
  refine g_widen (n' := 1) (k' := 201) (by omega) (by omega) ?_
  refine g_putF (pc' := 13) hE gcX6 0 rfl 0 [(h0, .inr (5, [.ref w8])), (w8, .inl (T 0, 201, .inl (fun z9 => nI ((fun _ => 0) z9))))] (by decide) (Nat.le_of_ble_eq_true rfl) rfl rfl rfl rfl rfl rfl kX6_9 dX6_init_10 rfl ?_
  exact hE.vret (⟨w8, rfl, rfl⟩) (by omega) (by omega) dX6_init_13
