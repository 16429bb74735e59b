set_option maxHeartbeats 4000000 in
set_option maxRecDepth 100000 in
/-- Row.count -/
theorem qX5_count (l : Launch) (D : va_G) (T : Nat → ClassId) (h0 h1 most cnt : Nat) (b : Nat → Nat)  : Con l D T yX5_count cX5_count 1 (some .int) 0 0 0 [.ref h0] [(h0, .inr (4, [.int (nI most), .ref h1, .int (nI cnt)])), (h1, .inl (T 1, ((most + 7) / 8), .inr (.inl (pack b))))] (fun v w1 => w1 = [(h0, .inr (4, [.int (nI most), .ref h1, .int (nI cnt)])), (h1, .inl (T 1, ((most + 7) / 8), .inr (.inl (pack b))))] ∧ v = some (.int (nI cnt))) := by
  refine Con.of (by decide) (Nat.le_of_ble_eq_true rfl) ?_
  intro E hE
  refine g_lv (lv' := [(0, .ref h0)]) [0] rfl ?_
  refine g_aload_n (pc' := 1) hE 0 rfl rfl dX5_count_0 rfl ?_
  refine g_get (pc' := 4) hE gcX5 0 rfl 2 (by decide) rfl kX5_17 dX5_count_1 rfl ?_
  exact hE.iret (⟨rfl, rfl⟩) (by omega) (by omega) dX5_count_4

set_option maxHeartbeats 4000000 in
set_option maxRecDepth 100000 in
/-- Row.clear -/
theorem qX5_clear (l : Launch) (D : va_G) (T : Nat → ClassId) (h0 h1 most cnt : Nat) (b : Nat → Nat)  : Con l D T yX5_clear cX5_clear 1 none 0 0 0 [.ref h0] [(h0, .inr (4, [.int (nI most), .ref h1, .int (nI cnt)])), (h1, .inl (T 1, ((most + 7) / 8), .inr (.inl (pack b))))] (fun v w1 => v = none ∧ w1 = [(h0, .inr (4, [.int (nI most), .ref h1, .int (nI 0)])), (h1, .inl (T 1, ((most + 7) / 8), .inr (.inl (pack b))))]) := by
  refine Con.of (by decide) (Nat.le_of_ble_eq_true rfl) ?_
  intro E hE
  refine g_lv (lv' := [(0, .ref h0)]) [0] rfl ?_
  refine g_aload_n (pc' := 1) hE 0 rfl rfl dX5_clear_0 rfl ?_
  refine g_iconst (pc' := 2) hE (nI 0) (by decide) dX5_clear_1 rfl ?_
  refine g_put (pc' := 5) hE gcX5 0 rfl 2 [(h0, .inr (4, [.int (nI most), .ref h1, .int (nI 0)])), (h1, .inl (T 1, ((most + 7) / 8), .inr (.inl (pack b))))] (by decide) (Nat.le_of_ble_eq_true rfl) rfl rfl rfl rfl kX5_17 dX5_clear_2 rfl ?_
  exact hE.vret (⟨rfl, rfl⟩) (by omega) (by omega) dX5_clear_5

set_option maxHeartbeats 4000000 in
set_option maxRecDepth 100000 in
/-- Row.number: so many bytes from k on -/
theorem qX5_number (l : Launch) (D : va_G) (T : Nat → ClassId) (h0 h1 most cnt : Nat) (b : Nat → Nat) (k n : Nat) (hm : most ≤ 16384) (hc : cnt ≤ most) (hb : ∀ i, b i < 256) (hk : k < 2 ^ 30) (hn : n ≤ 8) : Con l D T yX5_number cX5_number 7 (some .long) 0 0 0 [.ref h0, .int (nI k), .int (nI n)] [(h0, .inr (4, [.int (nI most), .ref h1, .int (nI cnt)])), (h1, .inl (T 1, ((most + 7) / 8), .inr (.inl (pack b))))] (fun v w1 => w1 = [(h0, .inr (4, [.int (nI most), .ref h1, .int (nI cnt)])), (h1, .inl (T 1, ((most + 7) / 8), .inr (.inl (pack b))))] ∧ v = some (.long (lN (num (cut b cnt) k n)))) := by
  refine Con.of (by decide) (Nat.le_of_ble_eq_true rfl) ?_
  intro E hE
  refine g_lv (lv' := [(0, .ref h0), (1, .int (nI k)), (2, .int (nI n))]) [0, 1, 2] rfl ?_
  refine g_lconst (pc' := 1) hE (lN 0) (by decide) dX5_number_0 rfl ?_
  refine g_lstore_n (pc' := 2) hE [(3, .long (lN 0)), (0, .ref h0), (1, .int (nI k)), (2, .int (nI n))] dX5_number_1 rfl rfl (by decide) rfl ?_
  refine g_iconst (pc' := 3) hE (nI 0) (by decide) dX5_number_2 rfl ?_
  refine g_istore (pc' := 5) hE [(5, .int (nI 0)), (3, .long (lN 0)), (0, .ref h0), (1, .int (nI k)), (2, .int (nI n))] dX5_number_3 rfl (by decide) rfl ?_
  refine (show ∀ (d5 : Nat) (q : Nat), n - q = d5 → (q ≤ n) → G l E D 7 0 0 [(h0, .inr (4, [.int (nI most), .ref h1, .int (nI cnt)])), (h1, .inl (T 1, ((most + 7) / 8), .inr (.inl (pack b))))] [(5, .int (nI q)), (3, .long (lN (num (cut b cnt) k q))), (0, .ref h0), (1, .int (nI k)), (2, .int (nI n))] 5 [] from ?_) _ 0 rfl (by omega)
  intro d5
  induction d5 using Nat.strongRecOn with
  | _ d5 ih5 =>
  intro q hd5 hq
  refine g_iload (pc' := 7) hE 0 rfl dX5_number_5 rfl ?_
  refine g_iload_n (pc' := 8) hE 4 rfl rfl dX5_number_7 rfl ?_
  refine g_icmpN_ge (pc' := 11) (tgt := 75) hE (by omega) (by omega) dX5_number_8 rfl rfl (fun hc8 => ?_) (fun hc8 => ?_)
  · refine g_lload_n (pc' := 76) hE 1 rfl rfl dX5_number_75 rfl ?_
    exact hE.lret (⟨rfl, by rw [show q = n by omega]⟩) (by omega) (by omega) dX5_number_76
  · refine g_iload (pc' := 13) hE 0 rfl dX5_number_11 rfl ?_
    refine g_bipush (pc' := 15) hE (nI 8) (by decide) dX5_number_13 rfl ?_
    refine g_icmpN_ge (pc' := 18) (tgt := 75) hE (by omega) (by omega) dX5_number_15 rfl rfl (fun hc15 => ?_) (fun hc15 => ?_)
    · refine g_lload_n (pc' := 76) hE 1 rfl rfl dX5_number_75 rfl ?_
      exact hE.lret (⟨rfl, by rw [show q = n by omega]⟩) (by omega) (by omega) dX5_number_76
    · refine g_iload_n (pc' := 19) hE 3 rfl rfl dX5_number_18 rfl ?_
      refine g_iload (pc' := 21) hE 0 rfl dX5_number_19 rfl ?_
      refine g_iadd (pc' := 22) hE dX5_number_21 rfl ?_
      refine g_eqi (show _ = nI (k + q) from nI_add _ _) ?_
      refine g_istore (pc' := 24) hE [(6, .int (nI (k + q))), (5, .int (nI q)), (3, .long (lN (num (cut b cnt) k q))), (0, .ref h0), (1, .int (nI k)), (2, .int (nI n))] dX5_number_22 rfl (by decide) rfl ?_
      refine g_iload (pc' := 26) hE 0 rfl dX5_number_24 rfl ?_
      refine g_ifN_lt (pc' := 29) (tgt := 69) hE (by omega) dX5_number_26 rfl rfl (fun hc26 => ?_) (fun hc26 => ?_)
      · exact hc26.elim
      refine g_iload (pc' := 31) hE 0 rfl dX5_number_29 rfl ?_
      refine g_aload_n (pc' := 32) hE 3 rfl rfl dX5_number_31 rfl ?_
      refine g_get (pc' := 35) hE gcX5 0 rfl 2 (by decide) rfl kX5_17 dX5_number_32 rfl ?_
      refine g_icmpN_ge (pc' := 38) (tgt := 69) hE (by omega) (by omega) dX5_number_35 rfl rfl (fun hc35 => ?_) (fun hc35 => ?_)
      · refine g_lvw (lv' := [(6, .int (nI (k + q))), (5, .int (nI q)), (3, .long (lN (num (cut b cnt) k (q + 1)))), (0, .ref h0), (1, .int (nI k)), (2, .int (nI n))]) (by rw [show num (cut b cnt) k (q + 1) = num (cut b cnt) k q by simp [num, cut, Nat.not_lt.mpr hc35]]) ?_
        refine g_iinc (pc' := 72) hE (nI (q + 1)) [(5, .int (nI (q + 1))), (6, .int (nI (k + q))), (3, .long (lN (num (cut b cnt) k (q + 1)))), (0, .ref h0), (1, .int (nI k)), (2, .int (nI n))] 1 rfl dX5_number_69 rfl (g_incN _ 1) (by decide) rfl ?_
        refine g_goto (tgt := 5) hE dX5_number_72 rfl ?_
        refine g_lv [0, 2, 3, 4, 5] (lv' := [(5, .int (nI (q + 1))), (3, .long (lN (num (cut b cnt) k (q + 1)))), (0, .ref h0), (1, .int (nI k)), (2, .int (nI n))]) rfl ?_
        exact ih5 _ (by omega) (q + 1) rfl (by omega)
      · refine g_lload_n (pc' := 39) hE 2 rfl rfl dX5_number_38 rfl ?_
        refine g_aload_n (pc' := 40) hE 3 rfl rfl dX5_number_39 rfl ?_
        refine g_get (pc' := 43) hE gcX5 0 rfl 1 (by decide) rfl kX5_13 dX5_number_40 rfl ?_
        refine g_iload (pc' := 45) hE 0 rfl dX5_number_43 rfl ?_
        refine g_iconst (pc' := 46) hE (nI 3) (by decide) dX5_number_45 rfl ?_
        refine g_ishr (pc' := 47) hE dX5_number_46 rfl ?_
        refine g_eqi (show _ = nI ((k + q) / 8) from pk_shrN (by omega) _ 3 rfl) ?_
        refine g_lald (pc' := 48) hE 1 rfl (by omega) (by omega) dX5_number_47 rfl ?_
        refine g_bipush (pc' := 50) hE (nI 8) (by decide) dX5_number_48 rfl ?_
        refine g_iload (pc' := 52) hE 0 rfl dX5_number_50 rfl ?_
        refine g_bipush (pc' := 54) hE (nI 7) (by decide) dX5_number_52 rfl ?_
        refine g_iand (pc' := 55) hE dX5_number_54 rfl ?_
        refine g_eqi (show _ = nI ((k + q) % 8) from pk_andN (by omega) 3 rfl) ?_
        refine g_imul (pc' := 56) hE dX5_number_55 rfl ?_
        refine g_eqi (show _ = nI (8 * ((k + q) % 8)) from pk_mul _ _) ?_
        refine g_lushr (pc' := 57) hE (((pack b ((k + q) / 8)).toUInt64 >>> ((nI (8 * ((k + q) % 8))).toInt64.toUInt64 &&& Int64.toUInt64 63)).toInt64) rfl dX5_number_56 rfl ?_
        refine g_ldc2 (pc' := 60) hE (v := lN 255) kX5_24 dX5_number_57 rfl ?_
        refine g_land (pc' := 61) hE dX5_number_60 rfl ?_
        refine g_eql (show _ = lN (cut b cnt (k + q)) from by rw [pack_get hb, cut, if_pos hc35]) ?_
        refine g_bipush (pc' := 63) hE (nI 8) (by decide) dX5_number_61 rfl ?_
        refine g_iload (pc' := 65) hE 1 rfl dX5_number_63 rfl ?_
        refine g_imul (pc' := 66) hE dX5_number_65 rfl ?_
        refine g_eqi (show _ = nI (8 * q) from pk_mul _ _) ?_
        refine g_lshl (pc' := 67) hE (lN (cut b cnt (k + q)) <<< ((nI (8 * q)).toInt64 &&& 63)) rfl dX5_number_66 rfl ?_
        refine g_lor (pc' := 68) hE dX5_number_67 rfl ?_
        refine g_eql (show _ = lN (num (cut b cnt) k (q + 1)) from num_or (cut_lt hb) k q (by omega)) ?_
        refine g_lstore_n (pc' := 69) hE [(3, .long (lN (num (cut b cnt) k (q + 1)))), (6, .int (nI (k + q))), (5, .int (nI q)), (0, .ref h0), (1, .int (nI k)), (2, .int (nI n))] dX5_number_68 rfl rfl (by decide) rfl ?_
        refine g_iinc (pc' := 72) hE (nI (q + 1)) [(5, .int (nI (q + 1))), (3, .long (lN (num (cut b cnt) k (q + 1)))), (6, .int (nI (k + q))), (0, .ref h0), (1, .int (nI k)), (2, .int (nI n))] 2 rfl dX5_number_69 rfl (g_incN _ 1) (by decide) rfl ?_
        refine g_goto (tgt := 5) hE dX5_number_72 rfl ?_
        refine g_lv [0, 1, 3, 4, 5] (lv' := [(5, .int (nI (q + 1))), (3, .long (lN (num (cut b cnt) k (q + 1)))), (0, .ref h0), (1, .int (nI k)), (2, .int (nI n))]) rfl ?_
        exact ih5 _ (by omega) (q + 1) rfl (by omega)

set_option maxHeartbeats 4000000 in
set_option maxRecDepth 100000 in
/-- Row.at -/
theorem qX5_at (l : Launch) (D : va_G) (T : Nat → ClassId) (h0 h1 most cnt : Nat) (b : Nat → Nat) (k : Nat) (hm : most ≤ 16384) (hc : cnt ≤ most) (hb : ∀ i, b i < 256) (hk : k < 2 ^ 30) : Con l D T yX5_at cX5_at 2 (some .int) 1 0 0 [.ref h0, .int (nI k)] [(h0, .inr (4, [.int (nI most), .ref h1, .int (nI cnt)])), (h1, .inl (T 1, ((most + 7) / 8), .inr (.inl (pack b))))] (fun v w1 => w1 = [(h0, .inr (4, [.int (nI most), .ref h1, .int (nI cnt)])), (h1, .inl (T 1, ((most + 7) / 8), .inr (.inl (pack b))))] ∧ v = some (.int (nI (cut b cnt k)))) := by
  refine Con.of (by decide) (Nat.le_of_ble_eq_true rfl) ?_
  intro E hE
  refine g_lv (lv' := [(0, .ref h0), (1, .int (nI k))]) [0, 1] rfl ?_
  refine g_aload_n (pc' := 1) hE 0 rfl rfl dX5_at_0 rfl ?_
  refine g_iload_n (pc' := 2) hE 1 rfl rfl dX5_at_1 rfl ?_
  refine g_iconst (pc' := 3) hE (nI 1) (by decide) dX5_at_2 rfl ?_
  refine g_callV (pc' := 6) (As := [.int (nI k), .int (nI 1)]) (rest := []) hE (qX5_number l D T h0 h1 most cnt b k 1 hm hc hb hk (by decide)) mX5_number kX5_20 iX5_number sX5_number (by omega) rfl (by omega) 0 rfl rfl [0, 1] rfl (by decide) rfl (Nat.le_of_ble_eq_true rfl) dX5_at_3 rfl (gBackR [0, 1] rfl ?_)
  rintro _ rfl
  refine g_st (st' := [.long (lN (num (cut b cnt) k 1))]) rfl ?_
  refine g_l2i (pc' := 7) hE (nI (num (cut b cnt) k 1)) (lN_i _) dX5_at_6 rfl ?_
  exact hE.iret (⟨rfl, by rw [num_one]⟩) (by omega) (by omega) dX5_at_7

set_option maxHeartbeats 4000000 in
set_option maxRecDepth 100000 in
/-- Row.addByte -/
theorem qX5_addByte (l : Launch) (D : va_G) (T : Nat → ClassId) (h0 h1 most cnt : Nat) (b : Nat → Nat) (v : Nat) (hm : most ≤ 16384) (hc : cnt < most) (hb : ∀ i, b i < 256) (hv : v < 256) : Con l D T yX5_addByte cX5_addByte 5 none 0 0 0 [.ref h0, .long (lN v)] [(h0, .inr (4, [.int (nI most), .ref h1, .int (nI cnt)])), (h1, .inl (T 1, ((most + 7) / 8), .inr (.inl (pack b))))] (fun r w1 => r = none ∧ w1 = [(h0, .inr (4, [.int (nI most), .ref h1, .int (nI (cnt + 1))])), (h1, .inl (T 1, ((most + 7) / 8), .inr (.inl (pack (gu b cnt v)))))]) := by
  refine Con.of (by decide) (Nat.le_of_ble_eq_true rfl) ?_
  intro E hE
  refine g_lv (lv' := [(0, .ref h0), (1, .long (lN v))]) [0, 1] rfl ?_
  refine g_aload_n (pc' := 1) hE 0 rfl rfl dX5_addByte_0 rfl ?_
  refine g_get (pc' := 4) hE gcX5 0 rfl 2 (by decide) rfl kX5_17 dX5_addByte_1 rfl ?_
  refine g_aload_n (pc' := 5) hE 0 rfl rfl dX5_addByte_4 rfl ?_
  refine g_get (pc' := 8) hE gcX5 0 rfl 0 (by decide) rfl kX5_7 dX5_addByte_5 rfl ?_
  refine g_icmpN_lt (pc' := 11) (tgt := 12) hE (by omega) (by omega) dX5_addByte_8 rfl rfl (fun hc8 => ?_) (fun hc8 => ?_)
  rotate_left
  · omega
  refine g_bipush (pc' := 14) hE (nI 8) (by decide) dX5_addByte_12 rfl ?_
  refine g_aload_n (pc' := 15) hE 0 rfl rfl dX5_addByte_14 rfl ?_
  refine g_get (pc' := 18) hE gcX5 0 rfl 2 (by decide) rfl kX5_17 dX5_addByte_15 rfl ?_
  refine g_bipush (pc' := 20) hE (nI 7) (by decide) dX5_addByte_18 rfl ?_
  refine g_iand (pc' := 21) hE dX5_addByte_20 rfl ?_
  refine g_eqi (show _ = nI (cnt % 8) from pk_andN (by omega) 3 rfl) ?_
  refine g_imul (pc' := 22) hE dX5_addByte_21 rfl ?_
  refine g_eqi (show _ = nI (8 * (cnt % 8)) from pk_mul _ _) ?_
  refine g_istore_n (pc' := 23) hE [(3, .int (nI (8 * (cnt % 8)))), (0, .ref h0), (1, .long (lN v))] dX5_addByte_22 rfl rfl (by decide) rfl ?_
  refine g_aload_n (pc' := 24) hE 1 rfl rfl dX5_addByte_23 rfl ?_
  refine g_get (pc' := 27) hE gcX5 0 rfl 2 (by decide) rfl kX5_17 dX5_addByte_24 rfl ?_
  refine g_iconst (pc' := 28) hE (nI 3) (by decide) dX5_addByte_27 rfl ?_
  refine g_ishr (pc' := 29) hE dX5_addByte_28 rfl ?_
  refine g_eqi (show _ = nI (cnt / 8) from pk_shrN (by omega) _ 3 rfl) ?_
  refine g_istore (pc' := 31) hE [(4, .int (nI (cnt / 8))), (3, .int (nI (8 * (cnt % 8)))), (0, .ref h0), (1, .long (lN v))] dX5_addByte_29 rfl (by decide) rfl ?_
  refine g_aload_n (pc' := 32) hE 2 rfl rfl dX5_addByte_31 rfl ?_
  refine g_get (pc' := 35) hE gcX5 0 rfl 1 (by decide) rfl kX5_13 dX5_addByte_32 rfl ?_
  refine g_iload (pc' := 37) hE 0 rfl dX5_addByte_35 rfl ?_
  refine g_aload_n (pc' := 38) hE 2 rfl rfl dX5_addByte_37 rfl ?_
  refine g_get (pc' := 41) hE gcX5 0 rfl 1 (by decide) rfl kX5_13 dX5_addByte_38 rfl ?_
  refine g_iload (pc' := 43) hE 0 rfl dX5_addByte_41 rfl ?_
  refine g_lald (pc' := 44) hE 1 rfl (by omega) (by omega) dX5_addByte_43 rfl ?_
  refine g_ldc2 (pc' := 47) hE (v := lN 255) kX5_24 dX5_addByte_44 rfl ?_
  refine g_iload_n (pc' := 48) hE 1 rfl rfl dX5_addByte_47 rfl ?_
  refine g_lshl (pc' := 49) hE (lN 255 <<< ((nI (8 * (cnt % 8))).toInt64 &&& 63)) rfl dX5_addByte_48 rfl ?_
  refine g_ldc2 (pc' := 52) hE (v := (-1)) kX5_34 dX5_addByte_49 rfl ?_
  refine g_lxor (pc' := 53) hE dX5_addByte_52 rfl ?_
  refine g_land (pc' := 54) hE dX5_addByte_53 rfl ?_
  refine g_lload_n (pc' := 55) hE 3 rfl rfl dX5_addByte_54 rfl ?_
  refine g_iload_n (pc' := 56) hE 1 rfl rfl dX5_addByte_55 rfl ?_
  refine g_lshl (pc' := 57) hE (lN v <<< ((nI (8 * (cnt % 8))).toInt64 &&& 63)) rfl dX5_addByte_56 rfl ?_
  refine g_lor (pc' := 58) hE dX5_addByte_57 rfl ?_
  refine g_last (pc' := 59) hE 1 [(h0, .inr (4, [.int (nI most), .ref h1, .int (nI cnt)])), (h1, .inl (T 1, ((most + 7) / 8), .inr (.inl (pack (gu b cnt v)))))] rfl (by omega) (by omega) (pack_put hb cnt hv) rfl dX5_addByte_58 rfl ?_
  refine g_aload_n (pc' := 60) hE 2 rfl rfl dX5_addByte_59 rfl ?_
  refine g_dup (pc' := 61) hE rfl dX5_addByte_60 rfl ?_
  refine g_get (pc' := 64) hE gcX5 0 rfl 2 (by decide) rfl kX5_17 dX5_addByte_61 rfl ?_
  refine g_iconst (pc' := 65) hE (nI 1) (by decide) dX5_addByte_64 rfl ?_
  refine g_iadd (pc' := 66) hE dX5_addByte_65 rfl ?_
  refine g_eqi (show _ = nI (cnt + 1) from nI_add _ _) ?_
  refine g_put (pc' := 69) hE gcX5 0 rfl 2 [(h0, .inr (4, [.int (nI most), .ref h1, .int (nI (cnt + 1))])), (h1, .inl (T 1, ((most + 7) / 8), .inr (.inl (pack (gu b cnt v)))))] (by decide) (Nat.le_of_ble_eq_true rfl) rfl rfl rfl rfl kX5_17 dX5_addByte_66 rfl ?_
  exact hE.vret (⟨rfl, rfl⟩) (by omega) (by omega) dX5_addByte_69

set_option maxHeartbeats 4000000 in
set_option maxRecDepth 100000 in
/-- Row.addLowest -/
theorem qX5_addLowest (l : Launch) (D : va_G) (T : Nat → ClassId) (h0 h1 most cnt : Nat) (b : Nat → Nat) (n : Nat) (v : Int64) (hm : most ≤ 16384) (hc : cnt + n ≤ most) (hb : ∀ i, b i < 256) (hn : n ≤ 8) : Con l D T yX5_addLowest cX5_addLowest 5 none 1 0 0 [.ref h0, .int (nI n), .long v] [(h0, .inr (4, [.int (nI most), .ref h1, .int (nI cnt)])), (h1, .inl (T 1, ((most + 7) / 8), .inr (.inl (pack b))))] (fun r w1 => r = none ∧ w1 = [(h0, .inr (4, [.int (nI most), .ref h1, .int (nI (cnt + n))])), (h1, .inl (T 1, ((most + 7) / 8), .inr (.inl (pack (app b cnt (vb v) n)))))]) := by
  refine Con.of (by decide) (Nat.le_of_ble_eq_true rfl) ?_
  intro E hE
  refine g_lv (lv' := [(0, .ref h0), (1, .int (nI n)), (2, .long v)]) [0, 1, 2] rfl ?_
  refine g_iconst (pc' := 1) hE (nI 0) (by decide) dX5_addLowest_0 rfl ?_
  refine g_istore (pc' := 3) hE [(4, .int (nI 0)), (0, .ref h0), (1, .int (nI n)), (2, .long v)] dX5_addLowest_1 rfl (by decide) rfl ?_
  refine (show ∀ (d3 : Nat) (q : Nat), n - q = d3 → (q ≤ n) → G l E D 5 0 0 [(h0, .inr (4, [.int (nI most), .ref h1, .int (nI (cnt + q))])), (h1, .inl (T 1, ((most + 7) / 8), .inr (.inl (pack (app b cnt (vb v) q)))))] [(4, .int (nI q)), (0, .ref h0), (1, .int (nI n)), (2, .long v)] 3 [] from ?_) _ 0 rfl (by omega)
  intro d3
  induction d3 using Nat.strongRecOn with
  | _ d3 ih3 =>
  intro q hd3 hq
  refine g_iload (pc' := 5) hE 0 rfl dX5_addLowest_3 rfl ?_
  refine g_iload_n (pc' := 6) hE 2 rfl rfl dX5_addLowest_5 rfl ?_
  refine g_icmpN_ge (pc' := 9) (tgt := 37) hE (by omega) (by omega) dX5_addLowest_6 rfl rfl (fun hc6 => ?_) (fun hc6 => ?_)
  · exact hE.vret (⟨rfl, by rw [show q = n by omega]⟩) (by omega) (by omega) dX5_addLowest_37
  · refine g_iload (pc' := 11) hE 0 rfl dX5_addLowest_9 rfl ?_
    refine g_bipush (pc' := 13) hE (nI 8) (by decide) dX5_addLowest_11 rfl ?_
    refine g_icmpN_ge (pc' := 16) (tgt := 37) hE (by omega) (by omega) dX5_addLowest_13 rfl rfl (fun hc13 => ?_) (fun hc13 => ?_)
    · exact hE.vret (⟨rfl, by rw [show q = n by omega]⟩) (by omega) (by omega) dX5_addLowest_37
    · refine g_aload_n (pc' := 17) hE 1 rfl rfl dX5_addLowest_16 rfl ?_
      refine g_lload_n (pc' := 18) hE 3 rfl rfl dX5_addLowest_17 rfl ?_
      refine g_bipush (pc' := 20) hE (nI 8) (by decide) dX5_addLowest_18 rfl ?_
      refine g_iload (pc' := 22) hE 0 rfl dX5_addLowest_20 rfl ?_
      refine g_imul (pc' := 23) hE dX5_addLowest_22 rfl ?_
      refine g_eqi (show _ = nI (8 * q) from pk_mul _ _) ?_
      refine g_lshr (pc' := 24) hE (v >>> ((nI (8 * q)).toInt64 &&& 63)) rfl dX5_addLowest_23 rfl ?_
      refine g_ldc2 (pc' := 27) hE (v := lN 255) kX5_24 dX5_addLowest_24 rfl ?_
      refine g_land (pc' := 28) hE dX5_addLowest_27 rfl ?_
      refine g_eql (show _ = lN (vb v q) from wb_shrA v (by omega)) ?_
      refine g_callV (pc' := 31) (As := [.long (lN (vb v q))]) (rest := []) hE (qX5_addByte l D T h0 h1 most (cnt + q) (app b cnt (vb v) q) (vb v q) hm (by omega) (app_lt hb cnt (vb_lt v) q) (vb_lt v q)) mX5_addByte kX5_26 iX5_addByte sX5_addByte (by omega) rfl (by omega) 0 rfl rfl [0, 1] rfl (by decide) rfl (Nat.le_of_ble_eq_true rfl) dX5_addLowest_28 rfl (gBackU [0, 1] rfl (fun v w1 h => by obtain ⟨_, rfl⟩ := h; rfl) ?_)
      rintro _ _ ⟨rfl, rfl⟩
      refine g_w (ws' := [(h0, .inr (4, [.int (nI most), .ref h1, .int (nI (cnt + q + 1))])), (h1, .inl (T 1, ((most + 7) / 8), .inr (.inl (pack (gu (app b cnt (vb v) q) (cnt + q) (vb v q))))))]) rfl ?_
      refine g_iinc (pc' := 34) hE (nI (q + 1)) [(4, .int (nI (q + 1))), (0, .ref h0), (1, .int (nI n)), (2, .long v)] 0 rfl dX5_addLowest_31 rfl (g_incN _ 1) (by decide) rfl ?_
      refine g_goto (tgt := 3) hE dX5_addLowest_34 rfl ?_
      exact ih3 _ (by omega) (q + 1) rfl (by omega)

set_option maxHeartbeats 4000000 in
set_option maxRecDepth 100000 in
/-- Row.addFrom: bytes of another row -/
theorem qX5_addFrom (l : Launch) (D : va_G) (T : Nat → ClassId) (h0 h1 most cnt : Nat) (b : Nat → Nat) (g0 g1 most' cnt' : Nat) (b' : Nat → Nat) (s n : Nat) (hm : most ≤ 16384) (hb : ∀ i, b i < 256) (hm' : most' ≤ 16384) (hc' : cnt' ≤ most') (hb' : ∀ i, b' i < 256) (hc : cnt + n ≤ most) (hs : s < 2 ^ 29) (hn : n < 2 ^ 29) : Con l D T yX5_addFrom cX5_addFrom 5 none 2 0 0 [.ref h0, .ref g0, .int (nI s), .int (nI n)] [(h0, .inr (4, [.int (nI most), .ref h1, .int (nI cnt)])), (h1, .inl (T 1, ((most + 7) / 8), .inr (.inl (pack b)))), (g0, .inr (4, [.int (nI most'), .ref g1, .int (nI cnt')])), (g1, .inl (T 1, ((most' + 7) / 8), .inr (.inl (pack b'))))] (fun r w1 => r = none ∧ w1 = [(h0, .inr (4, [.int (nI most), .ref h1, .int (nI (cnt + n))])), (h1, .inl (T 1, ((most + 7) / 8), .inr (.inl (pack (app b cnt (fun i => cut b' cnt' (s + i)) n))))), (g0, .inr (4, [.int (nI most'), .ref g1, .int (nI cnt')])), (g1, .inl (T 1, ((most' + 7) / 8), .inr (.inl (pack b'))))]) := by
  refine Con.of (by decide) (Nat.le_of_ble_eq_true rfl) ?_
  intro E hE
  refine g_lv (lv' := [(0, .ref h0), (1, .ref g0), (2, .int (nI s)), (3, .int (nI n))]) [0, 1, 2, 3] rfl ?_
  refine g_iconst (pc' := 1) hE (nI 0) (by decide) dX5_addFrom_0 rfl ?_
  refine g_istore (pc' := 3) hE [(4, .int (nI 0)), (0, .ref h0), (1, .ref g0), (2, .int (nI s)), (3, .int (nI n))] dX5_addFrom_1 rfl (by decide) rfl ?_
  refine (show ∀ (d3 : Nat) (q : Nat), n - q = d3 → (q ≤ n) → G l E D 5 0 0 [(h0, .inr (4, [.int (nI most), .ref h1, .int (nI (cnt + q))])), (h1, .inl (T 1, ((most + 7) / 8), .inr (.inl (pack (app b cnt (fun i => cut b' cnt' (s + i)) q))))), (g0, .inr (4, [.int (nI most'), .ref g1, .int (nI cnt')])), (g1, .inl (T 1, ((most' + 7) / 8), .inr (.inl (pack b'))))] [(4, .int (nI q)), (0, .ref h0), (1, .ref g0), (2, .int (nI s)), (3, .int (nI n))] 3 [] from ?_) _ 0 rfl (by omega)
  intro d3
  induction d3 using Nat.strongRecOn with
  | _ d3 ih3 =>
  intro q hd3 hq
  refine g_iload (pc' := 5) hE 0 rfl dX5_addFrom_3 rfl ?_
  refine g_iload_n (pc' := 6) hE 4 rfl rfl dX5_addFrom_5 rfl ?_
  refine g_icmpN_ge (pc' := 9) (tgt := 28) hE (by omega) (by omega) dX5_addFrom_6 rfl rfl (fun hc6 => ?_) (fun hc6 => ?_)
  · exact hE.vret (⟨rfl, by rw [show q = n by omega]⟩) (by omega) (by omega) dX5_addFrom_28
  · refine g_aload_n (pc' := 10) hE 1 rfl rfl dX5_addFrom_9 rfl ?_
    refine g_aload_n (pc' := 11) hE 2 rfl rfl dX5_addFrom_10 rfl ?_
    refine g_iload_n (pc' := 12) hE 3 rfl rfl dX5_addFrom_11 rfl ?_
    refine g_iload (pc' := 14) hE 0 rfl dX5_addFrom_12 rfl ?_
    refine g_iadd (pc' := 15) hE dX5_addFrom_14 rfl ?_
    refine g_eqi (show _ = nI (s + q) from nI_add _ _) ?_
    refine g_callV (pc' := 18) (As := [.int (nI (s + q))]) (rest := [.ref h0]) hE (qX5_at l D T g0 g1 most' cnt' b' (s + q) hm' hc' hb' (by omega)) mX5_at kX5_30 iX5_at sX5_at (by omega) rfl (by omega) 2 rfl rfl [2, 3] rfl (by decide) rfl (Nat.le_of_ble_eq_true rfl) dX5_addFrom_15 rfl (gBackR [2, 3] rfl ?_)
    rintro _ rfl
    refine g_st (st' := [.int (nI (cut b' cnt' (s + q))), .ref h0]) rfl ?_
    refine g_i2l (pc' := 19) hE (lN (cut b' cnt' (s + q))) (nI_l (Nat.lt_trans (cut_lt hb' _) (by decide))) dX5_addFrom_18 rfl ?_
    refine g_callV (pc' := 22) (As := [.long (lN (cut b' cnt' (s + q)))]) (rest := []) hE (qX5_addByte l D T h0 h1 most (cnt + q) (app b cnt (fun i => cut b' cnt' (s + i)) q) (cut b' cnt' (s + q)) hm (by omega) (app_lt hb cnt (fun i => cut_lt hb' _) q) (cut_lt hb' _)) mX5_addByte kX5_26 iX5_addByte sX5_addByte (by omega) rfl (by omega) 0 rfl rfl [0, 1] rfl (by decide) rfl (Nat.le_of_ble_eq_true rfl) dX5_addFrom_19 rfl (gBackU [0, 1] rfl (fun v w1 h => by obtain ⟨_, rfl⟩ := h; rfl) ?_)
    rintro _ _ ⟨rfl, rfl⟩
    refine g_w (ws' := [(h0, .inr (4, [.int (nI most), .ref h1, .int (nI (cnt + q + 1))])), (h1, .inl (T 1, ((most + 7) / 8), .inr (.inl (pack (gu (app b cnt (fun i => cut b' cnt' (s + i)) q) (cnt + q) (cut b' cnt' (s + q))))))), (g0, .inr (4, [.int (nI most'), .ref g1, .int (nI cnt')])), (g1, .inl (T 1, ((most' + 7) / 8), .inr (.inl (pack b'))))]) rfl ?_
    refine g_iinc (pc' := 25) hE (nI (q + 1)) [(4, .int (nI (q + 1))), (0, .ref h0), (1, .ref g0), (2, .int (nI s)), (3, .int (nI n))] 0 rfl dX5_addFrom_22 rfl (g_incN _ 1) (by decide) rfl ?_
    refine g_goto (tgt := 3) hE dX5_addFrom_25 rfl ?_
    exact ih3 _ (by omega) (q + 1) rfl (by omega)

set_option maxHeartbeats 4000000 in
set_option maxRecDepth 100000 in
/-- Row.same, the other row being the same one -/
theorem qX5_same1 (l : Launch) (D : va_G) (T : Nat → ClassId) (h0 h1 most cnt : Nat) (b : Nat → Nat) (s s' n : Nat) (hm : most ≤ 16384) (hc : cnt ≤ most) (hb : ∀ i, b i < 256) (hs : s < 2 ^ 29) (hs' : s' < 2 ^ 29) (hn : n < 2 ^ 29) : Con l D T yX5_same cX5_same 6 (some .boolean) 2 0 0 [.ref h0, .int (nI s), .ref h0, .int (nI s'), .int (nI n)] [(h0, .inr (4, [.int (nI most), .ref h1, .int (nI cnt)])), (h1, .inl (T 1, ((most + 7) / 8), .inr (.inl (pack b))))] (fun v w1 => w1 = [(h0, .inr (4, [.int (nI most), .ref h1, .int (nI cnt)])), (h1, .inl (T 1, ((most + 7) / 8), .inr (.inl (pack b))))] ∧ v = some (.int (bI (sameB (cut b cnt) s (cut b cnt) s' n)))) := by
  refine Con.of (by decide) (Nat.le_of_ble_eq_true rfl) ?_
  intro E hE
  refine g_lv (lv' := [(0, .ref h0), (1, .int (nI s)), (2, .ref h0), (3, .int (nI s')), (4, .int (nI n))]) [0, 1, 2, 3, 4] rfl ?_
  refine g_iconst (pc' := 1) hE (nI 0) (by decide) dX5_same_0 rfl ?_
  refine g_istore (pc' := 3) hE [(5, .int (nI 0)), (0, .ref h0), (1, .int (nI s)), (2, .ref h0), (3, .int (nI s')), (4, .int (nI n))] dX5_same_1 rfl (by decide) rfl ?_
  refine (show ∀ (d3 : Nat) (q : Nat), n - q = d3 → (q ≤ n) → (∀ i, i < q → cut b cnt (s + i) = cut b cnt (s' + i)) → G l E D 6 0 0 [(h0, .inr (4, [.int (nI most), .ref h1, .int (nI cnt)])), (h1, .inl (T 1, ((most + 7) / 8), .inr (.inl (pack b))))] [(5, .int (nI q)), (0, .ref h0), (1, .int (nI s)), (2, .ref h0), (3, .int (nI s')), (4, .int (nI n))] 3 [] from ?_) _ 0 rfl (by omega) (fun i hi => absurd hi (by omega))
  intro d3
  induction d3 using Nat.strongRecOn with
  | _ d3 ih3 =>
  intro q hd3 hq hi
  refine g_iload (pc' := 5) hE 0 rfl dX5_same_3 rfl ?_
  refine g_iload (pc' := 7) hE 5 rfl dX5_same_5 rfl ?_
  refine g_icmpN_ge (pc' := 10) (tgt := 37) hE (by omega) (by omega) dX5_same_7 rfl rfl (fun hc7 => ?_) (fun hc7 => ?_)
  · refine g_iconst (pc' := 38) hE (nI 1) (by decide) dX5_same_37 rfl ?_
    exact hE.zret (by first | rfl | decide) (⟨rfl, by rw [sameB_t (fun i hi9 => hi i (by omega))]; rfl⟩) (by omega) (by omega) dX5_same_38
  · refine g_aload_n (pc' := 11) hE 1 rfl rfl dX5_same_10 rfl ?_
    refine g_iload_n (pc' := 12) hE 2 rfl rfl dX5_same_11 rfl ?_
    refine g_iload (pc' := 14) hE 0 rfl dX5_same_12 rfl ?_
    refine g_iadd (pc' := 15) hE dX5_same_14 rfl ?_
    refine g_eqi (show _ = nI (s + q) from nI_add _ _) ?_
    refine g_callV (pc' := 18) (As := [.int (nI (s + q))]) (rest := []) hE (qX5_at l D T h0 h1 most cnt b (s + q) hm hc hb (by omega)) mX5_at kX5_30 iX5_at sX5_at (by omega) rfl (by omega) 0 rfl rfl [0, 1] rfl (by decide) rfl (Nat.le_of_ble_eq_true rfl) dX5_same_15 rfl (gBackR [0, 1] rfl ?_)
    rintro _ rfl
    refine g_st (st' := [.int (nI (cut b cnt (s + q)))]) rfl ?_
    refine g_aload_n (pc' := 19) hE 3 rfl rfl dX5_same_18 rfl ?_
    refine g_iload_n (pc' := 20) hE 4 rfl rfl dX5_same_19 rfl ?_
    refine g_iload (pc' := 22) hE 0 rfl dX5_same_20 rfl ?_
    refine g_iadd (pc' := 23) hE dX5_same_22 rfl ?_
    refine g_eqi (show _ = nI (s' + q) from nI_add _ _) ?_
    refine g_callV (pc' := 26) (As := [.int (nI (s' + q))]) (rest := [.int (nI (cut b cnt (s + q)))]) hE (qX5_at l D T h0 h1 most cnt b (s' + q) hm hc hb (by omega)) mX5_at kX5_30 iX5_at sX5_at (by omega) rfl (by omega) 0 rfl rfl [0, 1] rfl (by decide) rfl (Nat.le_of_ble_eq_true rfl) dX5_same_23 rfl (gBackR [0, 1] rfl ?_)
    rintro _ rfl
    refine g_st (st' := [.int (nI (cut b cnt (s' + q))), .int (nI (cut b cnt (s + q)))]) rfl ?_
    refine g_icmpN_eq (pc' := 29) (tgt := 31) hE (Nat.lt_trans (cut_lt hb _) (by decide)) (Nat.lt_trans (cut_lt hb _) (by decide)) dX5_same_26 rfl rfl (fun hc26 => ?_) (fun hc26 => ?_)
    · refine g_iinc (pc' := 34) hE (nI (q + 1)) [(5, .int (nI (q + 1))), (0, .ref h0), (1, .int (nI s)), (2, .ref h0), (3, .int (nI s')), (4, .int (nI n))] 0 rfl dX5_same_31 rfl (g_incN _ 1) (by decide) rfl ?_
      refine g_goto (tgt := 3) hE dX5_same_34 rfl ?_
      exact ih3 _ (by omega) (q + 1) rfl (by omega) (lt_s hi hc26)
    · refine g_iconst (pc' := 30) hE (nI 0) (by decide) dX5_same_29 rfl ?_
      exact hE.zret (by first | rfl | decide) (⟨rfl, by rw [sameB_f (by omega) hc26]; rfl⟩) (by omega) (by omega) dX5_same_30

set_option maxHeartbeats 4000000 in
set_option maxRecDepth 100000 in
/-- Row.same, another row -/
theorem qX5_same2 (l : Launch) (D : va_G) (T : Nat → ClassId) (h0 h1 most cnt : Nat) (b : Nat → Nat) (g0 g1 most' cnt' : Nat) (b' : Nat → Nat) (s s' n : Nat) (hm : most ≤ 16384) (hb : ∀ i, b i < 256) (hm' : most' ≤ 16384) (hc' : cnt' ≤ most') (hb' : ∀ i, b' i < 256) (hc : cnt ≤ most) (hs : s < 2 ^ 29) (hs' : s' < 2 ^ 29) (hn : n < 2 ^ 29) : Con l D T yX5_same cX5_same 6 (some .boolean) 2 0 0 [.ref h0, .int (nI s), .ref g0, .int (nI s'), .int (nI n)] [(h0, .inr (4, [.int (nI most), .ref h1, .int (nI cnt)])), (h1, .inl (T 1, ((most + 7) / 8), .inr (.inl (pack b)))), (g0, .inr (4, [.int (nI most'), .ref g1, .int (nI cnt')])), (g1, .inl (T 1, ((most' + 7) / 8), .inr (.inl (pack b'))))] (fun v w1 => w1 = [(h0, .inr (4, [.int (nI most), .ref h1, .int (nI cnt)])), (h1, .inl (T 1, ((most + 7) / 8), .inr (.inl (pack b)))), (g0, .inr (4, [.int (nI most'), .ref g1, .int (nI cnt')])), (g1, .inl (T 1, ((most' + 7) / 8), .inr (.inl (pack b'))))] ∧ v = some (.int (bI (sameB (cut b cnt) s (cut b' cnt') s' n)))) := by
  refine Con.of (by decide) (Nat.le_of_ble_eq_true rfl) ?_
  intro E hE
  refine g_lv (lv' := [(0, .ref h0), (1, .int (nI s)), (2, .ref g0), (3, .int (nI s')), (4, .int (nI n))]) [0, 1, 2, 3, 4] rfl ?_
  refine g_iconst (pc' := 1) hE (nI 0) (by decide) dX5_same_0 rfl ?_
  refine g_istore (pc' := 3) hE [(5, .int (nI 0)), (0, .ref h0), (1, .int (nI s)), (2, .ref g0), (3, .int (nI s')), (4, .int (nI n))] dX5_same_1 rfl (by decide) rfl ?_
  refine (show ∀ (d3 : Nat) (q : Nat), n - q = d3 → (q ≤ n) → (∀ i, i < q → cut b cnt (s + i) = cut b' cnt' (s' + i)) → G l E D 6 0 0 [(h0, .inr (4, [.int (nI most), .ref h1, .int (nI cnt)])), (h1, .inl (T 1, ((most + 7) / 8), .inr (.inl (pack b)))), (g0, .inr (4, [.int (nI most'), .ref g1, .int (nI cnt')])), (g1, .inl (T 1, ((most' + 7) / 8), .inr (.inl (pack b'))))] [(5, .int (nI q)), (0, .ref h0), (1, .int (nI s)), (2, .ref g0), (3, .int (nI s')), (4, .int (nI n))] 3 [] from ?_) _ 0 rfl (by omega) (fun i hi => absurd hi (by omega))
  intro d3
  induction d3 using Nat.strongRecOn with
  | _ d3 ih3 =>
  intro q hd3 hq hi
  refine g_iload (pc' := 5) hE 0 rfl dX5_same_3 rfl ?_
  refine g_iload (pc' := 7) hE 5 rfl dX5_same_5 rfl ?_
  refine g_icmpN_ge (pc' := 10) (tgt := 37) hE (by omega) (by omega) dX5_same_7 rfl rfl (fun hc7 => ?_) (fun hc7 => ?_)
  · refine g_iconst (pc' := 38) hE (nI 1) (by decide) dX5_same_37 rfl ?_
    exact hE.zret (by first | rfl | decide) (⟨rfl, by rw [sameB_t (fun i hi9 => hi i (by omega))]; rfl⟩) (by omega) (by omega) dX5_same_38
  · refine g_aload_n (pc' := 11) hE 1 rfl rfl dX5_same_10 rfl ?_
    refine g_iload_n (pc' := 12) hE 2 rfl rfl dX5_same_11 rfl ?_
    refine g_iload (pc' := 14) hE 0 rfl dX5_same_12 rfl ?_
    refine g_iadd (pc' := 15) hE dX5_same_14 rfl ?_
    refine g_eqi (show _ = nI (s + q) from nI_add _ _) ?_
    refine g_callV (pc' := 18) (As := [.int (nI (s + q))]) (rest := []) hE (qX5_at l D T h0 h1 most cnt b (s + q) hm hc hb (by omega)) mX5_at kX5_30 iX5_at sX5_at (by omega) rfl (by omega) 0 rfl rfl [0, 1] rfl (by decide) rfl (Nat.le_of_ble_eq_true rfl) dX5_same_15 rfl (gBackR [0, 1] rfl ?_)
    rintro _ rfl
    refine g_st (st' := [.int (nI (cut b cnt (s + q)))]) rfl ?_
    refine g_aload_n (pc' := 19) hE 3 rfl rfl dX5_same_18 rfl ?_
    refine g_iload_n (pc' := 20) hE 4 rfl rfl dX5_same_19 rfl ?_
    refine g_iload (pc' := 22) hE 0 rfl dX5_same_20 rfl ?_
    refine g_iadd (pc' := 23) hE dX5_same_22 rfl ?_
    refine g_eqi (show _ = nI (s' + q) from nI_add _ _) ?_
    refine g_callV (pc' := 26) (As := [.int (nI (s' + q))]) (rest := [.int (nI (cut b cnt (s + q)))]) hE (qX5_at l D T g0 g1 most' cnt' b' (s' + q) hm' hc' hb' (by omega)) mX5_at kX5_30 iX5_at sX5_at (by omega) rfl (by omega) 2 rfl rfl [2, 3] rfl (by decide) rfl (Nat.le_of_ble_eq_true rfl) dX5_same_23 rfl (gBackR [2, 3] rfl ?_)
    rintro _ rfl
    refine g_st (st' := [.int (nI (cut b' cnt' (s' + q))), .int (nI (cut b cnt (s + q)))]) rfl ?_
    refine g_icmpN_eq (pc' := 29) (tgt := 31) hE (Nat.lt_trans (cut_lt hb _) (by decide)) (Nat.lt_trans (cut_lt hb' _) (by decide)) dX5_same_26 rfl rfl (fun hc26 => ?_) (fun hc26 => ?_)
    · refine g_iinc (pc' := 34) hE (nI (q + 1)) [(5, .int (nI (q + 1))), (0, .ref h0), (1, .int (nI s)), (2, .ref g0), (3, .int (nI s')), (4, .int (nI n))] 0 rfl dX5_same_31 rfl (g_incN _ 1) (by decide) rfl ?_
      refine g_goto (tgt := 3) hE dX5_same_34 rfl ?_
      exact ih3 _ (by omega) (q + 1) rfl (by omega) (lt_s hi hc26)
    · refine g_iconst (pc' := 30) hE (nI 0) (by decide) dX5_same_29 rfl ?_
      exact hE.zret (by first | rfl | decide) (⟨rfl, by rw [sameB_f (by omega) hc26]; rfl⟩) (by omega) (by omega) dX5_same_30
