set_option maxHeartbeats 4000000 in
set_option maxRecDepth 100000 in
/-- Row.count -/
theorem qX5_count (l : Launch) (D : va_G) (T : Nat → ClassId) (h0 h1 most cnt : Nat) (b : Nat → Nat)  : Con l D T yX5_count cX5_count 1 (some .int) 0 0 0 [.ref h0] [(h0, .inr (4, [.int (nI most), .ref h1, .int (nI cnt)])), (h1, .inl (T 1, ((most + 7) / 8), .inr (.inl (pack b))))] (fun v w1 => w1 = [(h0, .inr (4, [.int (nI most), .ref h1, .int (nI cnt)])), (h1, .inl (T 1, ((most + 7) / 8), .inr (.inl (pack b))))] ∧ v = some (.int (nI cnt))) := by
  refine Con.of (by decide) (by decide) ?_
  intro E hE
  refine g_lv (lv' := [(0, .ref h0)]) [0] rfl ?_
  refine g_aload_n (pc' := 1) hE 0 rfl rfl dX5_count_0 rfl ?_
  refine g_get (pc' := 4) hE gcX5 0 rfl 2 (by decide) rfl kX5_17 dX5_count_1 rfl ?_
  exact hE.iret (⟨rfl, rfl⟩) (by omega) (by omega) dX5_count_4

set_option maxHeartbeats 4000000 in
set_option maxRecDepth 100000 in
/-- Row.clear -/
theorem qX5_clear (l : Launch) (D : va_G) (T : Nat → ClassId) (h0 h1 most cnt : Nat) (b : Nat → Nat)  : Con l D T yX5_clear cX5_clear 1 none 0 0 0 [.ref h0] [(h0, .inr (4, [.int (nI most), .ref h1, .int (nI cnt)])), (h1, .inl (T 1, ((most + 7) / 8), .inr (.inl (pack b))))] (fun v w1 => v = none ∧ w1 = [(h0, .inr (4, [.int (nI most), .ref h1, .int (nI 0)])), (h1, .inl (T 1, ((most + 7) / 8), .inr (.inl (pack b))))]) := by
  refine Con.of (by decide) (by decide) ?_
  intro E hE
  refine g_lv (lv' := [(0, .ref h0)]) [0] rfl ?_
  refine g_aload_n (pc' := 1) hE 0 rfl rfl dX5_clear_0 rfl ?_
  refine g_iconst (pc' := 2) hE (nI 0) (by decide) dX5_clear_1 rfl ?_
  refine g_put (pc' := 5) hE gcX5 0 rfl 2 [(h0, .inr (4, [.int (nI most), .ref h1, .int (nI 0)])), (h1, .inl (T 1, ((most + 7) / 8), .inr (.inl (pack b))))] (by decide) (by decide) rfl rfl rfl rfl kX5_17 dX5_clear_2 rfl ?_
  exact hE.vret (⟨rfl, rfl⟩) (by omega) (by omega) dX5_clear_5

set_option maxHeartbeats 4000000 in
set_option maxRecDepth 100000 in
/-- Row.number: so many bytes from k on -/
theorem qX5_number (l : Launch) (D : va_G) (T : Nat → ClassId) (h0 h1 most cnt : Nat) (b : Nat → Nat) (k n : Nat) (hm : most ≤ 16384) (hc : cnt ≤ most) (hb : ∀ i, b i < 256) (hk : k < 2 ^ 30) (hn : n ≤ 8) : Con l D T yX5_number cX5_number 7 (some .long) 0 0 0 [.ref h0, .int (nI k), .int (nI n)] [(h0, .inr (4, [.int (nI most), .ref h1, .int (nI cnt)])), (h1, .inl (T 1, ((most + 7) / 8), .inr (.inl (pack b))))] (fun v w1 => w1 = [(h0, .inr (4, [.int (nI most), .ref h1, .int (nI cnt)])), (h1, .inl (T 1, ((most + 7) / 8), .inr (.inl (pack b))))] ∧ v = some (.long (lN (num (cut b cnt) k n)))) := by
  refine Con.of (by decide) (by decide) ?_
  intro E hE
  refine g_lv (lv' := [(0, .ref h0), (1, .int (nI k)), (2, .int (nI n))]) [0, 1, 2] rfl ?_
  refine g_lconst (pc' := 1) hE (lN 0) (by decide) dX5_number_0 rfl ?_
  refine g_lstore_n (pc' := 2) hE [(3, .long (lN 0)), (0, .ref h0), (1, .int (nI k)), (2, .int (nI n))] dX5_number_1 rfl rfl (by decide) rfl ?_
  refine g_iconst (pc' := 3) hE (nI 0) (by decide) dX5_number_2 rfl ?_
  refine g_istore (pc' := 5) hE [(5, .int (nI 0)), (3, .long (lN 0)), (0, .ref h0), (1, .int (nI k)), (2, .int (nI n))] dX5_number_3 rfl (by decide) rfl ?_
  refine (show ∀ (d5 : Nat) (q : Nat), n - q = d5 → (q ≤ n) → G l E D 7 0 0 [(h0, .inr (4, [.int (nI most), .ref h1, .int (nI cnt)])), (h1, .inl (T 1, ((most + 7) / 8), .inr (.inl (pack b))))] [(5, .int (nI q)), (3, .long (lN (num (cut b cnt) k q))), (0, .ref h0), (1, .int (nI k)), (2, .int (nI n))] 5 [] from ?_) _ 0 rfl (by omega)
  intro d5
  induction d5 using Nat.strongRecOn with
  | _ d5 ih5 =>
  intro q hd5 hq
  refine g_iload (pc' := 7) hE 0 rfl dX5_number_5 rfl ?_
  refine g_iload_n (pc' := 8) hE 4 rfl rfl dX5_number_7 rfl ?_
  refine g_icmpN_ge (pc' := 11) (tgt := 75) hE (by omega) (by omega) dX5_number_8 rfl rfl (fun hc8 => ?_) (fun hc8 => ?_)
  · refine g_lload_n (pc' := 76) hE 1 rfl rfl dX5_number_75 rfl ?_
    exact hE.lret (⟨rfl, by rw [show q = n by omega]⟩) (by omega) (by omega) dX5_number_76
  · refine g_iload (pc' := 13) hE 0 rfl dX5_number_11 rfl ?_
    refine g_bipush (pc' := 15) hE (nI 8) (by decide) dX5_number_13 rfl ?_
    refine g_icmpN_ge (pc' := 18) (tgt := 75) hE (by omega) (by omega) dX5_number_15 rfl rfl (fun hc15 => ?_) (fun hc15 => ?_)
    · refine g_lload_n (pc' := 76) hE 1 rfl rfl dX5_number_75 rfl ?_
      exact hE.lret (⟨rfl, by rw [show q = n by omega]⟩) (by omega) (by omega) dX5_number_76
    · refine g_iload_n (pc' := 19) hE 3 rfl rfl dX5_number_18 rfl ?_
      refine g_iload (pc' := 21) hE 0 rfl dX5_number_19 rfl ?_
      refine g_iadd (pc' := 22) hE dX5_number_21 rfl ?_
      refine g_eqi (show _ = nI (k + q) from nI_add _ _) ?_
      refine g_istore (pc' := 24) hE [(6, .int (nI (k + q))), (5, .int (nI q)), (3, .long (lN (num (cut b cnt) k q))), (0, .ref h0), (1, .int (nI k)), (2, .int (nI n))] dX5_number_22 rfl (by decide) rfl ?_
      refine g_iload (pc' := 26) hE 0 rfl dX5_number_24 rfl ?_
      refine g_ifN_lt (pc' := 29) (tgt := 69) hE (by omega) dX5_number_26 rfl rfl (fun hc26 => ?_) (fun hc26 => ?_)
      · exact hc26.elim
      refine g_iload (pc' := 31) hE 0 rfl dX5_number_29 rfl ?_
      refine g_aload_n (pc' := 32) hE 3 rfl rfl dX5_number_31 rfl ?_
      refine g_get (pc' := 35) hE gcX5 0 rfl 2 (by decide) rfl kX5_17 dX5_number_32 rfl ?_
      refine g_icmpN_ge (pc' := 38) (tgt := 69) hE (by omega) (by omega) dX5_number_35 rfl rfl (fun hc35 => ?_) (fun hc35 => ?_)
      · refine g_lvw (lv' := [(6, .int (nI (k + q))), (5, .int (nI q)), (3, .long (lN (num (cut b cnt) k (q + 1)))), (0, .ref h0), (1, .int (nI k)), (2, .int (nI n))]) (by rw [show num (cut b cnt) k (q + 1) = num (cut b cnt) k q by simp [num, cut, Nat.not_lt.mpr hc35]]) ?_
        refine g_iinc (pc' := 72) hE (nI (q + 1)) [(5, .int (nI (q + 1))), (6, .int (nI (k + q))), (3, .long (lN (num (cut b cnt) k (q + 1)))), (0, .ref h0), (1, .int (nI k)), (2, .int (nI n))] 1 rfl dX5_number_69 rfl (g_incN _ 1) (by decide) rfl ?_
        refine g_goto (tgt := 5) hE dX5_number_72 rfl ?_
        refine g_lv [0, 2, 3, 4, 5] (lv' := [(5, .int (nI (q + 1))), (3, .long (lN (num (cut b cnt) k (q + 1)))), (0, .ref h0), (1, .int (nI k)), (2, .int (nI n))]) rfl ?_
        exact ih5 _ (by omega) (q + 1) rfl (by omega)
      · refine g_lload_n (pc' := 39) hE 2 rfl rfl dX5_number_38 rfl ?_
        refine g_aload_n (pc' := 40) hE 3 rfl rfl dX5_number_39 rfl ?_
        refine g_get (pc' := 43) hE gcX5 0 rfl 1 (by decide) rfl kX5_13 dX5_number_40 rfl ?_
        refine g_iload (pc' := 45) hE 0 rfl dX5_number_43 rfl ?_
        refine g_iconst (pc' := 46) hE (nI 3) (by decide) dX5_number_45 rfl ?_
        refine g_ishr (pc' := 47) hE dX5_number_46 rfl ?_
        refine g_eqi (show _ = nI ((k + q) / 8) from pk_shrN (by omega) _ 3 rfl) ?_
        refine g_lald (pc' := 48) hE 1 rfl (by omega) (by omega) dX5_number_47 rfl ?_
        refine g_bipush (pc' := 50) hE (nI 8) (by decide) dX5_number_48 rfl ?_
        refine g_iload (pc' := 52) hE 0 rfl dX5_number_50 rfl ?_
        refine g_bipush (pc' := 54) hE (nI 7) (by decide) dX5_number_52 rfl ?_
        refine g_iand (pc' := 55) hE dX5_number_54 rfl ?_
        refine g_eqi (show _ = nI ((k + q) % 8) from pk_andN (by omega) 3 rfl) ?_
        refine g_imul (pc' := 56) hE dX5_number_55 rfl ?_
        refine g_eqi (show _ = nI (8 * ((k + q) % 8)) from pk_mul _ _) ?_
        refine g_lushr (pc' := 57) hE (((pack b ((k + q) / 8)).toUInt64 >>> ((nI (8 * ((k + q) % 8))).toInt64.toUInt64 &&& Int64.toUInt64 63)).toInt64) rfl dX5_number_56 rfl ?_
        refine g_ldc2 (pc' := 60) hE (v := lN 255) kX5_24 dX5_number_57 rfl ?_
        refine g_land (pc' := 61) hE dX5_number_60 rfl ?_
        refine g_eql (show _ = lN (cut b cnt (k + q)) from by rw [pack_get hb, cut, if_pos hc35]) ?_
        refine g_bipush (pc' := 63) hE (nI 8) (by decide) dX5_number_61 rfl ?_
        refine g_iload (pc' := 65) hE 1 rfl dX5_number_63 rfl ?_
        refine g_imul (pc' := 66) hE dX5_number_65 rfl ?_
        refine g_eqi (show _ = nI (8 * q) from pk_mul _ _) ?_
        refine g_lshl (pc' := 67) hE (lN (cut b cnt (k + q)) <<< ((nI (8 * q)).toInt64 &&& 63)) rfl dX5_number_66 rfl ?_
        refine g_lor (pc' := 68) hE dX5_number_67 rfl ?_
        refine g_eql (show _ = lN (num (cut b cnt) k (q + 1)) from num_or (cut_lt hb) k q (by omega)) ?_
        refine g_lstore_n (pc' := 69) hE [(3, .long (lN (num (cut b cnt) k (q + 1)))), (6, .int (nI (k + q))), (5, .int (nI q)), (0, .ref h0), (1, .int (nI k)), (2, .int (nI n))] dX5_number_68 rfl rfl (by decide) rfl ?_
        refine g_iinc (pc' := 72) hE (nI (q + 1)) [(5, .int (nI (q + 1))), (3, .long (lN (num (cut b cnt) k (q + 1)))), (6, .int (nI (k + q))), (0, .ref h0), (1, .int (nI k)), (2, .int (nI n))] 2 rfl dX5_number_69 rfl (g_incN _ 1) (by decide) rfl ?_
        refine g_goto (tgt := 5) hE dX5_number_72 rfl ?_
        refine g_lv [0, 1, 3, 4, 5] (lv' := [(5, .int (nI (q + 1))), (3, .long (lN (num (cut b cnt) k (q + 1)))), (0, .ref h0), (1, .int (nI k)), (2, .int (nI n))]) rfl ?_
        exact ih5 _ (by omega) (q + 1) rfl (by omega)
