set_option maxHeartbeats 4000000 in
set_option maxRecDepth 100000 in
theorem qX3_count (l : Launch) (D : va_G) (T : Nat → ClassId) (n0 s0 s1 s2 s3 s4 : Nat) (sl te pl le fr : Nat → Nat) (ns nc fb : Nat)  : Con l D T yX3_count cX3_count 1 (some .int) 0 0 0 [.ref n0] [(n0, .inr (2, [.ref s0, .ref s1, .ref s2, .ref s3, .ref s4, .int (nI ns), .int (nI nc), .int (nI fb)])), (s0, .inl (T 0, 201, .inl (fun j => nI (sl j)))), (s1, .inl (T 0, 800, .inl (fun j => nI (te j)))), (s2, .inl (T 0, 801, .inl (fun j => nI (pl j)))), (s3, .inl (T 0, 801, .inl (fun j => nI (le j)))), (s4, .inl (T 0, 801, .inl (fun j => nI (fr j))))] (fun v w1 => w1 = [(n0, .inr (2, [.ref s0, .ref s1, .ref s2, .ref s3, .ref s4, .int (nI ns), .int (nI nc), .int (nI fb)])), (s0, .inl (T 0, 201, .inl (fun j => nI (sl j)))), (s1, .inl (T 0, 800, .inl (fun j => nI (te j)))), (s2, .inl (T 0, 801, .inl (fun j => nI (pl j)))), (s3, .inl (T 0, 801, .inl (fun j => nI (le j)))), (s4, .inl (T 0, 801, .inl (fun j => nI (fr j))))] ∧ v = some (.int (nI nc))) := by
  refine Con.of (by decide) (Nat.le_of_ble_eq_true rfl) ?_
  intro E hE
  refine g_lv (lv' := [(0, .ref n0)]) [0] rfl ?_
  refine g_aload_n (pc' := 1) hE 0 rfl rfl dX3_count_0 rfl ?_
  refine g_get (pc' := 4) hE gcX3 0 rfl 6 (by decide) rfl kX3_31 dX3_count_1 rfl ?_
  exact hE.iret (⟨rfl, rfl⟩) (Nat.zero_le _) (Nat.zero_le _) dX3_count_4

set_option maxHeartbeats 4000000 in
set_option maxRecDepth 100000 in
theorem qX3_freshBytes (l : Launch) (D : va_G) (T : Nat → ClassId) (n0 s0 s1 s2 s3 s4 : Nat) (sl te pl le fr : Nat → Nat) (ns nc fb : Nat)  : Con l D T yX3_freshBytes cX3_freshBytes 1 (some .int) 0 0 0 [.ref n0] [(n0, .inr (2, [.ref s0, .ref s1, .ref s2, .ref s3, .ref s4, .int (nI ns), .int (nI nc), .int (nI fb)])), (s0, .inl (T 0, 201, .inl (fun j => nI (sl j)))), (s1, .inl (T 0, 800, .inl (fun j => nI (te j)))), (s2, .inl (T 0, 801, .inl (fun j => nI (pl j)))), (s3, .inl (T 0, 801, .inl (fun j => nI (le j)))), (s4, .inl (T 0, 801, .inl (fun j => nI (fr j))))] (fun v w1 => w1 = [(n0, .inr (2, [.ref s0, .ref s1, .ref s2, .ref s3, .ref s4, .int (nI ns), .int (nI nc), .int (nI fb)])), (s0, .inl (T 0, 201, .inl (fun j => nI (sl j)))), (s1, .inl (T 0, 800, .inl (fun j => nI (te j)))), (s2, .inl (T 0, 801, .inl (fun j => nI (pl j)))), (s3, .inl (T 0, 801, .inl (fun j => nI (le j)))), (s4, .inl (T 0, 801, .inl (fun j => nI (fr j))))] ∧ v = some (.int (nI fb))) := by
  refine Con.of (by decide) (Nat.le_of_ble_eq_true rfl) ?_
  intro E hE
  refine g_lv (lv' := [(0, .ref n0)]) [0] rfl ?_
  refine g_aload_n (pc' := 1) hE 0 rfl rfl dX3_freshBytes_0 rfl ?_
  refine g_get (pc' := 4) hE gcX3 0 rfl 7 (by decide) rfl kX3_34 dX3_freshBytes_1 rfl ?_
  exact hE.iret (⟨rfl, rfl⟩) (Nat.zero_le _) (Nat.zero_le _) dX3_freshBytes_4

set_option maxHeartbeats 4000000 in
set_option maxRecDepth 100000 in
theorem qX3_slot (l : Launch) (D : va_G) (T : Nat → ClassId) (n0 s0 s1 s2 s3 s4 : Nat) (sl te pl le fr : Nat → Nat) (ns nc fb : Nat) (i : Nat) (hi : i < 2 ^ 31) : Con l D T yX3_slot cX3_slot 2 (some .int) 0 0 0 [.ref n0, .int (nI i)] [(n0, .inr (2, [.ref s0, .ref s1, .ref s2, .ref s3, .ref s4, .int (nI ns), .int (nI nc), .int (nI fb)])), (s0, .inl (T 0, 201, .inl (fun j => nI (sl j)))), (s1, .inl (T 0, 800, .inl (fun j => nI (te j)))), (s2, .inl (T 0, 801, .inl (fun j => nI (pl j)))), (s3, .inl (T 0, 801, .inl (fun j => nI (le j)))), (s4, .inl (T 0, 801, .inl (fun j => nI (fr j))))] (fun v w1 => w1 = [(n0, .inr (2, [.ref s0, .ref s1, .ref s2, .ref s3, .ref s4, .int (nI ns), .int (nI nc), .int (nI fb)])), (s0, .inl (T 0, 201, .inl (fun j => nI (sl j)))), (s1, .inl (T 0, 800, .inl (fun j => nI (te j)))), (s2, .inl (T 0, 801, .inl (fun j => nI (pl j)))), (s3, .inl (T 0, 801, .inl (fun j => nI (le j)))), (s4, .inl (T 0, 801, .inl (fun j => nI (fr j))))] ∧ v = some (.int (nI (hv 200 i (sl i))))) := by
  refine Con.of (by decide) (Nat.le_of_ble_eq_true rfl) ?_
  intro E hE
  refine g_lv (lv' := [(0, .ref n0), (1, .int (nI i))]) [0, 1] rfl ?_
  refine g_iload_n (pc' := 1) hE 1 rfl rfl dX3_slot_0 rfl ?_
  refine g_iconst (pc' := 2) hE (nI 1) (by decide) dX3_slot_1 rfl ?_
  refine g_icmpN_lt (pc' := 5) (tgt := 23) hE (by omega) (by omega) dX3_slot_2 rfl rfl (fun hc2 => ?_) (fun hc2 => ?_)
  · refine g_iconst (pc' := 24) hE (nI 0) (by decide) dX3_slot_23 rfl ?_
    exact hE.iret (⟨rfl, by first | rw [hv_in _ (by omega) (by omega)] | rw [hv_out _ (by omega)]⟩) (Nat.zero_le _) (Nat.zero_le _) dX3_slot_24
  · refine g_iload_n (pc' := 6) hE 1 rfl rfl dX3_slot_5 rfl ?_
    refine g_aload_n (pc' := 7) hE 0 rfl rfl dX3_slot_6 rfl ?_
    refine g_get (pc' := 10) hE gcX3 0 rfl 0 (by decide) rfl kX3_9 dX3_slot_7 rfl ?_
    refine g_alen (pc' := 11) hE 1 0 rfl rfl dX3_slot_10 rfl ?_
    refine g_icmpN_ge (pc' := 14) (tgt := 23) hE (by omega) (by omega) dX3_slot_11 rfl rfl (fun hc11 => ?_) (fun hc11 => ?_)
    · refine g_iconst (pc' := 24) hE (nI 0) (by decide) dX3_slot_23 rfl ?_
      exact hE.iret (⟨rfl, by first | rw [hv_in _ (by omega) (by omega)] | rw [hv_out _ (by omega)]⟩) (Nat.zero_le _) (Nat.zero_le _) dX3_slot_24
    · refine g_aload_n (pc' := 15) hE 0 rfl rfl dX3_slot_14 rfl ?_
      refine g_get (pc' := 18) hE gcX3 0 rfl 0 (by decide) rfl kX3_9 dX3_slot_15 rfl ?_
      refine g_iload_n (pc' := 19) hE 1 rfl rfl dX3_slot_18 rfl ?_
      refine g_iald (pc' := 20) hE 1 rfl (by omega) (by omega) dX3_slot_19 rfl ?_
      refine g_goto (tgt := 24) hE dX3_slot_20 rfl ?_
      exact hE.iret (⟨rfl, by first | rw [hv_in _ (by omega) (by omega)] | rw [hv_out _ (by omega)]⟩) (Nat.zero_le _) (Nat.zero_le _) dX3_slot_24

set_option maxHeartbeats 4000000 in
set_option maxRecDepth 100000 in
theorem qX3_told (l : Launch) (D : va_G) (T : Nat → ClassId) (n0 s0 s1 s2 s3 s4 : Nat) (sl te pl le fr : Nat → Nat) (ns nc fb : Nat) (s : Nat) (hn : ns ≤ 800) (hs : s < 2 ^ 31) : Con l D T yX3_told cX3_told 2 (some .int) 0 0 0 [.ref n0, .int (nI s)] [(n0, .inr (2, [.ref s0, .ref s1, .ref s2, .ref s3, .ref s4, .int (nI ns), .int (nI nc), .int (nI fb)])), (s0, .inl (T 0, 201, .inl (fun j => nI (sl j)))), (s1, .inl (T 0, 800, .inl (fun j => nI (te j)))), (s2, .inl (T 0, 801, .inl (fun j => nI (pl j)))), (s3, .inl (T 0, 801, .inl (fun j => nI (le j)))), (s4, .inl (T 0, 801, .inl (fun j => nI (fr j))))] (fun v w1 => w1 = [(n0, .inr (2, [.ref s0, .ref s1, .ref s2, .ref s3, .ref s4, .int (nI ns), .int (nI nc), .int (nI fb)])), (s0, .inl (T 0, 201, .inl (fun j => nI (sl j)))), (s1, .inl (T 0, 800, .inl (fun j => nI (te j)))), (s2, .inl (T 0, 801, .inl (fun j => nI (pl j)))), (s3, .inl (T 0, 801, .inl (fun j => nI (le j)))), (s4, .inl (T 0, 801, .inl (fun j => nI (fr j))))] ∧ v = some (.int (nI (if s < ns then te s else 0)))) := by
  refine Con.of (by decide) (Nat.le_of_ble_eq_true rfl) ?_
  intro E hE
  refine g_lv (lv' := [(0, .ref n0), (1, .int (nI s))]) [0, 1] rfl ?_
  refine g_iload_n (pc' := 1) hE 1 rfl rfl dX3_told_0 rfl ?_
  refine g_ifN_lt (pc' := 4) (tgt := 21) hE (by omega) dX3_told_1 rfl rfl (fun hc1 => ?_) (fun hc1 => ?_)
  · exact hc1.elim
  refine g_iload_n (pc' := 5) hE 1 rfl rfl dX3_told_4 rfl ?_
  refine g_aload_n (pc' := 6) hE 0 rfl rfl dX3_told_5 rfl ?_
  refine g_get (pc' := 9) hE gcX3 0 rfl 5 (by decide) rfl kX3_27 dX3_told_6 rfl ?_
  refine g_icmpN_ge (pc' := 12) (tgt := 21) hE (by omega) (by omega) dX3_told_9 rfl rfl (fun hc9 => ?_) (fun hc9 => ?_)
  · refine g_iconst (pc' := 22) hE (nI 0) (by decide) dX3_told_21 rfl ?_
    exact hE.iret (⟨rfl, by first | rw [if_pos (by omega)] | rw [if_neg (by omega)]⟩) (Nat.zero_le _) (Nat.zero_le _) dX3_told_22
  · refine g_aload_n (pc' := 13) hE 0 rfl rfl dX3_told_12 rfl ?_
    refine g_get (pc' := 16) hE gcX3 0 rfl 1 (by decide) rfl kX3_15 dX3_told_13 rfl ?_
    refine g_iload_n (pc' := 17) hE 1 rfl rfl dX3_told_16 rfl ?_
    refine g_iald (pc' := 18) hE 2 rfl (by omega) (by omega) dX3_told_17 rfl ?_
    refine g_goto (tgt := 22) hE dX3_told_18 rfl ?_
    exact hE.iret (⟨rfl, by first | rw [if_pos (by omega)] | rw [if_neg (by omega)]⟩) (Nat.zero_le _) (Nat.zero_le _) dX3_told_22

set_option maxHeartbeats 4000000 in
set_option maxRecDepth 100000 in
theorem qX3_own (l : Launch) (D : va_G) (T : Nat → ClassId) (n0 s0 s1 s2 s3 s4 : Nat) (sl te pl le fr : Nat → Nat) (ns nc fb : Nat) (i : Nat) (hn : ns ≤ 800) (hsl : ∀ j, sl j ≤ 800) (hi : i < 2 ^ 31) : Con l D T yX3_own cX3_own 2 (some .int) 1 0 0 [.ref n0, .int (nI i)] [(n0, .inr (2, [.ref s0, .ref s1, .ref s2, .ref s3, .ref s4, .int (nI ns), .int (nI nc), .int (nI fb)])), (s0, .inl (T 0, 201, .inl (fun j => nI (sl j)))), (s1, .inl (T 0, 800, .inl (fun j => nI (te j)))), (s2, .inl (T 0, 801, .inl (fun j => nI (pl j)))), (s3, .inl (T 0, 801, .inl (fun j => nI (le j)))), (s4, .inl (T 0, 801, .inl (fun j => nI (fr j))))] (fun v w1 => w1 = [(n0, .inr (2, [.ref s0, .ref s1, .ref s2, .ref s3, .ref s4, .int (nI ns), .int (nI nc), .int (nI fb)])), (s0, .inl (T 0, 201, .inl (fun j => nI (sl j)))), (s1, .inl (T 0, 800, .inl (fun j => nI (te j)))), (s2, .inl (T 0, 801, .inl (fun j => nI (pl j)))), (s3, .inl (T 0, 801, .inl (fun j => nI (le j)))), (s4, .inl (T 0, 801, .inl (fun j => nI (fr j))))] ∧ v = some (.int (nI (if hv 200 i (sl i) < ns then te (hv 200 i (sl i)) else 0)))) := by
  refine Con.of (by decide) (Nat.le_of_ble_eq_true rfl) ?_
  intro E hE
  refine g_lv (lv' := [(0, .ref n0), (1, .int (nI i))]) [0, 1] rfl ?_
  refine g_aload_n (pc' := 1) hE 0 rfl rfl dX3_own_0 rfl ?_
  refine g_aload_n (pc' := 2) hE 0 rfl rfl dX3_own_1 rfl ?_
  refine g_iload_n (pc' := 3) hE 1 rfl rfl dX3_own_2 rfl ?_
  refine g_callV (pc' := 6) (As := [.int (nI i)]) (rest := [.ref n0]) hE (qX3_slot l D T n0 s0 s1 s2 s3 s4 sl te pl le fr ns nc fb i hi) mX3_slot kX3_46 iX3_slot sX3_slot (by decide) rfl (by decide) 0 rfl rfl [0, 1, 2, 3, 4, 5] rfl (by decide) rfl (Nat.le_of_ble_eq_true rfl) dX3_own_3 rfl (gBackR [0, 1, 2, 3, 4, 5] rfl ?_)
  rintro _ rfl
  refine g_st (st' := [.int (nI (hv 200 i (sl i))), .ref n0]) rfl ?_
  refine g_callV (pc' := 9) (As := [.int (nI (hv 200 i (sl i)))]) (rest := []) hE (qX3_told l D T n0 s0 s1 s2 s3 s4 sl te pl le fr ns nc fb (hv 200 i (sl i)) hn (Nat.lt_of_le_of_lt (Nat.le_trans (hv_le _ _ _) (hsl i)) (by decide))) mX3_told kX3_49 iX3_told sX3_told (by decide) rfl (by decide) 0 rfl rfl [0, 1, 2, 3, 4, 5] rfl (by decide) rfl (Nat.le_of_ble_eq_true rfl) dX3_own_6 rfl (gBackR [0, 1, 2, 3, 4, 5] rfl ?_)
  rintro _ rfl
  refine g_st (st' := [.int (nI (if hv 200 i (sl i) < ns then te (hv 200 i (sl i)) else 0))]) rfl ?_
  exact hE.iret (⟨rfl, rfl⟩) (Nat.zero_le _) (Nat.zero_le _) dX3_own_9

set_option maxHeartbeats 4000000 in
set_option maxRecDepth 100000 in
theorem qX3_isName (l : Launch) (D : va_G) (T : Nat → ClassId) (n0 s0 s1 s2 s3 s4 : Nat) (sl te pl le fr : Nat → Nat) (ns nc fb : Nat) (d : Nat) (hn : nc ≤ 800) (hd : d < 2 ^ 31) : Con l D T yX3_isName cX3_isName 2 (some .boolean) 0 0 0 [.ref n0, .int (nI d)] [(n0, .inr (2, [.ref s0, .ref s1, .ref s2, .ref s3, .ref s4, .int (nI ns), .int (nI nc), .int (nI fb)])), (s0, .inl (T 0, 201, .inl (fun j => nI (sl j)))), (s1, .inl (T 0, 800, .inl (fun j => nI (te j)))), (s2, .inl (T 0, 801, .inl (fun j => nI (pl j)))), (s3, .inl (T 0, 801, .inl (fun j => nI (le j)))), (s4, .inl (T 0, 801, .inl (fun j => nI (fr j))))] (fun v w1 => w1 = [(n0, .inr (2, [.ref s0, .ref s1, .ref s2, .ref s3, .ref s4, .int (nI ns), .int (nI nc), .int (nI fb)])), (s0, .inl (T 0, 201, .inl (fun j => nI (sl j)))), (s1, .inl (T 0, 800, .inl (fun j => nI (te j)))), (s2, .inl (T 0, 801, .inl (fun j => nI (pl j)))), (s3, .inl (T 0, 801, .inl (fun j => nI (le j)))), (s4, .inl (T 0, 801, .inl (fun j => nI (fr j))))] ∧ v = some (.int (bI (hasB d nc)))) := by
  refine Con.of (by decide) (Nat.le_of_ble_eq_true rfl) ?_
  intro E hE
  refine g_lv (lv' := [(0, .ref n0), (1, .int (nI d))]) [0, 1] rfl ?_
  refine g_iload_n (pc' := 1) hE 1 rfl rfl dX3_isName_0 rfl ?_
  refine g_iconst (pc' := 2) hE (nI 1) (by decide) dX3_isName_1 rfl ?_
  refine g_icmpN_lt (pc' := 5) (tgt := 17) hE (by omega) (by omega) dX3_isName_2 rfl rfl (fun hc2 => ?_) (fun hc2 => ?_)
  · refine g_iconst (pc' := 18) hE (nI 0) (by decide) dX3_isName_17 rfl ?_
    exact hE.zret (by first | rfl | exact bI_nar _ | decide) (⟨rfl, by unfold hasB; first | rw [decide_eq_true (by omega)]; rfl | rw [decide_eq_false (by omega)]; rfl⟩) (Nat.zero_le _) (Nat.zero_le _) dX3_isName_18
  · refine g_iload_n (pc' := 6) hE 1 rfl rfl dX3_isName_5 rfl ?_
    refine g_aload_n (pc' := 7) hE 0 rfl rfl dX3_isName_6 rfl ?_
    refine g_get (pc' := 10) hE gcX3 0 rfl 6 (by decide) rfl kX3_31 dX3_isName_7 rfl ?_
    refine g_icmpN_gt (pc' := 13) (tgt := 17) hE (by omega) (by omega) dX3_isName_10 rfl rfl (fun hc10 => ?_) (fun hc10 => ?_)
    · refine g_iconst (pc' := 18) hE (nI 0) (by decide) dX3_isName_17 rfl ?_
      exact hE.zret (by first | rfl | exact bI_nar _ | decide) (⟨rfl, by unfold hasB; first | rw [decide_eq_true (by omega)]; rfl | rw [decide_eq_false (by omega)]; rfl⟩) (Nat.zero_le _) (Nat.zero_le _) dX3_isName_18
    · refine g_iconst (pc' := 14) hE (nI 1) (by decide) dX3_isName_13 rfl ?_
      refine g_goto (tgt := 18) hE dX3_isName_14 rfl ?_
      exact hE.zret (by first | rfl | exact bI_nar _ | decide) (⟨rfl, by unfold hasB; first | rw [decide_eq_true (by omega)]; rfl | rw [decide_eq_false (by omega)]; rfl⟩) (Nat.zero_le _) (Nat.zero_le _) dX3_isName_18

set_option maxHeartbeats 4000000 in
set_option maxRecDepth 100000 in
theorem qX3_place (l : Launch) (D : va_G) (T : Nat → ClassId) (n0 s0 s1 s2 s3 s4 : Nat) (sl te pl le fr : Nat → Nat) (ns nc fb : Nat) (d : Nat) (hn : nc ≤ 800) (hd : d < 2 ^ 31) : Con l D T yX3_place cX3_place 2 (some .int) 1 0 0 [.ref n0, .int (nI d)] [(n0, .inr (2, [.ref s0, .ref s1, .ref s2, .ref s3, .ref s4, .int (nI ns), .int (nI nc), .int (nI fb)])), (s0, .inl (T 0, 201, .inl (fun j => nI (sl j)))), (s1, .inl (T 0, 800, .inl (fun j => nI (te j)))), (s2, .inl (T 0, 801, .inl (fun j => nI (pl j)))), (s3, .inl (T 0, 801, .inl (fun j => nI (le j)))), (s4, .inl (T 0, 801, .inl (fun j => nI (fr j))))] (fun v w1 => w1 = [(n0, .inr (2, [.ref s0, .ref s1, .ref s2, .ref s3, .ref s4, .int (nI ns), .int (nI nc), .int (nI fb)])), (s0, .inl (T 0, 201, .inl (fun j => nI (sl j)))), (s1, .inl (T 0, 800, .inl (fun j => nI (te j)))), (s2, .inl (T 0, 801, .inl (fun j => nI (pl j)))), (s3, .inl (T 0, 801, .inl (fun j => nI (le j)))), (s4, .inl (T 0, 801, .inl (fun j => nI (fr j))))] ∧ v = some (.int (nI (hv nc d (pl d))))) := by
  refine Con.of (by decide) (Nat.le_of_ble_eq_true rfl) ?_
  intro E hE
  refine g_lv (lv' := [(0, .ref n0), (1, .int (nI d))]) [0, 1] rfl ?_
  refine g_aload_n (pc' := 1) hE 0 rfl rfl dX3_place_0 rfl ?_
  refine g_iload_n (pc' := 2) hE 1 rfl rfl dX3_place_1 rfl ?_
  refine g_callV (pc' := 5) (As := [.int (nI d)]) (rest := []) hE (qX3_isName l D T n0 s0 s1 s2 s3 s4 sl te pl le fr ns nc fb d hn hd) mX3_isName kX3_51 iX3_isName sX3_isName (by decide) rfl (by decide) 0 rfl rfl [0, 1, 2, 3, 4, 5] rfl (by decide) rfl (Nat.le_of_ble_eq_true rfl) dX3_place_2 rfl (gBackR [0, 1, 2, 3, 4, 5] rfl ?_)
  rintro _ rfl
  refine g_st (st' := [.int (bI (hasB d nc))]) rfl ?_
  refine g_ifB_eq (pc' := 8) (tgt := 17) hE dX3_place_5 rfl rfl (fun hc5 => ?_) (fun hc5 => ?_)
  · have hc5 := of_decide_eq_false hc5
    refine g_iconst (pc' := 18) hE (nI 0) (by decide) dX3_place_17 rfl ?_
    exact hE.iret (⟨rfl, by first | rw [hv_in _ hc5.1 hc5.2] | rw [hv_out _ hc5]⟩) (Nat.zero_le _) (Nat.zero_le _) dX3_place_18
  · have hc5 := of_decide_eq_true hc5
    refine g_aload_n (pc' := 9) hE 0 rfl rfl dX3_place_8 rfl ?_
    refine g_get (pc' := 12) hE gcX3 0 rfl 2 (by decide) rfl kX3_18 dX3_place_9 rfl ?_
    refine g_iload_n (pc' := 13) hE 1 rfl rfl dX3_place_12 rfl ?_
    refine g_iald (pc' := 14) hE 3 rfl (by omega) (by omega) dX3_place_13 rfl ?_
    refine g_goto (tgt := 18) hE dX3_place_14 rfl ?_
    exact hE.iret (⟨rfl, by first | rw [hv_in _ hc5.1 hc5.2] | rw [hv_out _ hc5]⟩) (Nat.zero_le _) (Nat.zero_le _) dX3_place_18

set_option maxHeartbeats 4000000 in
set_option maxRecDepth 100000 in
theorem qX3_letters (l : Launch) (D : va_G) (T : Nat → ClassId) (n0 s0 s1 s2 s3 s4 : Nat) (sl te pl le fr : Nat → Nat) (ns nc fb : Nat) (d : Nat) (hn : nc ≤ 800) (hd : d < 2 ^ 31) : Con l D T yX3_letters cX3_letters 2 (some .int) 1 0 0 [.ref n0, .int (nI d)] [(n0, .inr (2, [.ref s0, .ref s1, .ref s2, .ref s3, .ref s4, .int (nI ns), .int (nI nc), .int (nI fb)])), (s0, .inl (T 0, 201, .inl (fun j => nI (sl j)))), (s1, .inl (T 0, 800, .inl (fun j => nI (te j)))), (s2, .inl (T 0, 801, .inl (fun j => nI (pl j)))), (s3, .inl (T 0, 801, .inl (fun j => nI (le j)))), (s4, .inl (T 0, 801, .inl (fun j => nI (fr j))))] (fun v w1 => w1 = [(n0, .inr (2, [.ref s0, .ref s1, .ref s2, .ref s3, .ref s4, .int (nI ns), .int (nI nc), .int (nI fb)])), (s0, .inl (T 0, 201, .inl (fun j => nI (sl j)))), (s1, .inl (T 0, 800, .inl (fun j => nI (te j)))), (s2, .inl (T 0, 801, .inl (fun j => nI (pl j)))), (s3, .inl (T 0, 801, .inl (fun j => nI (le j)))), (s4, .inl (T 0, 801, .inl (fun j => nI (fr j))))] ∧ v = some (.int (nI (hv nc d (le d))))) := by
  refine Con.of (by decide) (Nat.le_of_ble_eq_true rfl) ?_
  intro E hE
  refine g_lv (lv' := [(0, .ref n0), (1, .int (nI d))]) [0, 1] rfl ?_
  refine g_aload_n (pc' := 1) hE 0 rfl rfl dX3_letters_0 rfl ?_
  refine g_iload_n (pc' := 2) hE 1 rfl rfl dX3_letters_1 rfl ?_
  refine g_callV (pc' := 5) (As := [.int (nI d)]) (rest := []) hE (qX3_isName l D T n0 s0 s1 s2 s3 s4 sl te pl le fr ns nc fb d hn hd) mX3_isName kX3_51 iX3_isName sX3_isName (by decide) rfl (by decide) 0 rfl rfl [0, 1, 2, 3, 4, 5] rfl (by decide) rfl (Nat.le_of_ble_eq_true rfl) dX3_letters_2 rfl (gBackR [0, 1, 2, 3, 4, 5] rfl ?_)
  rintro _ rfl
  refine g_st (st' := [.int (bI (hasB d nc))]) rfl ?_
  refine g_ifB_eq (pc' := 8) (tgt := 17) hE dX3_letters_5 rfl rfl (fun hc5 => ?_) (fun hc5 => ?_)
  · have hc5 := of_decide_eq_false hc5
    refine g_iconst (pc' := 18) hE (nI 0) (by decide) dX3_letters_17 rfl ?_
    exact hE.iret (⟨rfl, by first | rw [hv_in _ hc5.1 hc5.2] | rw [hv_out _ hc5]⟩) (Nat.zero_le _) (Nat.zero_le _) dX3_letters_18
  · have hc5 := of_decide_eq_true hc5
    refine g_aload_n (pc' := 9) hE 0 rfl rfl dX3_letters_8 rfl ?_
    refine g_get (pc' := 12) hE gcX3 0 rfl 3 (by decide) rfl kX3_21 dX3_letters_9 rfl ?_
    refine g_iload_n (pc' := 13) hE 1 rfl rfl dX3_letters_12 rfl ?_
    refine g_iald (pc' := 14) hE 4 rfl (by omega) (by omega) dX3_letters_13 rfl ?_
    refine g_goto (tgt := 18) hE dX3_letters_14 rfl ?_
    exact hE.iret (⟨rfl, by first | rw [hv_in _ hc5.1 hc5.2] | rw [hv_out _ hc5]⟩) (Nat.zero_le _) (Nat.zero_le _) dX3_letters_18

set_option maxHeartbeats 4000000 in
set_option maxRecDepth 100000 in
theorem qX3_freshPlace (l : Launch) (D : va_G) (T : Nat → ClassId) (n0 s0 s1 s2 s3 s4 : Nat) (sl te pl le fr : Nat → Nat) (ns nc fb : Nat) (d : Nat) (hn : nc ≤ 800) (hd : d < 2 ^ 31) : Con l D T yX3_freshPlace cX3_freshPlace 2 (some .int) 1 0 0 [.ref n0, .int (nI d)] [(n0, .inr (2, [.ref s0, .ref s1, .ref s2, .ref s3, .ref s4, .int (nI ns), .int (nI nc), .int (nI fb)])), (s0, .inl (T 0, 201, .inl (fun j => nI (sl j)))), (s1, .inl (T 0, 800, .inl (fun j => nI (te j)))), (s2, .inl (T 0, 801, .inl (fun j => nI (pl j)))), (s3, .inl (T 0, 801, .inl (fun j => nI (le j)))), (s4, .inl (T 0, 801, .inl (fun j => nI (fr j))))] (fun v w1 => w1 = [(n0, .inr (2, [.ref s0, .ref s1, .ref s2, .ref s3, .ref s4, .int (nI ns), .int (nI nc), .int (nI fb)])), (s0, .inl (T 0, 201, .inl (fun j => nI (sl j)))), (s1, .inl (T 0, 800, .inl (fun j => nI (te j)))), (s2, .inl (T 0, 801, .inl (fun j => nI (pl j)))), (s3, .inl (T 0, 801, .inl (fun j => nI (le j)))), (s4, .inl (T 0, 801, .inl (fun j => nI (fr j))))] ∧ v = some (.int (nI (hv nc d (fr d))))) := by
  refine Con.of (by decide) (Nat.le_of_ble_eq_true rfl) ?_
  intro E hE
  refine g_lv (lv' := [(0, .ref n0), (1, .int (nI d))]) [0, 1] rfl ?_
  refine g_aload_n (pc' := 1) hE 0 rfl rfl dX3_freshPlace_0 rfl ?_
  refine g_iload_n (pc' := 2) hE 1 rfl rfl dX3_freshPlace_1 rfl ?_
  refine g_callV (pc' := 5) (As := [.int (nI d)]) (rest := []) hE (qX3_isName l D T n0 s0 s1 s2 s3 s4 sl te pl le fr ns nc fb d hn hd) mX3_isName kX3_51 iX3_isName sX3_isName (by decide) rfl (by decide) 0 rfl rfl [0, 1, 2, 3, 4, 5] rfl (by decide) rfl (Nat.le_of_ble_eq_true rfl) dX3_freshPlace_2 rfl (gBackR [0, 1, 2, 3, 4, 5] rfl ?_)
  rintro _ rfl
  refine g_st (st' := [.int (bI (hasB d nc))]) rfl ?_
  refine g_ifB_eq (pc' := 8) (tgt := 17) hE dX3_freshPlace_5 rfl rfl (fun hc5 => ?_) (fun hc5 => ?_)
  · have hc5 := of_decide_eq_false hc5
    refine g_iconst (pc' := 18) hE (nI 0) (by decide) dX3_freshPlace_17 rfl ?_
    exact hE.iret (⟨rfl, by first | rw [hv_in _ hc5.1 hc5.2] | rw [hv_out _ hc5]⟩) (Nat.zero_le _) (Nat.zero_le _) dX3_freshPlace_18
  · have hc5 := of_decide_eq_true hc5
    refine g_aload_n (pc' := 9) hE 0 rfl rfl dX3_freshPlace_8 rfl ?_
    refine g_get (pc' := 12) hE gcX3 0 rfl 4 (by decide) rfl kX3_24 dX3_freshPlace_9 rfl ?_
    refine g_iload_n (pc' := 13) hE 1 rfl rfl dX3_freshPlace_12 rfl ?_
    refine g_iald (pc' := 14) hE 5 rfl (by omega) (by omega) dX3_freshPlace_13 rfl ?_
    refine g_goto (tgt := 18) hE dX3_freshPlace_14 rfl ?_
    exact hE.iret (⟨rfl, by first | rw [hv_in _ hc5.1 hc5.2] | rw [hv_out _ hc5]⟩) (Nat.zero_le _) (Nat.zero_le _) dX3_freshPlace_18

set_option maxHeartbeats 4000000 in
set_option maxRecDepth 100000 in
theorem qX3_lettersFrom (l : Launch) (D : va_G) (T : Nat → ClassId) (x0 x1 cnt : Nat) (b : Nat → Nat) (s : Nat) (hc : cnt ≤ 8192) (hb : ∀ i, b i < 256) (hs : s < 2 ^ 20) : Con l D T yX3_lettersFrom cX3_lettersFrom 3 (some .int) 3 0 0 [.ref x0, .int (nI s)] [(x0, .inr (4, [.int (nI 8192), .ref x1, .int (nI cnt)])), (x1, .inl (T 1, ((8192 + 7) / 8), .inr (.inl (pack b))))] (fun v w1 => w1 = [(x0, .inr (4, [.int (nI 8192), .ref x1, .int (nI cnt)])), (x1, .inl (T 1, ((8192 + 7) / 8), .inr (.inl (pack b))))] ∧ v = some (.int (nI (lfr (cut b cnt) s)))) := by
  refine Con.of (by decide) (Nat.le_of_ble_eq_true rfl) ?_
  intro E hE
  have hL := lfr_cut (b := b) (s := s) hc
  refine g_lv (lv' := [(0, .ref x0), (1, .int (nI s))]) [0, 1] rfl ?_
  refine g_iload_n (pc' := 1) hE 1 rfl rfl dX3_lettersFrom_0 rfl ?_
  refine g_istore_n (pc' := 2) hE [(2, .int (nI s)), (0, .ref x0), (1, .int (nI s))] dX3_lettersFrom_1 rfl rfl (by decide) rfl ?_
  refine (show ∀ (d2 : Nat) (e : Nat), lfr (cut b cnt) s - e = d2 → (e ≤ lfr (cut b cnt) s) → (∀ j, j < e → cut b cnt (s + j) ≠ 0) → G l E D 3 0 0 [(x0, .inr (4, [.int (nI 8192), .ref x1, .int (nI cnt)])), (x1, .inl (T 1, ((8192 + 7) / 8), .inr (.inl (pack b))))] [(2, .int (nI (s + e))), (0, .ref x0), (1, .int (nI s))] 2 [] from ?_) _ 0 rfl (Nat.zero_le _) (fun j hj => absurd hj (by omega))
  intro d2
  induction d2 using Nat.strongRecOn with
  | _ d2 ih2 =>
  intro e hd2 he hall
  refine g_iload_n (pc' := 3) hE 0 rfl rfl dX3_lettersFrom_2 rfl ?_
  refine g_aload_n (pc' := 4) hE 1 rfl rfl dX3_lettersFrom_3 rfl ?_
  refine g_callV (pc' := 7) (As := []) (rest := [.int (nI (s + e))]) hE (qX5_count l D T x0 x1 8192 cnt b) mX5_count kX3_94 iX5_count sX5_count (by decide) rfl (by decide) 0 rfl rfl [0, 1] rfl (by decide) rfl (Nat.le_of_ble_eq_true rfl) dX3_lettersFrom_4 rfl (gBackR [0, 1] rfl ?_)
  rintro _ rfl
  refine g_st (st' := [.int (nI cnt), .int (nI (s + e))]) rfl ?_
  refine g_icmpN_ge (pc' := 10) (tgt := 24) hE (by omega) (by omega) dX3_lettersFrom_7 rfl rfl (fun hc7 => ?_) (fun hc7 => ?_)
  · refine g_iload_n (pc' := 25) hE 0 rfl rfl dX3_lettersFrom_24 rfl ?_
    refine g_iload_n (pc' := 26) hE 2 rfl rfl dX3_lettersFrom_25 rfl ?_
    refine g_isub (pc' := 27) hE dX3_lettersFrom_26 rfl ?_
    refine g_eqi (show _ = nI (s + e - s) from pk_sub (by omega)) ?_
    refine g_eqi (show _ = nI e from by rw [show s + e - s = e by omega]) ?_
    exact hE.iret (⟨rfl, by rw [lfr_eq (n := e) (by omega) hall (by first | exact cut_out (by omega) | exact hc15)]⟩) (Nat.zero_le _) (Nat.zero_le _) dX3_lettersFrom_27
  · refine g_aload_n (pc' := 11) hE 1 rfl rfl dX3_lettersFrom_10 rfl ?_
    refine g_iload_n (pc' := 12) hE 0 rfl rfl dX3_lettersFrom_11 rfl ?_
    refine g_callV (pc' := 15) (As := [.int (nI (s + e))]) (rest := []) hE (qX5_at l D T x0 x1 8192 cnt b (s + e) (by decide) hc hb (by omega)) mX5_at kX3_95 iX5_at sX5_at (by decide) rfl (by decide) 0 rfl rfl [0, 1] rfl (by decide) rfl (Nat.le_of_ble_eq_true rfl) dX3_lettersFrom_12 rfl (gBackR [0, 1] rfl ?_)
    rintro _ rfl
    refine g_st (st' := [.int (nI (cut b cnt (s + e)))]) rfl ?_
    have h15 := cut_lt (c := cnt) hb (s + e)
    refine g_ifN_eq (pc' := 18) (tgt := 24) hE (by omega) dX3_lettersFrom_15 rfl rfl (fun hc15 => ?_) (fun hc15 => ?_)
    · refine g_iload_n (pc' := 25) hE 0 rfl rfl dX3_lettersFrom_24 rfl ?_
      refine g_iload_n (pc' := 26) hE 2 rfl rfl dX3_lettersFrom_25 rfl ?_
      refine g_isub (pc' := 27) hE dX3_lettersFrom_26 rfl ?_
      refine g_eqi (show _ = nI (s + e - s) from pk_sub (by omega)) ?_
      refine g_eqi (show _ = nI e from by rw [show s + e - s = e by omega]) ?_
      exact hE.iret (⟨rfl, by rw [lfr_eq (n := e) (by omega) hall (by first | exact cut_out (by omega) | exact hc15)]⟩) (Nat.zero_le _) (Nat.zero_le _) dX3_lettersFrom_27
    · refine g_iinc (pc' := 21) hE (nI (s + e + 1)) [(2, .int (nI (s + e + 1))), (0, .ref x0), (1, .int (nI s))] 0 rfl dX3_lettersFrom_18 rfl (g_incN _ 1) (by decide) rfl ?_
      refine g_goto (tgt := 2) hE dX3_lettersFrom_21 rfl ?_
      exact ih2 _ (by have : e < lfr (cut b cnt) s := Nat.lt_of_le_of_ne he (fun z => hc15 (by rw [z]; exact hL.2.2)); omega) (e + 1) rfl (Nat.lt_of_le_of_ne he (fun z => hc15 (by rw [z]; exact hL.2.2))) (lt_s hall hc15)

set_option maxHeartbeats 4000000 in
set_option maxRecDepth 100000 in
theorem qX3_added (l : Launch) (D : va_G) (T : Nat → ClassId) (n0 s0 s1 s2 s3 s4 : Nat) (sl te pl le fr : Nat → Nat) (ns nc fb : Nat) (s m : Nat) (hn : nc < 800) (hf : fb < 2 ^ 30) (hm : m < 2 ^ 20) : Con l D T yX3_added cX3_added 3 (some .int) 0 0 0 [.ref n0, .int (nI s), .int (nI m)] [(n0, .inr (2, [.ref s0, .ref s1, .ref s2, .ref s3, .ref s4, .int (nI ns), .int (nI nc), .int (nI fb)])), (s0, .inl (T 0, 201, .inl (fun j => nI (sl j)))), (s1, .inl (T 0, 800, .inl (fun j => nI (te j)))), (s2, .inl (T 0, 801, .inl (fun j => nI (pl j)))), (s3, .inl (T 0, 801, .inl (fun j => nI (le j)))), (s4, .inl (T 0, 801, .inl (fun j => nI (fr j))))] (fun v w1 => v = some (.int (nI (nc + 1))) ∧ w1 = [(n0, .inr (2, [.ref s0, .ref s1, .ref s2, .ref s3, .ref s4, .int (nI ns), .int (nI (nc + 1)), .int (nI (fb + (m + 1)))])), (s0, .inl (T 0, 201, .inl (fun j => nI (sl j)))), (s1, .inl (T 0, 800, .inl (fun j => nI (te j)))), (s2, .inl (T 0, 801, .inl (fun j => nI ((gu pl (nc + 1) s) j)))), (s3, .inl (T 0, 801, .inl (fun j => nI ((gu le (nc + 1) m) j)))), (s4, .inl (T 0, 801, .inl (fun j => nI ((gu fr (nc + 1) fb) j))))]) := by
  refine Con.of (by decide) (Nat.le_of_ble_eq_true rfl) ?_
  intro E hE
  refine g_lv (lv' := [(0, .ref n0), (1, .int (nI s)), (2, .int (nI m))]) [0, 1, 2] rfl ?_
  refine g_aload_n (pc' := 1) hE 0 rfl rfl dX3_added_0 rfl ?_
  refine g_get (pc' := 4) hE gcX3 0 rfl 6 (by decide) rfl kX3_31 dX3_added_1 rfl ?_
  refine g_sipush (pc' := 7) hE (nI 800) (by decide) dX3_added_4 rfl ?_
  refine g_icmpN_lt (pc' := 10) (tgt := 12) hE (by omega) (by omega) dX3_added_7 rfl rfl (fun hc7 => ?_) (fun hc7 => ?_)
  rotate_left
  · omega
  refine g_aload_n (pc' := 13) hE 0 rfl rfl dX3_added_12 rfl ?_
  refine g_dup (pc' := 14) hE rfl dX3_added_13 rfl ?_
  refine g_get (pc' := 17) hE gcX3 0 rfl 6 (by decide) rfl kX3_31 dX3_added_14 rfl ?_
  refine g_iconst (pc' := 18) hE (nI 1) (by decide) dX3_added_17 rfl ?_
  refine g_iadd (pc' := 19) hE dX3_added_18 rfl ?_
  refine g_eqi (show _ = nI (nc + 1) from nI_add _ _) ?_
  refine g_put (pc' := 22) hE gcX3 0 rfl 6 [(n0, .inr (2, [.ref s0, .ref s1, .ref s2, .ref s3, .ref s4, .int (nI ns), .int (nI (nc + 1)), .int (nI fb)])), (s0, .inl (T 0, 201, .inl (fun j => nI (sl j)))), (s1, .inl (T 0, 800, .inl (fun j => nI (te j)))), (s2, .inl (T 0, 801, .inl (fun j => nI (pl j)))), (s3, .inl (T 0, 801, .inl (fun j => nI (le j)))), (s4, .inl (T 0, 801, .inl (fun j => nI (fr j))))] (by decide) (Nat.le_of_ble_eq_true rfl) rfl rfl rfl rfl kX3_31 dX3_added_19 rfl ?_
  refine g_aload_n (pc' := 23) hE 0 rfl rfl dX3_added_22 rfl ?_
  refine g_get (pc' := 26) hE gcX3 0 rfl 2 (by decide) rfl kX3_18 dX3_added_23 rfl ?_
  refine g_aload_n (pc' := 27) hE 0 rfl rfl dX3_added_26 rfl ?_
  refine g_get (pc' := 30) hE gcX3 0 rfl 6 (by decide) rfl kX3_31 dX3_added_27 rfl ?_
  refine g_iload_n (pc' := 31) hE 1 rfl rfl dX3_added_30 rfl ?_
  refine g_iast (pc' := 32) hE 3 [(n0, .inr (2, [.ref s0, .ref s1, .ref s2, .ref s3, .ref s4, .int (nI ns), .int (nI (nc + 1)), .int (nI fb)])), (s0, .inl (T 0, 201, .inl (fun j => nI (sl j)))), (s1, .inl (T 0, 800, .inl (fun j => nI (te j)))), (s2, .inl (T 0, 801, .inl (fun j => nI ((gu pl (nc + 1) s) j)))), (s3, .inl (T 0, 801, .inl (fun j => nI (le j)))), (s4, .inl (T 0, 801, .inl (fun j => nI (fr j))))] rfl (by omega) (by omega) (gu_I _ _ _) rfl dX3_added_31 rfl ?_
  refine g_aload_n (pc' := 33) hE 0 rfl rfl dX3_added_32 rfl ?_
  refine g_get (pc' := 36) hE gcX3 0 rfl 3 (by decide) rfl kX3_21 dX3_added_33 rfl ?_
  refine g_aload_n (pc' := 37) hE 0 rfl rfl dX3_added_36 rfl ?_
  refine g_get (pc' := 40) hE gcX3 0 rfl 6 (by decide) rfl kX3_31 dX3_added_37 rfl ?_
  refine g_iload_n (pc' := 41) hE 2 rfl rfl dX3_added_40 rfl ?_
  refine g_iast (pc' := 42) hE 4 [(n0, .inr (2, [.ref s0, .ref s1, .ref s2, .ref s3, .ref s4, .int (nI ns), .int (nI (nc + 1)), .int (nI fb)])), (s0, .inl (T 0, 201, .inl (fun j => nI (sl j)))), (s1, .inl (T 0, 800, .inl (fun j => nI (te j)))), (s2, .inl (T 0, 801, .inl (fun j => nI ((gu pl (nc + 1) s) j)))), (s3, .inl (T 0, 801, .inl (fun j => nI ((gu le (nc + 1) m) j)))), (s4, .inl (T 0, 801, .inl (fun j => nI (fr j))))] rfl (by omega) (by omega) (gu_I _ _ _) rfl dX3_added_41 rfl ?_
  refine g_aload_n (pc' := 43) hE 0 rfl rfl dX3_added_42 rfl ?_
  refine g_get (pc' := 46) hE gcX3 0 rfl 4 (by decide) rfl kX3_24 dX3_added_43 rfl ?_
  refine g_aload_n (pc' := 47) hE 0 rfl rfl dX3_added_46 rfl ?_
  refine g_get (pc' := 50) hE gcX3 0 rfl 6 (by decide) rfl kX3_31 dX3_added_47 rfl ?_
  refine g_aload_n (pc' := 51) hE 0 rfl rfl dX3_added_50 rfl ?_
  refine g_get (pc' := 54) hE gcX3 0 rfl 7 (by decide) rfl kX3_34 dX3_added_51 rfl ?_
  refine g_iast (pc' := 55) hE 5 [(n0, .inr (2, [.ref s0, .ref s1, .ref s2, .ref s3, .ref s4, .int (nI ns), .int (nI (nc + 1)), .int (nI fb)])), (s0, .inl (T 0, 201, .inl (fun j => nI (sl j)))), (s1, .inl (T 0, 800, .inl (fun j => nI (te j)))), (s2, .inl (T 0, 801, .inl (fun j => nI ((gu pl (nc + 1) s) j)))), (s3, .inl (T 0, 801, .inl (fun j => nI ((gu le (nc + 1) m) j)))), (s4, .inl (T 0, 801, .inl (fun j => nI ((gu fr (nc + 1) fb) j))))] rfl (by omega) (by omega) (gu_I _ _ _) rfl dX3_added_54 rfl ?_
  refine g_aload_n (pc' := 56) hE 0 rfl rfl dX3_added_55 rfl ?_
  refine g_dup (pc' := 57) hE rfl dX3_added_56 rfl ?_
  refine g_get (pc' := 60) hE gcX3 0 rfl 7 (by decide) rfl kX3_34 dX3_added_57 rfl ?_
  refine g_iload_n (pc' := 61) hE 2 rfl rfl dX3_added_60 rfl ?_
  refine g_iconst (pc' := 62) hE (nI 1) (by decide) dX3_added_61 rfl ?_
  refine g_iadd (pc' := 63) hE dX3_added_62 rfl ?_
  refine g_eqi (show _ = nI (m + 1) from nI_add _ _) ?_
  refine g_iadd (pc' := 64) hE dX3_added_63 rfl ?_
  refine g_eqi (show _ = nI (fb + (m + 1)) from nI_add _ _) ?_
  refine g_put (pc' := 67) hE gcX3 0 rfl 7 [(n0, .inr (2, [.ref s0, .ref s1, .ref s2, .ref s3, .ref s4, .int (nI ns), .int (nI (nc + 1)), .int (nI (fb + (m + 1)))])), (s0, .inl (T 0, 201, .inl (fun j => nI (sl j)))), (s1, .inl (T 0, 800, .inl (fun j => nI (te j)))), (s2, .inl (T 0, 801, .inl (fun j => nI ((gu pl (nc + 1) s) j)))), (s3, .inl (T 0, 801, .inl (fun j => nI ((gu le (nc + 1) m) j)))), (s4, .inl (T 0, 801, .inl (fun j => nI ((gu fr (nc + 1) fb) j))))] (by decide) (Nat.le_of_ble_eq_true rfl) rfl rfl rfl rfl kX3_34 dX3_added_64 rfl ?_
  refine g_aload_n (pc' := 68) hE 0 rfl rfl dX3_added_67 rfl ?_
  refine g_get (pc' := 71) hE gcX3 0 rfl 6 (by decide) rfl kX3_31 dX3_added_68 rfl ?_
  exact hE.iret (⟨rfl, rfl⟩) (Nat.zero_le _) (Nat.zero_le _) dX3_added_71

set_option maxHeartbeats 4000000 in
set_option maxRecDepth 100000 in
theorem qX3_numberOf (l : Launch) (D : va_G) (T : Nat → ClassId) (n0 s0 s1 s2 s3 s4 : Nat) (sl te pl le fr : Nat → Nat) (ns nc fb : Nat) (x0 x1 cnt : Nat) (b : Nat → Nat) (s : Nat) (hD : DOK (cut b cnt) pl le fr nc fb) (hn : nc < 800) (hc : cnt ≤ 8192) (hb : ∀ i, b i < 256) (hs : s < 2 ^ 20) : Con l D T yX3_numberOf cX3_numberOf 5 (some .int) 4 0 0 [.ref n0, .ref x0, .int (nI s)] [(n0, .inr (2, [.ref s0, .ref s1, .ref s2, .ref s3, .ref s4, .int (nI ns), .int (nI nc), .int (nI fb)])), (s0, .inl (T 0, 201, .inl (fun j => nI (sl j)))), (s1, .inl (T 0, 800, .inl (fun j => nI (te j)))), (s2, .inl (T 0, 801, .inl (fun j => nI (pl j)))), (s3, .inl (T 0, 801, .inl (fun j => nI (le j)))), (s4, .inl (T 0, 801, .inl (fun j => nI (fr j)))), (x0, .inr (4, [.int (nI 8192), .ref x1, .int (nI cnt)])), (x1, .inl (T 1, ((8192 + 7) / 8), .inr (.inl (pack b))))] (fun v w1 => ∃ (pl' le' fr' : Nat → Nat) (nc' fb' r : Nat), v = some (.int (nI r)) ∧ w1 = [(n0, .inr (2, [.ref s0, .ref s1, .ref s2, .ref s3, .ref s4, .int (nI ns), .int (nI nc'), .int (nI fb')])), (s0, .inl (T 0, 201, .inl (fun j => nI (sl j)))), (s1, .inl (T 0, 800, .inl (fun j => nI (te j)))), (s2, .inl (T 0, 801, .inl (fun j => nI (pl' j)))), (s3, .inl (T 0, 801, .inl (fun j => nI (le' j)))), (s4, .inl (T 0, 801, .inl (fun j => nI (fr' j)))), (x0, .inr (4, [.int (nI 8192), .ref x1, .int (nI cnt)])), (x1, .inl (T 1, ((8192 + 7) / 8), .inr (.inl (pack b))))] ∧ NumOf (cut b cnt) s pl le fr nc fb pl' le' fr' nc' fb' r) := by
  refine Con.of (by decide) (Nat.le_of_ble_eq_true rfl) ?_
  intro E hE
  have hL := lfr_cut (b := b) (s := s) hc
  obtain ⟨⟨hB, hfb, hnc⟩, hd1, -⟩ := id hD
  have hm9 : nc * 8193 ≤ 799 * 8193 := Nat.mul_le_mul_right _ (by omega)
  refine g_lv (lv' := [(0, .ref n0), (1, .ref x0), (2, .int (nI s))]) [0, 1, 2] rfl ?_
  refine g_aload_n (pc' := 1) hE 1 rfl rfl dX3_numberOf_0 rfl ?_
  refine g_iload_n (pc' := 2) hE 2 rfl rfl dX3_numberOf_1 rfl ?_
  refine g_callS (pc' := 5) (As := [.ref x0, .int (nI s)]) (rest := []) hE (qX3_lettersFrom l D T x0 x1 cnt b s hc hb hs) mX3_lettersFrom kX3_82 iX3_lettersFrom (by decide) rfl (by decide) [6, 7] rfl (by decide) rfl (Nat.le_of_ble_eq_true rfl) dX3_numberOf_2 rfl (gBackR [6, 7] rfl ?_)
  rintro _ rfl
  refine g_st (st' := [.int (nI (lfr (cut b cnt) s))]) rfl ?_
  refine g_istore_n (pc' := 6) hE [(3, .int (nI (lfr (cut b cnt) s))), (0, .ref n0), (1, .ref x0), (2, .int (nI s))] dX3_numberOf_5 rfl rfl (by decide) rfl ?_
  refine g_iload_n (pc' := 7) hE 0 rfl rfl dX3_numberOf_6 rfl ?_
  refine g_ifN_ne (pc' := 10) (tgt := 12) hE (by omega) dX3_numberOf_7 rfl rfl (fun hc7 => ?_) (fun hc7 => ?_)
  · refine g_iconst (pc' := 13) hE (nI 1) (by decide) dX3_numberOf_12 rfl ?_
    refine g_istore (pc' := 15) hE [(4, .int (nI 1)), (3, .int (nI (lfr (cut b cnt) s))), (0, .ref n0), (1, .ref x0), (2, .int (nI s))] dX3_numberOf_13 rfl (by decide) rfl ?_
    refine (show ∀ (d15 : Nat) (d : Nat), nc - d = d15 → (d ≤ nc) → (∀ e, 1 ≤ e → e ≤ d → ¬ seqn (cut b cnt) (pl e) s) → G l E D 5 0 0 [(n0, .inr (2, [.ref s0, .ref s1, .ref s2, .ref s3, .ref s4, .int (nI ns), .int (nI nc), .int (nI fb)])), (s0, .inl (T 0, 201, .inl (fun j => nI (sl j)))), (s1, .inl (T 0, 800, .inl (fun j => nI (te j)))), (s2, .inl (T 0, 801, .inl (fun j => nI (pl j)))), (s3, .inl (T 0, 801, .inl (fun j => nI (le j)))), (s4, .inl (T 0, 801, .inl (fun j => nI (fr j)))), (x0, .inr (4, [.int (nI 8192), .ref x1, .int (nI cnt)])), (x1, .inl (T 1, ((8192 + 7) / 8), .inr (.inl (pack b))))] [(4, .int (nI (d + 1))), (3, .int (nI (lfr (cut b cnt) s))), (0, .ref n0), (1, .ref x0), (2, .int (nI s))] 15 [] from ?_) _ 0 rfl (Nat.zero_le _) (fun e h1 h2 => absurd h2 (by omega))
    intro d15
    induction d15 using Nat.strongRecOn with
    | _ d15 ih15 =>
    intro d hd15 hd hno
    refine g_iload (pc' := 17) hE 0 rfl dX3_numberOf_15 rfl ?_
    refine g_aload_n (pc' := 18) hE 2 rfl rfl dX3_numberOf_17 rfl ?_
    refine g_get (pc' := 21) hE gcX3 0 rfl 6 (by decide) rfl kX3_31 dX3_numberOf_18 rfl ?_
    refine g_icmpN_gt (pc' := 24) (tgt := 72) hE (by omega) (by omega) dX3_numberOf_21 rfl rfl (fun hc21 => ?_) (fun hc21 => ?_)
    · refine g_aload_n (pc' := 73) hE 2 rfl rfl dX3_numberOf_72 rfl ?_
      refine g_iload_n (pc' := 74) hE 4 rfl rfl dX3_numberOf_73 rfl ?_
      refine g_iload_n (pc' := 75) hE 1 rfl rfl dX3_numberOf_74 rfl ?_
      refine g_callV (pc' := 78) (As := [.int (nI s), .int (nI (lfr (cut b cnt) s))]) (rest := []) hE (qX3_added l D T n0 s0 s1 s2 s3 s4 sl te pl le fr ns nc fb s (lfr (cut b cnt) s) hn (by omega) (by omega)) mX3_added kX3_91 iX3_added sX3_added (by decide) rfl (by decide) 0 rfl rfl [0, 1, 2, 3, 4, 5] rfl (by decide) rfl (Nat.le_of_ble_eq_true rfl) dX3_numberOf_75 rfl (gBackU [0, 1, 2, 3, 4, 5] rfl (fun v w1 h => by obtain ⟨_, rfl⟩ := h; simp only [List.map_cons, List.map_nil]) ?_)
      rintro _ _ ⟨rfl, rfl⟩
      refine g_w (ws' := [(n0, .inr (2, [.ref s0, .ref s1, .ref s2, .ref s3, .ref s4, .int (nI ns), .int (nI (nc + 1)), .int (nI (fb + (lfr (cut b cnt) s + 1)))])), (s0, .inl (T 0, 201, .inl (fun j => nI (sl j)))), (s1, .inl (T 0, 800, .inl (fun j => nI (te j)))), (s2, .inl (T 0, 801, .inl (fun j => nI ((gu pl (nc + 1) s) j)))), (s3, .inl (T 0, 801, .inl (fun j => nI ((gu le (nc + 1) (lfr (cut b cnt) s)) j)))), (s4, .inl (T 0, 801, .inl (fun j => nI ((gu fr (nc + 1) fb) j)))), (x0, .inr (4, [.int (nI 8192), .ref x1, .int (nI cnt)])), (x1, .inl (T 1, ((8192 + 7) / 8), .inr (.inl (pack b))))]) rfl ?_
      refine g_st (st' := [.int (nI (nc + 1))]) rfl ?_
      exact hE.iret (⟨_, _, _, _, _, _, rfl, rfl, Or.inr (Or.inr ⟨hc7, fun e h1 h2 => hno e h1 (by omega), rfl, rfl, rfl, rfl, rfl, rfl⟩)⟩) (Nat.zero_le _) (Nat.zero_le _) dX3_numberOf_78
    · refine g_aload_n (pc' := 25) hE 2 rfl rfl dX3_numberOf_24 rfl ?_
      refine g_get (pc' := 28) hE gcX3 0 rfl 3 (by decide) rfl kX3_21 dX3_numberOf_25 rfl ?_
      refine g_iload (pc' := 30) hE 0 rfl dX3_numberOf_28 rfl ?_
      refine g_iald (pc' := 31) hE 4 rfl (by omega) (by omega) dX3_numberOf_30 rfl ?_
      have hle := (hB (d + 1)).2.1
      have hlp := (hB (d + 1)).1
      have hdl := hd1 (d + 1) (by omega) (by omega)
      refine g_iload_n (pc' := 32) hE 1 rfl rfl dX3_numberOf_31 rfl ?_
      refine g_icmpN_ne (pc' := 35) (tgt := 66) hE (by omega) (by omega) dX3_numberOf_32 rfl rfl (fun hc32 => ?_) (fun hc32 => ?_)
      · have hx66 : ¬ seqn (cut b cnt) (pl (d + 1)) s := fun z => hc32 (hdl.1.trans z.1)
        refine g_iinc (pc' := 69) hE (nI (d + 1 + 1)) [(4, .int (nI (d + 1 + 1))), (3, .int (nI (lfr (cut b cnt) s))), (0, .ref n0), (1, .ref x0), (2, .int (nI s))] 0 rfl dX3_numberOf_66 rfl (g_incN _ 1) (by decide) rfl ?_
        refine g_goto (tgt := 15) hE dX3_numberOf_69 rfl ?_
        exact ih15 _ (by omega) (d + 1) rfl (by omega) (fun e h1 h2 => (Nat.lt_or_ge e (d + 1)).elim (fun z => hno e h1 (by omega)) (fun z => by rw [show e = d + 1 by omega]; exact hx66))
      · refine g_aload_n (pc' := 36) hE 2 rfl rfl dX3_numberOf_35 rfl ?_
        refine g_get (pc' := 39) hE gcX3 0 rfl 2 (by decide) rfl kX3_18 dX3_numberOf_36 rfl ?_
        refine g_iload (pc' := 41) hE 0 rfl dX3_numberOf_39 rfl ?_
        refine g_iald (pc' := 42) hE 3 rfl (by omega) (by omega) dX3_numberOf_41 rfl ?_
        refine g_iload_n (pc' := 43) hE 4 rfl rfl dX3_numberOf_42 rfl ?_
        refine g_icmpN_eq (pc' := 46) (tgt := 63) hE (by omega) (by omega) dX3_numberOf_43 rfl rfl (fun hc43 => ?_) (fun hc43 => ?_)
        · refine g_iload (pc' := 65) hE 0 rfl dX3_numberOf_63 rfl ?_
          exact hE.iret (⟨_, _, _, _, _, _, rfl, rfl, Or.inr (Or.inl ⟨hc7, by omega, by omega, by first | (rw [hc43]; exact seqn.rf _ _) | exact (sameB_seqn rfl (hdl.1.symm.trans hc32)).mp hc60, rfl, rfl, rfl, rfl, rfl⟩)⟩) (Nat.zero_le _) (Nat.zero_le _) dX3_numberOf_65
        · refine g_aload_n (pc' := 47) hE 3 rfl rfl dX3_numberOf_46 rfl ?_
          refine g_iload_n (pc' := 48) hE 4 rfl rfl dX3_numberOf_47 rfl ?_
          refine g_aload_n (pc' := 49) hE 3 rfl rfl dX3_numberOf_48 rfl ?_
          refine g_aload_n (pc' := 50) hE 2 rfl rfl dX3_numberOf_49 rfl ?_
          refine g_get (pc' := 53) hE gcX3 0 rfl 2 (by decide) rfl kX3_18 dX3_numberOf_50 rfl ?_
          refine g_iload (pc' := 55) hE 0 rfl dX3_numberOf_53 rfl ?_
          refine g_iald (pc' := 56) hE 3 rfl (by omega) (by omega) dX3_numberOf_55 rfl ?_
          refine g_iload_n (pc' := 57) hE 1 rfl rfl dX3_numberOf_56 rfl ?_
          refine g_callV (pc' := 60) (As := [.int (nI s), .ref x0, .int (nI (pl (d + 1))), .int (nI (lfr (cut b cnt) s))]) (rest := []) hE (qX5_same1 l D T x0 x1 8192 cnt b s (pl (d + 1)) (lfr (cut b cnt) s) (by decide) hc hb (by omega) (by have := (hB (d + 1)).1; omega) (by omega)) mX5_same kX3_85 iX5_same sX5_same (by decide) rfl (by decide) 6 rfl rfl [6, 7] rfl (by decide) rfl (Nat.le_of_ble_eq_true rfl) dX3_numberOf_57 rfl (gBackR [6, 7] rfl ?_)
          rintro _ rfl
          refine g_st (st' := [.int (bI (sameB (cut b cnt) s (cut b cnt) (pl (d + 1)) (lfr (cut b cnt) s)))]) rfl ?_
          refine g_ifB_eq (pc' := 63) (tgt := 66) hE dX3_numberOf_60 rfl rfl (fun hc60 => ?_) (fun hc60 => ?_)
          · have hx66 : ¬ seqn (cut b cnt) (pl (d + 1)) s := fun z => by rw [(sameB_seqn rfl (hdl.1.symm.trans hc32)).mpr z] at hc60; cases hc60
            refine g_iinc (pc' := 69) hE (nI (d + 1 + 1)) [(4, .int (nI (d + 1 + 1))), (3, .int (nI (lfr (cut b cnt) s))), (0, .ref n0), (1, .ref x0), (2, .int (nI s))] 0 rfl dX3_numberOf_66 rfl (g_incN _ 1) (by decide) rfl ?_
            refine g_goto (tgt := 15) hE dX3_numberOf_69 rfl ?_
            exact ih15 _ (by omega) (d + 1) rfl (by omega) (fun e h1 h2 => (Nat.lt_or_ge e (d + 1)).elim (fun z => hno e h1 (by omega)) (fun z => by rw [show e = d + 1 by omega]; exact hx66))
          · refine g_iload (pc' := 65) hE 0 rfl dX3_numberOf_63 rfl ?_
            exact hE.iret (⟨_, _, _, _, _, _, rfl, rfl, Or.inr (Or.inl ⟨hc7, by omega, by omega, by first | (rw [hc43]; exact seqn.rf _ _) | exact (sameB_seqn rfl (hdl.1.symm.trans hc32)).mp hc60, rfl, rfl, rfl, rfl, rfl⟩)⟩) (Nat.zero_le _) (Nat.zero_le _) dX3_numberOf_65
  · refine g_iconst (pc' := 11) hE (nI 0) (by decide) dX3_numberOf_10 rfl ?_
    exact hE.iret (⟨_, _, _, _, _, _, rfl, rfl, Or.inl ⟨hc7, rfl, rfl, rfl, rfl, rfl, rfl⟩⟩) (Nat.zero_le _) (Nat.zero_le _) dX3_numberOf_11
