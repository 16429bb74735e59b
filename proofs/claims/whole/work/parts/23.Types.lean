set_option maxHeartbeats 4000000 in
set_option maxRecDepth 100000 in
theorem qX7_count (l : Launch) (D : va_G) (T : Nat → ClassId) (h0 a1 a2 a3 x0 n sg : Nat) (af inf wf : Nat → Nat)  : Con l D T yX7_count cX7_count 1 (some .int) 0 0 0 [.ref h0] [(h0, .inr (6, [.ref a1, .ref a2, .ref a3, .ref x0, .int (nI n), .int (nI sg)])), (a1, .inl (T 0, 201, .inl (fun j => nI (af j)))), (a2, .inl (T 1, 201, .inr (.inl (fun j => lN (inf j))))), (a3, .inl (T 0, 201, .inl (fun j => nI (wf j))))] (fun v w1 => w1 = [(h0, .inr (6, [.ref a1, .ref a2, .ref a3, .ref x0, .int (nI n), .int (nI sg)])), (a1, .inl (T 0, 201, .inl (fun j => nI (af j)))), (a2, .inl (T 1, 201, .inr (.inl (fun j => lN (inf j))))), (a3, .inl (T 0, 201, .inl (fun j => nI (wf j))))] ∧ v = some (.int (nI n))) := by
  refine Con.of (by decide) (Nat.le_of_ble_eq_true rfl) ?_
  intro E hE
  refine g_lv (lv' := [(0, .ref h0)]) [0] rfl ?_
  refine g_aload_n (pc' := 1) hE 0 rfl rfl dX7_count_0 rfl ?_
  refine g_get (pc' := 4) hE gcX7 0 rfl 4 (by decide) rfl kX7_31 dX7_count_1 rfl ?_
  exact hE.iret (⟨rfl, rfl⟩) (by omega) (by omega) dX7_count_4

set_option maxHeartbeats 4000000 in
set_option maxRecDepth 100000 in
theorem qX7_strings (l : Launch) (D : va_G) (T : Nat → ClassId) (h0 a1 a2 a3 x0 n sg : Nat) (af inf wf : Nat → Nat)  : Con l D T yX7_strings cX7_strings 1 (some .int) 0 0 0 [.ref h0] [(h0, .inr (6, [.ref a1, .ref a2, .ref a3, .ref x0, .int (nI n), .int (nI sg)])), (a1, .inl (T 0, 201, .inl (fun j => nI (af j)))), (a2, .inl (T 1, 201, .inr (.inl (fun j => lN (inf j))))), (a3, .inl (T 0, 201, .inl (fun j => nI (wf j))))] (fun v w1 => w1 = [(h0, .inr (6, [.ref a1, .ref a2, .ref a3, .ref x0, .int (nI n), .int (nI sg)])), (a1, .inl (T 0, 201, .inl (fun j => nI (af j)))), (a2, .inl (T 1, 201, .inr (.inl (fun j => lN (inf j))))), (a3, .inl (T 0, 201, .inl (fun j => nI (wf j))))] ∧ v = some (.int (nI sg))) := by
  refine Con.of (by decide) (Nat.le_of_ble_eq_true rfl) ?_
  intro E hE
  refine g_lv (lv' := [(0, .ref h0)]) [0] rfl ?_
  refine g_aload_n (pc' := 1) hE 0 rfl rfl dX7_strings_0 rfl ?_
  refine g_get (pc' := 4) hE gcX7 0 rfl 5 (by decide) rfl kX7_35 dX7_strings_1 rfl ?_
  exact hE.iret (⟨rfl, rfl⟩) (by omega) (by omega) dX7_strings_4

set_option maxHeartbeats 4000000 in
set_option maxRecDepth 100000 in
theorem qX7_text (l : Launch) (D : va_G) (T : Nat → ClassId) (h0 a1 a2 a3 x0 n sg : Nat) (af inf wf : Nat → Nat)  : Con l D T yX7_text cX7_text 1 (some (.object "TypeFold$Row")) 0 0 0 [.ref h0] [(h0, .inr (6, [.ref a1, .ref a2, .ref a3, .ref x0, .int (nI n), .int (nI sg)])), (a1, .inl (T 0, 201, .inl (fun j => nI (af j)))), (a2, .inl (T 1, 201, .inr (.inl (fun j => lN (inf j))))), (a3, .inl (T 0, 201, .inl (fun j => nI (wf j))))] (fun v w1 => w1 = [(h0, .inr (6, [.ref a1, .ref a2, .ref a3, .ref x0, .int (nI n), .int (nI sg)])), (a1, .inl (T 0, 201, .inl (fun j => nI (af j)))), (a2, .inl (T 1, 201, .inr (.inl (fun j => lN (inf j))))), (a3, .inl (T 0, 201, .inl (fun j => nI (wf j))))] ∧ v = some (.ref x0)) := by
  refine Con.of (by decide) (Nat.le_of_ble_eq_true rfl) ?_
  intro E hE
  refine g_lv (lv' := [(0, .ref h0)]) [0] rfl ?_
  refine g_aload_n (pc' := 1) hE 0 rfl rfl dX7_text_0 rfl ?_
  refine g_get (pc' := 4) hE gcX7 0 rfl 3 (by decide) rfl kX7_27 dX7_text_1 rfl ?_
  exact hE.aret (⟨rfl, rfl⟩) (by omega) (by omega) dX7_text_4

set_option maxHeartbeats 4000000 in
set_option maxRecDepth 100000 in
/-- has, of a number -/
theorem qX7_has (l : Launch) (D : va_G) (T : Nat → ClassId) (h0 a1 a2 a3 x0 n sg : Nat) (af inf wf : Nat → Nat) (i : Nat) (hn : n ≤ 200) (hi : i < 2 ^ 31) : Con l D T yX7_has cX7_has 2 (some .boolean) 0 0 0 [.ref h0, .int (nI i)] [(h0, .inr (6, [.ref a1, .ref a2, .ref a3, .ref x0, .int (nI n), .int (nI sg)])), (a1, .inl (T 0, 201, .inl (fun j => nI (af j)))), (a2, .inl (T 1, 201, .inr (.inl (fun j => lN (inf j))))), (a3, .inl (T 0, 201, .inl (fun j => nI (wf j))))] (fun v w1 => w1 = [(h0, .inr (6, [.ref a1, .ref a2, .ref a3, .ref x0, .int (nI n), .int (nI sg)])), (a1, .inl (T 0, 201, .inl (fun j => nI (af j)))), (a2, .inl (T 1, 201, .inr (.inl (fun j => lN (inf j))))), (a3, .inl (T 0, 201, .inl (fun j => nI (wf j))))] ∧ v = some (.int (bI (hasB i n)))) := by
  refine Con.of (by decide) (Nat.le_of_ble_eq_true rfl) ?_
  intro E hE
  refine g_lv (lv' := [(0, .ref h0), (1, .int (nI i))]) [0, 1] rfl ?_
  refine g_iload_n (pc' := 1) hE 1 rfl rfl dX7_has_0 rfl ?_
  refine g_iconst (pc' := 2) hE (nI 1) (by decide) dX7_has_1 rfl ?_
  refine g_icmpN_lt (pc' := 5) (tgt := 17) hE (by omega) (by omega) dX7_has_2 rfl rfl (fun hc2 => ?_) (fun hc2 => ?_)
  · refine g_iconst (pc' := 18) hE (nI 0) (by decide) dX7_has_17 rfl ?_
    exact hE.zret (by first | rfl | decide) (⟨rfl, by unfold hasB; first | rw [decide_eq_true (by omega)]; rfl | rw [decide_eq_false (by omega)]; rfl⟩) (by omega) (by omega) dX7_has_18
  · refine g_iload_n (pc' := 6) hE 1 rfl rfl dX7_has_5 rfl ?_
    refine g_aload_n (pc' := 7) hE 0 rfl rfl dX7_has_6 rfl ?_
    refine g_get (pc' := 10) hE gcX7 0 rfl 4 (by decide) rfl kX7_31 dX7_has_7 rfl ?_
    refine g_icmpN_gt (pc' := 13) (tgt := 17) hE (by omega) (by omega) dX7_has_10 rfl rfl (fun hc10 => ?_) (fun hc10 => ?_)
    · refine g_iconst (pc' := 18) hE (nI 0) (by decide) dX7_has_17 rfl ?_
      exact hE.zret (by first | rfl | decide) (⟨rfl, by unfold hasB; first | rw [decide_eq_true (by omega)]; rfl | rw [decide_eq_false (by omega)]; rfl⟩) (by omega) (by omega) dX7_has_18
    · refine g_iconst (pc' := 14) hE (nI 1) (by decide) dX7_has_13 rfl ?_
      refine g_goto (tgt := 18) hE dX7_has_14 rfl ?_
      exact hE.zret (by first | rfl | decide) (⟨rfl, by unfold hasB; first | rw [decide_eq_true (by omega)]; rfl | rw [decide_eq_false (by omega)]; rfl⟩) (by omega) (by omega) dX7_has_18

set_option maxHeartbeats 4000000 in
set_option maxRecDepth 100000 in
/-- has, of any number -/
theorem qX7_hasR (l : Launch) (D : va_G) (T : Nat → ClassId) (h0 a1 a2 a3 x0 n sg : Nat) (af inf wf : Nat → Nat) (x : Int32) (hn : n ≤ 200) : Con l D T yX7_has cX7_has 2 (some .boolean) 0 0 0 [.ref h0, .int x] [(h0, .inr (6, [.ref a1, .ref a2, .ref a3, .ref x0, .int (nI n), .int (nI sg)])), (a1, .inl (T 0, 201, .inl (fun j => nI (af j)))), (a2, .inl (T 1, 201, .inr (.inl (fun j => lN (inf j))))), (a3, .inl (T 0, 201, .inl (fun j => nI (wf j))))] (fun v w1 => w1 = [(h0, .inr (6, [.ref a1, .ref a2, .ref a3, .ref x0, .int (nI n), .int (nI sg)])), (a1, .inl (T 0, 201, .inl (fun j => nI (af j)))), (a2, .inl (T 1, 201, .inr (.inl (fun j => lN (inf j))))), (a3, .inl (T 0, 201, .inl (fun j => nI (wf j))))] ∧ v = some (.int (bI (hasR x n)))) := by
  refine Con.of (by decide) (Nat.le_of_ble_eq_true rfl) ?_
  intro E hE
  have e1 : (nI 1).toInt = 1 := rfl
  have e2 : (nI n).toInt = n := nI_toInt (by omega)
  refine g_lv (lv' := [(0, .ref h0), (1, .int x)]) [0, 1] rfl ?_
  refine g_iload_n (pc' := 1) hE 1 rfl rfl dX7_has_0 rfl ?_
  refine g_iconst (pc' := 2) hE (nI 1) (by decide) dX7_has_1 rfl ?_
  refine g_icmp_lt (pc' := 5) (tgt := 17) hE dX7_has_2 rfl rfl (fun hc2 => ?_) (fun hc2 => ?_)
  · rw [i32_lt, e1] at hc2
    refine g_iconst (pc' := 18) hE (nI 0) (by decide) dX7_has_17 rfl ?_
    exact hE.zret (by first | rfl | decide) (⟨rfl, by unfold hasR; first | rw [decide_eq_true (by omega)]; rfl | rw [decide_eq_false (by omega)]; rfl⟩) (by omega) (by omega) dX7_has_18
  · rw [i32_lt, e1] at hc2
    refine g_iload_n (pc' := 6) hE 1 rfl rfl dX7_has_5 rfl ?_
    refine g_aload_n (pc' := 7) hE 0 rfl rfl dX7_has_6 rfl ?_
    refine g_get (pc' := 10) hE gcX7 0 rfl 4 (by decide) rfl kX7_31 dX7_has_7 rfl ?_
    refine g_icmp_gt (pc' := 13) (tgt := 17) hE dX7_has_10 rfl rfl (fun hc10 => ?_) (fun hc10 => ?_)
    · rw [i32_lt, e2] at hc10
      refine g_iconst (pc' := 18) hE (nI 0) (by decide) dX7_has_17 rfl ?_
      exact hE.zret (by first | rfl | decide) (⟨rfl, by unfold hasR; first | rw [decide_eq_true (by omega)]; rfl | rw [decide_eq_false (by omega)]; rfl⟩) (by omega) (by omega) dX7_has_18
    · rw [i32_lt, e2] at hc10
      refine g_iconst (pc' := 14) hE (nI 1) (by decide) dX7_has_13 rfl ?_
      refine g_goto (tgt := 18) hE dX7_has_14 rfl ?_
      exact hE.zret (by first | rfl | decide) (⟨rfl, by unfold hasR; first | rw [decide_eq_true (by omega)]; rfl | rw [decide_eq_false (by omega)]; rfl⟩) (by omega) (by omega) dX7_has_18

set_option maxHeartbeats 4000000 in
set_option maxRecDepth 100000 in
/-- hasOrVoid, of any number -/
theorem qX7_hasV (l : Launch) (D : va_G) (T : Nat → ClassId) (h0 a1 a2 a3 x0 n sg : Nat) (af inf wf : Nat → Nat) (x : Int32) (hn : n ≤ 200) : Con l D T yX7_hasOrVoid cX7_hasOrVoid 2 (some .boolean) 1 0 0 [.ref h0, .int x] [(h0, .inr (6, [.ref a1, .ref a2, .ref a3, .ref x0, .int (nI n), .int (nI sg)])), (a1, .inl (T 0, 201, .inl (fun j => nI (af j)))), (a2, .inl (T 1, 201, .inr (.inl (fun j => lN (inf j))))), (a3, .inl (T 0, 201, .inl (fun j => nI (wf j))))] (fun v w1 => w1 = [(h0, .inr (6, [.ref a1, .ref a2, .ref a3, .ref x0, .int (nI n), .int (nI sg)])), (a1, .inl (T 0, 201, .inl (fun j => nI (af j)))), (a2, .inl (T 1, 201, .inr (.inl (fun j => lN (inf j))))), (a3, .inl (T 0, 201, .inl (fun j => nI (wf j))))] ∧ v = some (.int (bI (hasV x n)))) := by
  refine Con.of (by decide) (Nat.le_of_ble_eq_true rfl) ?_
  intro E hE
  have e0 : (0 : Int32).toInt = 0 := rfl
  refine g_lv (lv' := [(0, .ref h0), (1, .int x)]) [0, 1] rfl ?_
  refine g_iload_n (pc' := 1) hE 1 rfl rfl dX7_hasOrVoid_0 rfl ?_
  refine g_if_eq (pc' := 4) (tgt := 12) hE dX7_hasOrVoid_1 rfl rfl (fun hc1 => ?_) (fun hc1 => ?_)
  · rw [i32_eq, e0] at hc1
    refine g_iconst (pc' := 13) hE (nI 1) (by decide) dX7_hasOrVoid_12 rfl ?_
    refine g_goto (tgt := 17) hE dX7_hasOrVoid_13 rfl ?_
    exact hE.zret (by first | rfl | decide) (⟨rfl, by unfold hasV; first | rw [decide_eq_true (by omega)]; rfl | rw [decide_eq_false (by omega)]; rfl⟩) (by omega) (by omega) dX7_hasOrVoid_17
  · rw [i32_eq, e0] at hc1
    refine g_aload_n (pc' := 5) hE 0 rfl rfl dX7_hasOrVoid_4 rfl ?_
    refine g_iload_n (pc' := 6) hE 1 rfl rfl dX7_hasOrVoid_5 rfl ?_
    refine g_callV (pc' := 9) (As := [.int x]) (rest := []) hE (qX7_hasR l D T h0 a1 a2 a3 x0 n sg af inf wf x hn) mX7_has kX7_47 iX7_has sX7_has (by omega) rfl (by omega) 0 rfl rfl [0, 1, 2, 3] rfl (by decide) rfl (Nat.le_of_ble_eq_true rfl) dX7_hasOrVoid_6 rfl (gBackR [0, 1, 2, 3] rfl ?_)
    rintro _ rfl
    refine g_st (st' := [.int (bI (hasR x n))]) rfl ?_
    refine g_ifB_eq (pc' := 12) (tgt := 16) hE dX7_hasOrVoid_9 rfl rfl (fun hc9 => ?_) (fun hc9 => ?_)
    · have hc9 := of_decide_eq_false hc9
      refine g_iconst (pc' := 17) hE (nI 0) (by decide) dX7_hasOrVoid_16 rfl ?_
      exact hE.zret (by first | rfl | decide) (⟨rfl, by unfold hasV; first | rw [decide_eq_true (by omega)]; rfl | rw [decide_eq_false (by omega)]; rfl⟩) (by omega) (by omega) dX7_hasOrVoid_17
    · have hc9 := of_decide_eq_true hc9
      refine g_iconst (pc' := 13) hE (nI 1) (by decide) dX7_hasOrVoid_12 rfl ?_
      refine g_goto (tgt := 17) hE dX7_hasOrVoid_13 rfl ?_
      exact hE.zret (by first | rfl | decide) (⟨rfl, by unfold hasV; first | rw [decide_eq_true (by omega)]; rfl | rw [decide_eq_false (by omega)]; rfl⟩) (by omega) (by omega) dX7_hasOrVoid_17

set_option maxHeartbeats 4000000 in
set_option maxRecDepth 100000 in
theorem qX7_kind (l : Launch) (D : va_G) (T : Nat → ClassId) (h0 a1 a2 a3 x0 n sg : Nat) (af inf wf : Nat → Nat) (i : Nat) (hn : n ≤ 200) (hB : TyB af inf wf) (hi : i < 2 ^ 31) : Con l D T yX7_kind cX7_kind 2 (some .int) 1 0 0 [.ref h0, .int (nI i)] [(h0, .inr (6, [.ref a1, .ref a2, .ref a3, .ref x0, .int (nI n), .int (nI sg)])), (a1, .inl (T 0, 201, .inl (fun j => nI (af j)))), (a2, .inl (T 1, 201, .inr (.inl (fun j => lN (inf j))))), (a3, .inl (T 0, 201, .inl (fun j => nI (wf j))))] (fun v w1 => w1 = [(h0, .inr (6, [.ref a1, .ref a2, .ref a3, .ref x0, .int (nI n), .int (nI sg)])), (a1, .inl (T 0, 201, .inl (fun j => nI (af j)))), (a2, .inl (T 1, 201, .inr (.inl (fun j => lN (inf j))))), (a3, .inl (T 0, 201, .inl (fun j => nI (wf j))))] ∧ v = some (.int (nI (hv n i (kd (inf i)))))) := by
  refine Con.of (by decide) (Nat.le_of_ble_eq_true rfl) ?_
  intro E hE
  refine g_lv (lv' := [(0, .ref h0), (1, .int (nI i))]) [0, 1] rfl ?_
  refine g_aload_n (pc' := 1) hE 0 rfl rfl dX7_kind_0 rfl ?_
  refine g_iload_n (pc' := 2) hE 1 rfl rfl dX7_kind_1 rfl ?_
  refine g_callV (pc' := 5) (As := [.int (nI i)]) (rest := []) hE (qX7_has l D T h0 a1 a2 a3 x0 n sg af inf wf i hn hi) mX7_has kX7_47 iX7_has sX7_has (by omega) rfl (by omega) 0 rfl rfl [0, 1, 2, 3] rfl (by decide) rfl (Nat.le_of_ble_eq_true rfl) dX7_kind_2 rfl (gBackR [0, 1, 2, 3] rfl ?_)
  rintro _ rfl
  refine g_st (st' := [.int (bI (hasB i n))]) rfl ?_
  refine g_ifB_eq (pc' := 8) (tgt := 20) hE dX7_kind_5 rfl rfl (fun hc5 => ?_) (fun hc5 => ?_)
  · have hc5 := of_decide_eq_false hc5
    refine g_iconst (pc' := 21) hE (nI 0) (by decide) dX7_kind_20 rfl ?_
    exact hE.iret (⟨rfl, by first | rw [hv_in _ hc5.1 hc5.2] | rw [hv_out _ hc5]⟩) (by omega) (by omega) dX7_kind_21
  · have hc5 := of_decide_eq_true hc5
    refine g_aload_n (pc' := 9) hE 0 rfl rfl dX7_kind_8 rfl ?_
    refine g_get (pc' := 12) hE gcX7 0 rfl 1 (by decide) rfl kX7_15 dX7_kind_9 rfl ?_
    refine g_iload_n (pc' := 13) hE 1 rfl rfl dX7_kind_12 rfl ?_
    refine g_lald (pc' := 14) hE 2 rfl (by omega) (by omega) dX7_kind_13 rfl ?_
    refine g_callS (pc' := 17) (As := [.long (lN (inf i))]) (rest := []) hE (qX1_kind l D T (inf i) ((hB i).2.1)) mX1_kind kX7_51 iX1_kind (by omega) rfl (by omega) [] rfl (by decide) rfl (Nat.le_of_ble_eq_true rfl) dX7_kind_14 rfl (gBackR [] rfl ?_)
    rintro _ rfl
    refine g_st (st' := [.int (nI (kd (inf i)))]) rfl ?_
    refine g_goto (tgt := 21) hE dX7_kind_17 rfl ?_
    exact hE.iret (⟨rfl, by first | rw [hv_in _ hc5.1 hc5.2] | rw [hv_out _ hc5]⟩) (by omega) (by omega) dX7_kind_21

set_option maxHeartbeats 4000000 in
set_option maxRecDepth 100000 in
theorem qX7_tally (l : Launch) (D : va_G) (T : Nat → ClassId) (h0 a1 a2 a3 x0 n sg : Nat) (af inf wf : Nat → Nat) (i : Nat) (hn : n ≤ 200) (hB : TyB af inf wf) (hi : i < 2 ^ 31) : Con l D T yX7_tally cX7_tally 2 (some .int) 1 0 0 [.ref h0, .int (nI i)] [(h0, .inr (6, [.ref a1, .ref a2, .ref a3, .ref x0, .int (nI n), .int (nI sg)])), (a1, .inl (T 0, 201, .inl (fun j => nI (af j)))), (a2, .inl (T 1, 201, .inr (.inl (fun j => lN (inf j))))), (a3, .inl (T 0, 201, .inl (fun j => nI (wf j))))] (fun v w1 => w1 = [(h0, .inr (6, [.ref a1, .ref a2, .ref a3, .ref x0, .int (nI n), .int (nI sg)])), (a1, .inl (T 0, 201, .inl (fun j => nI (af j)))), (a2, .inl (T 1, 201, .inr (.inl (fun j => lN (inf j))))), (a3, .inl (T 0, 201, .inl (fun j => nI (wf j))))] ∧ v = some (.int (nI (hv n i (tl (inf i)))))) := by
  refine Con.of (by decide) (Nat.le_of_ble_eq_true rfl) ?_
  intro E hE
  refine g_lv (lv' := [(0, .ref h0), (1, .int (nI i))]) [0, 1] rfl ?_
  refine g_aload_n (pc' := 1) hE 0 rfl rfl dX7_tally_0 rfl ?_
  refine g_iload_n (pc' := 2) hE 1 rfl rfl dX7_tally_1 rfl ?_
  refine g_callV (pc' := 5) (As := [.int (nI i)]) (rest := []) hE (qX7_has l D T h0 a1 a2 a3 x0 n sg af inf wf i hn hi) mX7_has kX7_47 iX7_has sX7_has (by omega) rfl (by omega) 0 rfl rfl [0, 1, 2, 3] rfl (by decide) rfl (Nat.le_of_ble_eq_true rfl) dX7_tally_2 rfl (gBackR [0, 1, 2, 3] rfl ?_)
  rintro _ rfl
  refine g_st (st' := [.int (bI (hasB i n))]) rfl ?_
  refine g_ifB_eq (pc' := 8) (tgt := 20) hE dX7_tally_5 rfl rfl (fun hc5 => ?_) (fun hc5 => ?_)
  · have hc5 := of_decide_eq_false hc5
    refine g_iconst (pc' := 21) hE (nI 0) (by decide) dX7_tally_20 rfl ?_
    exact hE.iret (⟨rfl, by first | rw [hv_in _ hc5.1 hc5.2] | rw [hv_out _ hc5]⟩) (by omega) (by omega) dX7_tally_21
  · have hc5 := of_decide_eq_true hc5
    refine g_aload_n (pc' := 9) hE 0 rfl rfl dX7_tally_8 rfl ?_
    refine g_get (pc' := 12) hE gcX7 0 rfl 1 (by decide) rfl kX7_15 dX7_tally_9 rfl ?_
    refine g_iload_n (pc' := 13) hE 1 rfl rfl dX7_tally_12 rfl ?_
    refine g_lald (pc' := 14) hE 2 rfl (by omega) (by omega) dX7_tally_13 rfl ?_
    refine g_callS (pc' := 17) (As := [.long (lN (inf i))]) (rest := []) hE (qX1_tally l D T (inf i)) mX1_tally kX7_54 iX1_tally (by omega) rfl (by omega) [] rfl (by decide) rfl (Nat.le_of_ble_eq_true rfl) dX7_tally_14 rfl (gBackR [] rfl ?_)
    rintro _ rfl
    refine g_st (st' := [.int (nI (tl (inf i)))]) rfl ?_
    refine g_goto (tgt := 21) hE dX7_tally_17 rfl ?_
    exact hE.iret (⟨rfl, by first | rw [hv_in _ hc5.1 hc5.2] | rw [hv_out _ hc5]⟩) (by omega) (by omega) dX7_tally_21

set_option maxHeartbeats 4000000 in
set_option maxRecDepth 100000 in
theorem qX7_flag (l : Launch) (D : va_G) (T : Nat → ClassId) (h0 a1 a2 a3 x0 n sg : Nat) (af inf wf : Nat → Nat) (i : Nat) (hn : n ≤ 200) (hB : TyB af inf wf) (hi : i < 2 ^ 31) : Con l D T yX7_flag cX7_flag 2 (some .int) 1 0 0 [.ref h0, .int (nI i)] [(h0, .inr (6, [.ref a1, .ref a2, .ref a3, .ref x0, .int (nI n), .int (nI sg)])), (a1, .inl (T 0, 201, .inl (fun j => nI (af j)))), (a2, .inl (T 1, 201, .inr (.inl (fun j => lN (inf j))))), (a3, .inl (T 0, 201, .inl (fun j => nI (wf j))))] (fun v w1 => w1 = [(h0, .inr (6, [.ref a1, .ref a2, .ref a3, .ref x0, .int (nI n), .int (nI sg)])), (a1, .inl (T 0, 201, .inl (fun j => nI (af j)))), (a2, .inl (T 1, 201, .inr (.inl (fun j => lN (inf j))))), (a3, .inl (T 0, 201, .inl (fun j => nI (wf j))))] ∧ v = some (.int (nI (hv n i (fl (inf i)))))) := by
  refine Con.of (by decide) (Nat.le_of_ble_eq_true rfl) ?_
  intro E hE
  refine g_lv (lv' := [(0, .ref h0), (1, .int (nI i))]) [0, 1] rfl ?_
  refine g_aload_n (pc' := 1) hE 0 rfl rfl dX7_flag_0 rfl ?_
  refine g_iload_n (pc' := 2) hE 1 rfl rfl dX7_flag_1 rfl ?_
  refine g_callV (pc' := 5) (As := [.int (nI i)]) (rest := []) hE (qX7_has l D T h0 a1 a2 a3 x0 n sg af inf wf i hn hi) mX7_has kX7_47 iX7_has sX7_has (by omega) rfl (by omega) 0 rfl rfl [0, 1, 2, 3] rfl (by decide) rfl (Nat.le_of_ble_eq_true rfl) dX7_flag_2 rfl (gBackR [0, 1, 2, 3] rfl ?_)
  rintro _ rfl
  refine g_st (st' := [.int (bI (hasB i n))]) rfl ?_
  refine g_ifB_eq (pc' := 8) (tgt := 20) hE dX7_flag_5 rfl rfl (fun hc5 => ?_) (fun hc5 => ?_)
  · have hc5 := of_decide_eq_false hc5
    refine g_iconst (pc' := 21) hE (nI 0) (by decide) dX7_flag_20 rfl ?_
    exact hE.iret (⟨rfl, by first | rw [hv_in _ hc5.1 hc5.2] | rw [hv_out _ hc5]⟩) (by omega) (by omega) dX7_flag_21
  · have hc5 := of_decide_eq_true hc5
    refine g_aload_n (pc' := 9) hE 0 rfl rfl dX7_flag_8 rfl ?_
    refine g_get (pc' := 12) hE gcX7 0 rfl 1 (by decide) rfl kX7_15 dX7_flag_9 rfl ?_
    refine g_iload_n (pc' := 13) hE 1 rfl rfl dX7_flag_12 rfl ?_
    refine g_lald (pc' := 14) hE 2 rfl (by omega) (by omega) dX7_flag_13 rfl ?_
    refine g_callS (pc' := 17) (As := [.long (lN (inf i))]) (rest := []) hE (qX1_flag l D T (inf i) ((hB i).2.1)) mX1_flag kX7_57 iX1_flag (by omega) rfl (by omega) [] rfl (by decide) rfl (Nat.le_of_ble_eq_true rfl) dX7_flag_14 rfl (gBackR [] rfl ?_)
    rintro _ rfl
    refine g_st (st' := [.int (nI (fl (inf i)))]) rfl ?_
    refine g_goto (tgt := 21) hE dX7_flag_17 rfl ?_
    exact hE.iret (⟨rfl, by first | rw [hv_in _ hc5.1 hc5.2] | rw [hv_out _ hc5]⟩) (by omega) (by omega) dX7_flag_21

set_option maxHeartbeats 4000000 in
set_option maxRecDepth 100000 in
theorem qX7_words (l : Launch) (D : va_G) (T : Nat → ClassId) (h0 a1 a2 a3 x0 n sg : Nat) (af inf wf : Nat → Nat) (i : Nat) (hn : n ≤ 200) (hB : TyB af inf wf) (hi : i < 2 ^ 31) : Con l D T yX7_words cX7_words 2 (some .int) 1 0 0 [.ref h0, .int (nI i)] [(h0, .inr (6, [.ref a1, .ref a2, .ref a3, .ref x0, .int (nI n), .int (nI sg)])), (a1, .inl (T 0, 201, .inl (fun j => nI (af j)))), (a2, .inl (T 1, 201, .inr (.inl (fun j => lN (inf j))))), (a3, .inl (T 0, 201, .inl (fun j => nI (wf j))))] (fun v w1 => w1 = [(h0, .inr (6, [.ref a1, .ref a2, .ref a3, .ref x0, .int (nI n), .int (nI sg)])), (a1, .inl (T 0, 201, .inl (fun j => nI (af j)))), (a2, .inl (T 1, 201, .inr (.inl (fun j => lN (inf j))))), (a3, .inl (T 0, 201, .inl (fun j => nI (wf j))))] ∧ v = some (.int (nI (hv n i (wf i))))) := by
  refine Con.of (by decide) (Nat.le_of_ble_eq_true rfl) ?_
  intro E hE
  refine g_lv (lv' := [(0, .ref h0), (1, .int (nI i))]) [0, 1] rfl ?_
  refine g_aload_n (pc' := 1) hE 0 rfl rfl dX7_words_0 rfl ?_
  refine g_iload_n (pc' := 2) hE 1 rfl rfl dX7_words_1 rfl ?_
  refine g_callV (pc' := 5) (As := [.int (nI i)]) (rest := []) hE (qX7_has l D T h0 a1 a2 a3 x0 n sg af inf wf i hn hi) mX7_has kX7_47 iX7_has sX7_has (by omega) rfl (by omega) 0 rfl rfl [0, 1, 2, 3] rfl (by decide) rfl (Nat.le_of_ble_eq_true rfl) dX7_words_2 rfl (gBackR [0, 1, 2, 3] rfl ?_)
  rintro _ rfl
  refine g_st (st' := [.int (bI (hasB i n))]) rfl ?_
  refine g_ifB_eq (pc' := 8) (tgt := 17) hE dX7_words_5 rfl rfl (fun hc5 => ?_) (fun hc5 => ?_)
  · have hc5 := of_decide_eq_false hc5
    refine g_iconst (pc' := 18) hE (nI 0) (by decide) dX7_words_17 rfl ?_
    exact hE.iret (⟨rfl, by first | rw [hv_in _ hc5.1 hc5.2] | rw [hv_out _ hc5]⟩) (by omega) (by omega) dX7_words_18
  · have hc5 := of_decide_eq_true hc5
    refine g_aload_n (pc' := 9) hE 0 rfl rfl dX7_words_8 rfl ?_
    refine g_get (pc' := 12) hE gcX7 0 rfl 2 (by decide) rfl kX7_19 dX7_words_9 rfl ?_
    refine g_iload_n (pc' := 13) hE 1 rfl rfl dX7_words_12 rfl ?_
    refine g_iald (pc' := 14) hE 3 rfl (by omega) (by omega) dX7_words_13 rfl ?_
    refine g_goto (tgt := 18) hE dX7_words_14 rfl ?_
    exact hE.iret (⟨rfl, by first | rw [hv_in _ hc5.1 hc5.2] | rw [hv_out _ hc5]⟩) (by omega) (by omega) dX7_words_18

set_option maxHeartbeats 4000000 in
set_option maxRecDepth 100000 in
theorem qX7_word (l : Launch) (D : va_G) (T : Nat → ClassId) (h0 a1 a2 a3 x0 n sg : Nat) (af inf wf : Nat → Nat) (x1 cnt : Nat) (b : Nat → Nat) (i w : Nat) (hn : n ≤ 200) (hB : TyB af inf wf) (hi : i < 2 ^ 31) (hw : w < 2 ^ 20) (hc : cnt ≤ 8192) (hb : ∀ i, b i < 256) : Con l D T yX7_word cX7_word 3 (some .long) 1 0 0 [.ref h0, .int (nI i), .int (nI w)] [(h0, .inr (6, [.ref a1, .ref a2, .ref a3, .ref x0, .int (nI n), .int (nI sg)])), (a1, .inl (T 0, 201, .inl (fun j => nI (af j)))), (a2, .inl (T 1, 201, .inr (.inl (fun j => lN (inf j))))), (a3, .inl (T 0, 201, .inl (fun j => nI (wf j)))), (x0, .inr (4, [.int (nI 8192), .ref x1, .int (nI cnt)])), (x1, .inl (T 1, ((8192 + 7) / 8), .inr (.inl (pack b))))] (fun v w1 => w1 = [(h0, .inr (6, [.ref a1, .ref a2, .ref a3, .ref x0, .int (nI n), .int (nI sg)])), (a1, .inl (T 0, 201, .inl (fun j => nI (af j)))), (a2, .inl (T 1, 201, .inr (.inl (fun j => lN (inf j))))), (a3, .inl (T 0, 201, .inl (fun j => nI (wf j)))), (x0, .inr (4, [.int (nI 8192), .ref x1, .int (nI cnt)])), (x1, .inl (T 1, ((8192 + 7) / 8), .inr (.inl (pack b))))] ∧ v = some (.long (lN (hv n i (num (cut b cnt) (af i + 4 * w) 4))))) := by
  refine Con.of (by decide) (Nat.le_of_ble_eq_true rfl) ?_
  intro E hE
  refine g_lv (lv' := [(0, .ref h0), (1, .int (nI i)), (2, .int (nI w))]) [0, 1, 2] rfl ?_
  refine g_aload_n (pc' := 1) hE 0 rfl rfl dX7_word_0 rfl ?_
  refine g_iload_n (pc' := 2) hE 1 rfl rfl dX7_word_1 rfl ?_
  refine g_callV (pc' := 5) (As := [.int (nI i)]) (rest := []) hE (qX7_has l D T h0 a1 a2 a3 x0 n sg af inf wf i hn hi) mX7_has kX7_47 iX7_has sX7_has (by omega) rfl (by omega) 0 rfl rfl [0, 1, 2, 3] rfl (by decide) rfl (Nat.le_of_ble_eq_true rfl) dX7_word_2 rfl (gBackR [0, 1, 2, 3] rfl ?_)
  rintro _ rfl
  refine g_st (st' := [.int (bI (hasB i n))]) rfl ?_
  refine g_ifB_eq (pc' := 8) (tgt := 29) hE dX7_word_5 rfl rfl (fun hc5 => ?_) (fun hc5 => ?_)
  · have hc5 := of_decide_eq_false hc5
    refine g_lconst (pc' := 30) hE (lN 0) (by decide) dX7_word_29 rfl ?_
    exact hE.lret (⟨rfl, by first | rw [hv_in _ hc5.1 hc5.2] | rw [hv_out _ hc5]⟩) (by omega) (by omega) dX7_word_30
  · have hc5 := of_decide_eq_true hc5
    refine g_aload_n (pc' := 9) hE 0 rfl rfl dX7_word_8 rfl ?_
    refine g_get (pc' := 12) hE gcX7 0 rfl 3 (by decide) rfl kX7_27 dX7_word_9 rfl ?_
    refine g_aload_n (pc' := 13) hE 0 rfl rfl dX7_word_12 rfl ?_
    refine g_get (pc' := 16) hE gcX7 0 rfl 0 (by decide) rfl kX7_9 dX7_word_13 rfl ?_
    refine g_iload_n (pc' := 17) hE 1 rfl rfl dX7_word_16 rfl ?_
    refine g_iald (pc' := 18) hE 1 rfl (by omega) (by omega) dX7_word_17 rfl ?_
    refine g_iconst (pc' := 19) hE (nI 4) (by decide) dX7_word_18 rfl ?_
    refine g_iload_n (pc' := 20) hE 2 rfl rfl dX7_word_19 rfl ?_
    refine g_imul (pc' := 21) hE dX7_word_20 rfl ?_
    refine g_eqi (show _ = nI (4 * w) from pk_mul _ _) ?_
    refine g_iadd (pc' := 22) hE dX7_word_21 rfl ?_
    refine g_eqi (show _ = nI (af i + 4 * w) from nI_add _ _) ?_
    refine g_iconst (pc' := 23) hE (nI 4) (by decide) dX7_word_22 rfl ?_
    refine g_callV (pc' := 26) (As := [.int (nI (af i + 4 * w)), .int (nI 4)]) (rest := []) hE (qX5_number l D T x0 x1 8192 cnt b (af i + 4 * w) 4 (by decide) hc hb (by have := (hB i).1; omega) (by decide)) mX5_number kX7_38 iX5_number sX5_number (by omega) rfl (by omega) 4 rfl rfl [4, 5] rfl (by decide) rfl (Nat.le_of_ble_eq_true rfl) dX7_word_23 rfl (gBackR [4, 5] rfl ?_)
    rintro _ rfl
    refine g_st (st' := [.long (lN (num (cut b cnt) (af i + 4 * w) 4))]) rfl ?_
    refine g_goto (tgt := 30) hE dX7_word_26 rfl ?_
    exact hE.lret (⟨rfl, by first | rw [hv_in _ hc5.1 hc5.2] | rw [hv_out _ hc5]⟩) (by omega) (by omega) dX7_word_30

set_option maxHeartbeats 4000000 in
set_option maxRecDepth 100000 in
/-- Types.take -/
theorem qX7_take (l : Launch) (D : va_G) (T : Nat → ClassId) (h0 a1 a2 a3 x0 n sg : Nat) (af inf wf : Nat → Nat) (t0 t1 cnt N : Nat) (b : Nat → Nat) (hB : TyB af inf wf) (hc : cnt ≤ 8192) (hb : ∀ i, b i < 256) (hOK : TextOK (cut b cnt) N (24 + num (cut b cnt) 12 4)) : Con l D T yX7_take cX7_take 5 (some (.object "TypeFold$Row")) 2 0 0 [.ref h0, .ref t0] [(h0, .inr (6, [.ref a1, .ref a2, .ref a3, .ref x0, .int (nI n), .int (nI sg)])), (a1, .inl (T 0, 201, .inl (fun j => nI (af j)))), (a2, .inl (T 1, 201, .inr (.inl (fun j => lN (inf j))))), (a3, .inl (T 0, 201, .inl (fun j => nI (wf j)))), (t0, .inr (4, [.int (nI 8192), .ref t1, .int (nI cnt)])), (t1, .inl (T 1, ((8192 + 7) / 8), .inr (.inl (pack b))))] (fun v w1 => ∃ af' inf' wf' : Nat → Nat, v = some (.ref x0) ∧ w1 = [(h0, .inr (6, [.ref a1, .ref a2, .ref a3, .ref t0, .int (nI N), .int (nI (24 + num (cut b cnt) 12 4))])), (a1, .inl (T 0, 201, .inl (fun j => nI (af' j)))), (a2, .inl (T 1, 201, .inr (.inl (fun j => lN (inf' j))))), (a3, .inl (T 0, 201, .inl (fun j => nI (wf' j)))), (t0, .inr (4, [.int (nI 8192), .ref t1, .int (nI cnt)])), (t1, .inl (T 1, ((8192 + 7) / 8), .inr (.inl (pack b))))] ∧ TyArr (cut b cnt) N af' inf' wf') := by
  refine Con.of (by decide) (Nat.le_of_ble_eq_true rfl) ?_
  intro E hE
  have hct := cut_lt (c := cnt) hb
  refine g_lv (lv' := [(0, .ref h0), (1, .ref t0)]) [0, 1] rfl ?_
  refine g_aload_n (pc' := 1) hE 0 rfl rfl dX7_take_0 rfl ?_
  refine g_get (pc' := 4) hE gcX7 0 rfl 3 (by decide) rfl kX7_27 dX7_take_1 rfl ?_
  refine g_astore_n (pc' := 5) hE [(2, .ref x0), (0, .ref h0), (1, .ref t0)] dX7_take_4 rfl rfl (by decide) rfl ?_
  refine g_aload_n (pc' := 6) hE 1 rfl rfl dX7_take_5 rfl ?_
  refine g_aload_n (pc' := 7) hE 2 rfl rfl dX7_take_6 rfl ?_
  refine g_put (pc' := 10) hE gcX7 0 rfl 3 [(h0, .inr (6, [.ref a1, .ref a2, .ref a3, .ref t0, .int (nI n), .int (nI sg)])), (a1, .inl (T 0, 201, .inl (fun j => nI (af j)))), (a2, .inl (T 1, 201, .inr (.inl (fun j => lN (inf j))))), (a3, .inl (T 0, 201, .inl (fun j => nI (wf j)))), (t0, .inr (4, [.int (nI 8192), .ref t1, .int (nI cnt)])), (t1, .inl (T 1, ((8192 + 7) / 8), .inr (.inl (pack b))))] (by decide) (Nat.le_of_ble_eq_true rfl) rfl rfl rfl rfl kX7_27 dX7_take_7 rfl ?_
  refine g_aload_n (pc' := 11) hE 1 rfl rfl dX7_take_10 rfl ?_
  refine g_iconst (pc' := 12) hE (nI 0) (by decide) dX7_take_11 rfl ?_
  refine g_put (pc' := 15) hE gcX7 0 rfl 4 [(h0, .inr (6, [.ref a1, .ref a2, .ref a3, .ref t0, .int (nI 0), .int (nI sg)])), (a1, .inl (T 0, 201, .inl (fun j => nI (af j)))), (a2, .inl (T 1, 201, .inr (.inl (fun j => lN (inf j))))), (a3, .inl (T 0, 201, .inl (fun j => nI (wf j)))), (t0, .inr (4, [.int (nI 8192), .ref t1, .int (nI cnt)])), (t1, .inl (T 1, ((8192 + 7) / 8), .inr (.inl (pack b))))] (by decide) (Nat.le_of_ble_eq_true rfl) rfl rfl rfl rfl kX7_31 dX7_take_12 rfl ?_
  refine g_aload_n (pc' := 16) hE 1 rfl rfl dX7_take_15 rfl ?_
  refine g_bipush (pc' := 18) hE (nI 24) (by decide) dX7_take_16 rfl ?_
  refine g_aload_n (pc' := 19) hE 1 rfl rfl dX7_take_18 rfl ?_
  refine g_get (pc' := 22) hE gcX7 0 rfl 3 (by decide) rfl kX7_27 dX7_take_19 rfl ?_
  refine g_bipush (pc' := 24) hE (nI 12) (by decide) dX7_take_22 rfl ?_
  refine g_iconst (pc' := 25) hE (nI 4) (by decide) dX7_take_24 rfl ?_
  refine g_callV (pc' := 28) (As := [.int (nI 12), .int (nI 4)]) (rest := [.int (nI 24), .ref h0]) hE (qX5_number l D T t0 t1 8192 cnt b 12 4 (by decide) hc hb (by decide) (by decide)) mX5_number kX7_38 iX5_number sX5_number (by omega) rfl (by omega) 4 rfl rfl [4, 5] rfl (by decide) rfl (Nat.le_of_ble_eq_true rfl) dX7_take_25 rfl (gBackR [4, 5] rfl ?_)
  rintro _ rfl
  refine g_st (st' := [.long (lN (num (cut b cnt) 12 4)), .int (nI 24), .ref h0]) rfl ?_
  refine g_l2i (pc' := 29) hE (nI (num (cut b cnt) 12 4)) (lN_i _) dX7_take_28 rfl ?_
  refine g_iadd (pc' := 30) hE dX7_take_29 rfl ?_
  refine g_eqi (show _ = nI (24 + num (cut b cnt) 12 4) from nI_add _ _) ?_
  refine g_put (pc' := 33) hE gcX7 0 rfl 5 [(h0, .inr (6, [.ref a1, .ref a2, .ref a3, .ref t0, .int (nI 0), .int (nI (24 + num (cut b cnt) 12 4))])), (a1, .inl (T 0, 201, .inl (fun j => nI (af j)))), (a2, .inl (T 1, 201, .inr (.inl (fun j => lN (inf j))))), (a3, .inl (T 0, 201, .inl (fun j => nI (wf j)))), (t0, .inr (4, [.int (nI 8192), .ref t1, .int (nI cnt)])), (t1, .inl (T 1, ((8192 + 7) / 8), .inr (.inl (pack b))))] (by decide) (Nat.le_of_ble_eq_true rfl) rfl rfl rfl rfl kX7_35 dX7_take_30 rfl ?_
  refine g_bipush (pc' := 35) hE (nI 24) (by decide) dX7_take_33 rfl ?_
  refine g_istore_n (pc' := 36) hE [(3, .int (nI 24)), (2, .ref x0), (0, .ref h0), (1, .ref t0)] dX7_take_35 rfl rfl (by decide) rfl ?_
  refine g_iconst (pc' := 37) hE (nI 1) (by decide) dX7_take_36 rfl ?_
  refine g_istore (pc' := 39) hE [(4, .int (nI 1)), (3, .int (nI 24)), (2, .ref x0), (0, .ref h0), (1, .ref t0)] dX7_take_37 rfl (by decide) rfl ?_
  refine (show ∀ (d39 : Nat) (m : Nat) (af : Nat → Nat) (inf : Nat → Nat) (wf : Nat → Nat), N - m = d39 → (m ≤ N) → (TyArr (cut b cnt) m af inf wf) → G l E D 5 0 0 [(h0, .inr (6, [.ref a1, .ref a2, .ref a3, .ref t0, .int (nI m), .int (nI (24 + num (cut b cnt) 12 4))])), (a1, .inl (T 0, 201, .inl (fun j => nI (af j)))), (a2, .inl (T 1, 201, .inr (.inl (fun j => lN (inf j))))), (a3, .inl (T 0, 201, .inl (fun j => nI (wf j)))), (t0, .inr (4, [.int (nI 8192), .ref t1, .int (nI cnt)])), (t1, .inl (T 1, ((8192 + 7) / 8), .inr (.inl (pack b))))] [(4, .int (nI (m + 1))), (3, .int (nI (off (cut b cnt) (m + 1)))), (2, .ref x0), (0, .ref h0), (1, .ref t0)] 39 [] from ?_) _ 0 af inf wf rfl (by omega) (⟨hB, fun i h1 h2 => by omega⟩)
  intro d39
  induction d39 using Nat.strongRecOn with
  | _ d39 ih39 =>
  intro m af inf wf hd39 hmN hT
  have hN := hOK.1
  have hsg := hOK.2.2.1
  have hoe := hOK.2.1
  have hop : m < N → off (cut b cnt) (m + 1) < 24 + num (cut b cnt) 12 4 := fun z => hOK.2.2.2 _ (by omega) (by omega)
  refine g_iload (pc' := 41) hE 0 rfl dX7_take_39 rfl ?_
  refine g_sipush (pc' := 44) hE (nI 200) (by decide) dX7_take_41 rfl ?_
  refine g_icmpN_gt (pc' := 47) (tgt := 122) hE (by omega) (by omega) dX7_take_44 rfl rfl (fun hc44 => ?_) (fun hc44 => ?_)
  · refine g_aload_n (pc' := 123) hE 2 rfl rfl dX7_take_122 rfl ?_
    exact hE.aret (⟨af, inf, wf, rfl, by rw [show m = N by first | omega | (apply Nat.le_antisymm hmN; apply Nat.le_of_not_lt; intro z; have := hop z; omega)], by rw [show N = m by first | omega | (apply Nat.le_antisymm _ hmN; apply Nat.le_of_not_lt; intro z; have := hop z; omega)]; exact hT⟩) (by omega) (by omega) dX7_take_123
  · refine g_iload_n (pc' := 48) hE 1 rfl rfl dX7_take_47 rfl ?_
    refine g_aload_n (pc' := 49) hE 3 rfl rfl dX7_take_48 rfl ?_
    refine g_get (pc' := 52) hE gcX7 0 rfl 5 (by decide) rfl kX7_35 dX7_take_49 rfl ?_
    have hq52 : off (cut b cnt) (m + 1) ≤ 8192 := by rcases Nat.lt_or_ge m N with z | z; exact Nat.le_trans (Nat.le_of_lt (hop z)) hsg; rw [show m = N by omega, hoe]; exact hsg
    refine g_icmpN_ge (pc' := 55) (tgt := 122) hE (by omega) (by omega) dX7_take_52 rfl rfl (fun hc52 => ?_) (fun hc52 => ?_)
    · refine g_aload_n (pc' := 123) hE 2 rfl rfl dX7_take_122 rfl ?_
      exact hE.aret (⟨af, inf, wf, rfl, by rw [show m = N by first | omega | (apply Nat.le_antisymm hmN; apply Nat.le_of_not_lt; intro z; have := hop z; omega)], by rw [show N = m by first | omega | (apply Nat.le_antisymm _ hmN; apply Nat.le_of_not_lt; intro z; have := hop z; omega)]; exact hT⟩) (by omega) (by omega) dX7_take_123
    · have hlt : m < N := by rcases Nat.lt_or_ge m N with z | z; exact z; rw [show m = N by omega, hoe] at hc52; omega
      refine g_aload_n (pc' := 56) hE 3 rfl rfl dX7_take_55 rfl ?_
      refine g_get (pc' := 59) hE gcX7 0 rfl 0 (by decide) rfl kX7_9 dX7_take_56 rfl ?_
      refine g_iload (pc' := 61) hE 0 rfl dX7_take_59 rfl ?_
      refine g_iload_n (pc' := 62) hE 1 rfl rfl dX7_take_61 rfl ?_
      refine g_iast (pc' := 63) hE 1 [(h0, .inr (6, [.ref a1, .ref a2, .ref a3, .ref t0, .int (nI m), .int (nI (24 + num (cut b cnt) 12 4))])), (a1, .inl (T 0, 201, .inl (fun j => nI ((gu af (m + 1) (off (cut b cnt) (m + 1))) j)))), (a2, .inl (T 1, 201, .inr (.inl (fun j => lN (inf j))))), (a3, .inl (T 0, 201, .inl (fun j => nI (wf j)))), (t0, .inr (4, [.int (nI 8192), .ref t1, .int (nI cnt)])), (t1, .inl (T 1, ((8192 + 7) / 8), .inr (.inl (pack b))))] rfl (by omega) (by omega) (gu_I _ _ _) rfl dX7_take_62 rfl ?_
      refine g_aload_n (pc' := 64) hE 3 rfl rfl dX7_take_63 rfl ?_
      refine g_get (pc' := 67) hE gcX7 0 rfl 1 (by decide) rfl kX7_15 dX7_take_64 rfl ?_
      refine g_iload (pc' := 69) hE 0 rfl dX7_take_67 rfl ?_
      refine g_aload_n (pc' := 70) hE 3 rfl rfl dX7_take_69 rfl ?_
      refine g_get (pc' := 73) hE gcX7 0 rfl 3 (by decide) rfl kX7_27 dX7_take_70 rfl ?_
      refine g_iload_n (pc' := 74) hE 1 rfl rfl dX7_take_73 rfl ?_
      refine g_iconst (pc' := 75) hE (nI 4) (by decide) dX7_take_74 rfl ?_
      refine g_iadd (pc' := 76) hE dX7_take_75 rfl ?_
      refine g_eqi (show _ = nI (off (cut b cnt) (m + 1) + 4) from nI_add _ _) ?_
      refine g_iconst (pc' := 77) hE (nI 4) (by decide) dX7_take_76 rfl ?_
      refine g_callV (pc' := 80) (As := [.int (nI (off (cut b cnt) (m + 1) + 4)), .int (nI 4)]) (rest := [.int (nI (m + 1)), .ref a2]) hE (qX5_number l D T t0 t1 8192 cnt b (off (cut b cnt) (m + 1) + 4) 4 (by decide) hc hb (by have := hOK.2.2.1; omega) (by decide)) mX5_number kX7_38 iX5_number sX5_number (by omega) rfl (by omega) 4 rfl rfl [4, 5] rfl (by decide) rfl (Nat.le_of_ble_eq_true rfl) dX7_take_77 rfl (gBackR [4, 5] rfl ?_)
      rintro _ rfl
      refine g_st (st' := [.long (lN (num (cut b cnt) (off (cut b cnt) (m + 1) + 4) 4)), .int (nI (m + 1)), .ref a2]) rfl ?_
      refine g_last (pc' := 81) hE 2 [(h0, .inr (6, [.ref a1, .ref a2, .ref a3, .ref t0, .int (nI m), .int (nI (24 + num (cut b cnt) 12 4))])), (a1, .inl (T 0, 201, .inl (fun j => nI ((gu af (m + 1) (off (cut b cnt) (m + 1))) j)))), (a2, .inl (T 1, 201, .inr (.inl (fun j => lN ((gu inf (m + 1) (num (cut b cnt) (off (cut b cnt) (m + 1) + 4) 4)) j))))), (a3, .inl (T 0, 201, .inl (fun j => nI (wf j)))), (t0, .inr (4, [.int (nI 8192), .ref t1, .int (nI cnt)])), (t1, .inl (T 1, ((8192 + 7) / 8), .inr (.inl (pack b))))] rfl (by omega) (by omega) (gu_L _ _ _) rfl dX7_take_80 rfl ?_
      refine g_aload_n (pc' := 82) hE 3 rfl rfl dX7_take_81 rfl ?_
      refine g_get (pc' := 85) hE gcX7 0 rfl 2 (by decide) rfl kX7_19 dX7_take_82 rfl ?_
      refine g_iload (pc' := 87) hE 0 rfl dX7_take_85 rfl ?_
      refine g_aload_n (pc' := 88) hE 3 rfl rfl dX7_take_87 rfl ?_
      refine g_get (pc' := 91) hE gcX7 0 rfl 1 (by decide) rfl kX7_15 dX7_take_88 rfl ?_
      refine g_iload (pc' := 93) hE 0 rfl dX7_take_91 rfl ?_
      refine g_lald (pc' := 94) hE 2 rfl (by omega) (by omega) dX7_take_93 rfl ?_
      refine g_eql (show _ = lN ((gu inf (m + 1) (num (cut b cnt) (off (cut b cnt) (m + 1) + 4) 4)) (m + 1)) from rfl) ?_
      refine g_callS (pc' := 97) (As := [.long (lN ((gu inf (m + 1) (num (cut b cnt) (off (cut b cnt) (m + 1) + 4) 4)) (m + 1)))]) (rest := [.int (nI (m + 1)), .ref a3]) hE (qX1_words l D T ((gu inf (m + 1) (num (cut b cnt) (off (cut b cnt) (m + 1) + 4) 4)) (m + 1)) (by rw [gu_s]; exact num4_lt hct _)) mX1_words kX7_42 iX1_words (by omega) rfl (by omega) [] rfl (by decide) rfl (Nat.le_of_ble_eq_true rfl) dX7_take_94 rfl (gBackR [] rfl ?_)
      rintro _ rfl
      refine g_st (st' := [.int (nI (wds ((gu inf (m + 1) (num (cut b cnt) (off (cut b cnt) (m + 1) + 4) 4)) (m + 1)))), .int (nI (m + 1)), .ref a3]) rfl ?_
      refine g_iast (pc' := 98) hE 3 [(h0, .inr (6, [.ref a1, .ref a2, .ref a3, .ref t0, .int (nI m), .int (nI (24 + num (cut b cnt) 12 4))])), (a1, .inl (T 0, 201, .inl (fun j => nI ((gu af (m + 1) (off (cut b cnt) (m + 1))) j)))), (a2, .inl (T 1, 201, .inr (.inl (fun j => lN ((gu inf (m + 1) (num (cut b cnt) (off (cut b cnt) (m + 1) + 4) 4)) j))))), (a3, .inl (T 0, 201, .inl (fun j => nI ((gu wf (m + 1) (wds (num (cut b cnt) (off (cut b cnt) (m + 1) + 4) 4))) j)))), (t0, .inr (4, [.int (nI 8192), .ref t1, .int (nI cnt)])), (t1, .inl (T 1, ((8192 + 7) / 8), .inr (.inl (pack b))))] rfl (by omega) (by omega) (by rw [gu_s]; exact gu_I _ _ _) rfl dX7_take_97 rfl ?_
      refine g_aload_n (pc' := 99) hE 3 rfl rfl dX7_take_98 rfl ?_
      refine g_iload (pc' := 101) hE 0 rfl dX7_take_99 rfl ?_
      refine g_put (pc' := 104) hE gcX7 0 rfl 4 [(h0, .inr (6, [.ref a1, .ref a2, .ref a3, .ref t0, .int (nI (m + 1)), .int (nI (24 + num (cut b cnt) 12 4))])), (a1, .inl (T 0, 201, .inl (fun j => nI ((gu af (m + 1) (off (cut b cnt) (m + 1))) j)))), (a2, .inl (T 1, 201, .inr (.inl (fun j => lN ((gu inf (m + 1) (num (cut b cnt) (off (cut b cnt) (m + 1) + 4) 4)) j))))), (a3, .inl (T 0, 201, .inl (fun j => nI ((gu wf (m + 1) (wds (num (cut b cnt) (off (cut b cnt) (m + 1) + 4) 4))) j)))), (t0, .inr (4, [.int (nI 8192), .ref t1, .int (nI cnt)])), (t1, .inl (T 1, ((8192 + 7) / 8), .inr (.inl (pack b))))] (by decide) (Nat.le_of_ble_eq_true rfl) rfl rfl rfl rfl kX7_31 dX7_take_101 rfl ?_
      refine g_iload_n (pc' := 105) hE 1 rfl rfl dX7_take_104 rfl ?_
      refine g_iconst (pc' := 106) hE (nI 4) (by decide) dX7_take_105 rfl ?_
      refine g_aload_n (pc' := 107) hE 3 rfl rfl dX7_take_106 rfl ?_
      refine g_get (pc' := 110) hE gcX7 0 rfl 2 (by decide) rfl kX7_19 dX7_take_107 rfl ?_
      refine g_iload (pc' := 112) hE 0 rfl dX7_take_110 rfl ?_
      refine g_iald (pc' := 113) hE 3 rfl (by omega) (by omega) dX7_take_112 rfl ?_
      refine g_imul (pc' := 114) hE dX7_take_113 rfl ?_
      refine g_eqi (show _ = nI (4 * ((gu wf (m + 1) (wds (num (cut b cnt) (off (cut b cnt) (m + 1) + 4) 4))) (m + 1))) from pk_mul _ _) ?_
      refine g_iadd (pc' := 115) hE dX7_take_114 rfl ?_
      refine g_eqi (show _ = nI (off (cut b cnt) (m + 1) + (4 * ((gu wf (m + 1) (wds (num (cut b cnt) (off (cut b cnt) (m + 1) + 4) 4))) (m + 1)))) from nI_add _ _) ?_
      refine g_eqi (show _ = nI (off (cut b cnt) (m + 1 + 1)) from by rw [gu_s]; rfl) ?_
      refine g_istore_n (pc' := 116) hE [(3, .int (nI (off (cut b cnt) (m + 1 + 1)))), (4, .int (nI (m + 1))), (2, .ref x0), (0, .ref h0), (1, .ref t0)] dX7_take_115 rfl rfl (by decide) rfl ?_
      refine g_iinc (pc' := 119) hE (nI (m + 1 + 1)) [(4, .int (nI (m + 1 + 1))), (3, .int (nI (off (cut b cnt) (m + 1 + 1)))), (2, .ref x0), (0, .ref h0), (1, .ref t0)] 1 rfl dX7_take_116 rfl (g_incN _ 1) (by decide) rfl ?_
      refine g_goto (tgt := 39) hE dX7_take_119 rfl ?_
      exact ih39 _ (by omega) (m + 1) (gu af (m + 1) (off (cut b cnt) (m + 1))) (gu inf (m + 1) (num (cut b cnt) (off (cut b cnt) (m + 1) + 4) 4)) (gu wf (m + 1) (wds (num (cut b cnt) (off (cut b cnt) (m + 1) + 4) 4))) rfl (by omega) (hT.step hct hc52 hOK.2.2.1)
