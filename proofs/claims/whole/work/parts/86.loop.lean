set_option maxHeartbeats 4000000 in
set_option maxRecDepth 100000 in
theorem law_loop (l : Launch) (D : va_G) (T : Nat → ClassId) (hlt : l.stackTraces = false) {E : gEnv} {win : va_W} {post : Option Value → va_W → Prop} (hE : gOK E D T yL_law cL_law 8 (some .boolean) 10 601024 7293034 win post) (hZ : zT E.A E.s E.s.heap) {b9 L : Nat} {xs : Nat → Int32} (hX : va_X b9 L xs E.s E.s.heap) (hbl : b9 < E.s.heap.size) (hbA : ¬ E.A b9) (hL : L ≤ 2048) (me mo ou : Nat) (C0 S0 : Nat) (hC0 : C0 + 2060 ≤ 601024) (hS0 : S0 + 12360 ≤ 7293034) (hend : ∀ (n k : Nat) (ws : va_W) (lv : List (Nat × Value)), n ≤ 601024 → k ≤ 7293034 → G l E D 8 n k ws lv 812 []) : ∀ (d i9 : Nat) (ws : va_W), L - i9 = d → i9 ≤ L → LW T me mo ou ws → G l E D 8 (C0 + i9) (S0 + 6 * i9) ws [(0, .ref b9), (1, .ref me), (2, .ref mo), (3, .ref ou), (4, .int (nI i9))] 23 [] := by
  intro d
  induction d using Nat.strongRecOn with
  | _ d ih =>
  intro i9 ws hd hiL hI
  refine g_iload (pc' := 25) hE 4 rfl dL_law_23 rfl ?_
  refine g_aload_n (pc' := 26) hE 0 rfl rfl dL_law_25 rfl ?_
  refine g_slen (pc' := 27) hE hX hbl hbA dL_law_26 rfl ?_
  refine g_iconst (pc' := 28) hE (nI 4) (by decide) dL_law_27 rfl ?_
  refine g_isub (pc' := 29) hE dL_law_28 rfl ?_
  refine g_icmp_gt (pc' := 32) (tgt := 812) hE dL_law_29 rfl rfl (fun hc29 => ?_) (fun hc29 => ?_)
  · rw [gt4 hL (by omega)] at hc29
    exact hend _ _ _ _ (by omega) (by omega)
  · rw [gt4 hL (by omega)] at hc29
    have hi9 : i9 + 4 ≤ L := by omega
    obtain ⟨v9, hv9, hv16⟩ := and15 (xs i9)
    have cont : ∀ ws', LW T me mo ou ws' → G l E D 8 (C0 + i9 + 4) (S0 + 6 * i9 + 24) ws' [(0, .ref b9), (1, .ref me), (2, .ref mo), (3, .ref ou), (4, .int (nI i9))] 806 [] := by
      intro ws' hI'
      refine g_iinc (pc' := 809) hE (nI (i9 + 4)) [(4, .int (nI (i9 + 4))), (0, .ref b9), (1, .ref me), (2, .ref mo), (3, .ref ou)] 4 rfl dL_law_806 rfl (g_incN _ 4) (by decide) rfl ?_
      refine g_goto (tgt := 23) hE dL_law_809 rfl ?_
      refine g_lv [1, 2, 3, 4, 0] (lv' := [(0, .ref b9), (1, .ref me), (2, .ref mo), (3, .ref ou), (4, .int (nI (i9 + 4)))]) rfl ?_
      refine g_widen (n' := C0 + (i9 + 4)) (k' := S0 + 6 * (i9 + 4)) (by omega) (by omega) ?_
      exact ih _ (by omega) (i9 + 4) ws' rfl (by omega) hI'
    refine g_aload_n (pc' := 33) hE 0 rfl rfl dL_law_32 rfl ?_
    refine g_iload (pc' := 35) hE 4 rfl dL_law_33 rfl ?_
    refine g_sld (pc' := 36) hE hX hbl hbA (by omega) hL dL_law_35 rfl ?_
    refine g_bipush (pc' := 38) hE (nI 15) (by decide) dL_law_36 rfl ?_
    refine g_iand (pc' := 39) hE dL_law_38 rfl ?_
    refine g_eqi (show _ = nI v9 from hv9) ?_
    have hs39_100 : (v9 = 0) → G l E D 8 (C0 + i9) (S0 + 6 * i9) ws [(0, .ref b9), (1, .ref me), (2, .ref mo), (3, .ref ou), (4, .int (nI i9))] 100 [] := by
      intro hsw39
      exact case_feed l D T hlt hE hZ hX hbl hbA hL i9 _ _ hi9 (by omega) (by omega) me mo ou ws hI cont
    have hs39_200 : (v9 = 1) → G l E D 8 (C0 + i9) (S0 + 6 * i9) ws [(0, .ref b9), (1, .ref me), (2, .ref mo), (3, .ref ou), (4, .int (nI i9))] 200 [] := by
      intro hsw39
      exact case_load l D T hlt hE hZ hX hbl hbA hL i9 _ _ hi9 (by omega) (by omega) me mo ou ws hI cont
    have hs39_213 : (v9 = 2) → G l E D 8 (C0 + i9) (S0 + 6 * i9) ws [(0, .ref b9), (1, .ref me), (2, .ref mo), (3, .ref ou), (4, .int (nI i9))] 213 [] := by
      intro hsw39
      exact case_type l D T hlt hE hZ hX hbl hbA hL i9 _ _ hi9 (by omega) (by omega) me mo ou ws hI cont
    have hs39_280 : (v9 = 3) → G l E D 8 (C0 + i9) (S0 + 6 * i9) ws [(0, .ref b9), (1, .ref me), (2, .ref mo), (3, .ref ou), (4, .int (nI i9))] 280 [] := by
      intro hsw39
      exact case_reference l D T hlt hE hZ hX hbl hbA hL i9 _ _ hi9 (by omega) (by omega) me mo ou ws hI cont
    have hs39_348 : (v9 = 4) → G l E D 8 (C0 + i9) (S0 + 6 * i9) ws [(0, .ref b9), (1, .ref me), (2, .ref mo), (3, .ref ou), (4, .int (nI i9))] 348 [] := by
      intro hsw39
      exact case_apart l D T hlt hE hZ hX hbl hbA hL i9 _ _ hi9 (by omega) (by omega) me mo ou ws hI cont
    have hs39_416 : (v9 = 5) → G l E D 8 (C0 + i9) (S0 + 6 * i9) ws [(0, .ref b9), (1, .ref me), (2, .ref mo), (3, .ref ou), (4, .int (nI i9))] 416 [] := by
      intro hsw39
      exact case_bytes l D T hlt hE hZ hX hbl hbA hL i9 _ _ hi9 (by omega) (by omega) me mo ou ws hI cont
    have hs39_471 : (v9 = 6) → G l E D 8 (C0 + i9) (S0 + 6 * i9) ws [(0, .ref b9), (1, .ref me), (2, .ref mo), (3, .ref ou), (4, .int (nI i9))] 471 [] := by
      intro hsw39
      exact case_find l D T hlt hE hZ hX hbl hbA hL i9 _ _ hi9 (by omega) (by omega) me mo ou ws hI cont
    have hs39_539 : (v9 = 7) → G l E D 8 (C0 + i9) (S0 + 6 * i9) ws [(0, .ref b9), (1, .ref me), (2, .ref mo), (3, .ref ou), (4, .int (nI i9))] 539 [] := by
      intro hsw39
      exact case_ring l D T hlt hE hZ hX hbl hbA hL i9 _ _ hi9 (by omega) (by omega) me mo ou ws hI cont
    have hs39_595 : (v9 = 8) → G l E D 8 (C0 + i9) (S0 + 6 * i9) ws [(0, .ref b9), (1, .ref me), (2, .ref mo), (3, .ref ou), (4, .int (nI i9))] 595 [] := by
      intro hsw39
      exact case_write l D T hlt hE hZ hX hbl hbA hL i9 _ _ hi9 (by omega) (by omega) me mo ou ws hI cont
    have hs39_639 : (v9 = 9) → G l E D 8 (C0 + i9) (S0 + 6 * i9) ws [(0, .ref b9), (1, .ref me), (2, .ref mo), (3, .ref ou), (4, .int (nI i9))] 639 [] := by
      intro hsw39
      exact case_name l D T hlt hE hZ hX hbl hbA hL i9 _ _ hi9 (by omega) (by omega) me mo ou ws hI cont
    have hs39_695 : (v9 = 10) → G l E D 8 (C0 + i9) (S0 + 6 * i9) ws [(0, .ref b9), (1, .ref me), (2, .ref mo), (3, .ref ou), (4, .int (nI i9))] 695 [] := by
      intro hsw39
      exact case_out l D T hlt hE hZ hX hbl hbA hL i9 _ _ hi9 (by omega) (by omega) me mo ou ws hI cont
    have hs39_750 : (v9 = 11) → G l E D 8 (C0 + i9) (S0 + 6 * i9) ws [(0, .ref b9), (1, .ref me), (2, .ref mo), (3, .ref ou), (4, .int (nI i9))] 750 [] := by
      intro hsw39
      exact case_look l D T hlt hE hZ hX hbl hbA hL i9 _ _ hi9 (by omega) (by omega) me mo ou ws hI cont
    have hs39_806 : (v9 ≠ 0 ∧ v9 ≠ 1 ∧ v9 ≠ 2 ∧ v9 ≠ 3 ∧ v9 ≠ 4 ∧ v9 ≠ 5 ∧ v9 ≠ 6 ∧ v9 ≠ 7 ∧ v9 ≠ 8 ∧ v9 ≠ 9 ∧ v9 ≠ 10 ∧ v9 ≠ 11) → G l E D 8 (C0 + i9) (S0 + 6 * i9) ws [(0, .ref b9), (1, .ref me), (2, .ref mo), (3, .ref ou), (4, .int (nI i9))] 806 [] := by
      intro hsw39
      refine g_widen (n' := C0 + i9 + 4) (k' := S0 + 6 * i9 + 24) (by omega) (by omega) ?_
      exact cont ws hI
    rcases (show v9 = 0 ∨ v9 = 1 ∨ v9 = 2 ∨ v9 = 3 ∨ v9 = 4 ∨ v9 = 5 ∨ v9 = 6 ∨ v9 = 7 ∨ v9 = 8 ∨ v9 = 9 ∨ v9 = 10 ∨ v9 = 11 ∨ ((v9 : Nat) < 0 ∨ 11 < v9) by omega) with hz | hz | hz | hz | hz | hz | hz | hz | hz | hz | hz | hz | hz
    · exact g_tabIn (tgt := 100) hE 0 hz (by decide) (by decide) (by decide) dL_law_39 rfl rfl (hs39_100 (by omega))
    · exact g_tabIn (tgt := 200) hE 1 hz (by decide) (by decide) (by decide) dL_law_39 rfl rfl (hs39_200 (by omega))
    · exact g_tabIn (tgt := 213) hE 2 hz (by decide) (by decide) (by decide) dL_law_39 rfl rfl (hs39_213 (by omega))
    · exact g_tabIn (tgt := 280) hE 3 hz (by decide) (by decide) (by decide) dL_law_39 rfl rfl (hs39_280 (by omega))
    · exact g_tabIn (tgt := 348) hE 4 hz (by decide) (by decide) (by decide) dL_law_39 rfl rfl (hs39_348 (by omega))
    · exact g_tabIn (tgt := 416) hE 5 hz (by decide) (by decide) (by decide) dL_law_39 rfl rfl (hs39_416 (by omega))
    · exact g_tabIn (tgt := 471) hE 6 hz (by decide) (by decide) (by decide) dL_law_39 rfl rfl (hs39_471 (by omega))
    · exact g_tabIn (tgt := 539) hE 7 hz (by decide) (by decide) (by decide) dL_law_39 rfl rfl (hs39_539 (by omega))
    · exact g_tabIn (tgt := 595) hE 8 hz (by decide) (by decide) (by decide) dL_law_39 rfl rfl (hs39_595 (by omega))
    · exact g_tabIn (tgt := 639) hE 9 hz (by decide) (by decide) (by decide) dL_law_39 rfl rfl (hs39_639 (by omega))
    · exact g_tabIn (tgt := 695) hE 10 hz (by decide) (by decide) (by decide) dL_law_39 rfl rfl (hs39_695 (by omega))
    · exact g_tabIn (tgt := 750) hE 11 hz (by decide) (by decide) (by decide) dL_law_39 rfl rfl (hs39_750 (by omega))
    · exact g_tabOut (tgt := 806) hE (by omega) (by omega) dL_law_39 rfl (hs39_806 (by omega))
