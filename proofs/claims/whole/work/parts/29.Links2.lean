set_option maxHeartbeats 4000000 in
set_option maxRecDepth 100000 in
theorem qX2_turnRound (l : Launch) (D : va_G) (T : Nat → ClassId) (l0 k0 k1 k2 k3 k4 k5 k6 : Nat) (st to bs bk qu on ba : Nat → Nat) (N : Nat) (hN : N ≤ 200) (hs0 : st 1 = 0) (hsm : ∀ i, i ≤ N → st i ≤ st (i + 1)) (hsR : st (N + 1) ≤ 1000) (hto : ∀ r, r < st (N + 1) → to r ≤ N) (hbk : ∀ j, bk j ≤ 200) (hle : ∀ i, i ≤ N → st (i + 1) ≤ st (N + 1)) (hmn : ∀ i r i', i ≤ N → i' ≤ N → ofT st i r → ofT st i' r → i = i') : Con l D T yX2_turnRound cX2_turnRound 4 none 0 0 0 [.ref l0, .int (nI N)] [(l0, .inr (1, [.ref k0, .ref k1, .ref k2, .ref k3, .ref k4, .ref k5, .ref k6])), (k0, .inl (T 0, 202, .inl (fun z9 => nI (st z9)))), (k1, .inl (T 0, 1000, .inl (fun z9 => nI (to z9)))), (k2, .inl (T 0, 202, .inl (fun z9 => nI (bs z9)))), (k3, .inl (T 0, 1000, .inl (fun z9 => nI (bk z9)))), (k4, .inl (T 0, 201, .inl (fun z9 => nI (qu z9)))), (k5, .inl (T 2, 201, .inl (fun z9 => nI (on z9)))), (k6, .inl (T 2, 201, .inl (fun z9 => nI (ba z9))))] (fun v w1 => ∃ bs' bk' qu' : Nat → Nat, v = none ∧ w1 = [(l0, .inr (1, [.ref k0, .ref k1, .ref k2, .ref k3, .ref k4, .ref k5, .ref k6])), (k0, .inl (T 0, 202, .inl (fun z9 => nI (st z9)))), (k1, .inl (T 0, 1000, .inl (fun z9 => nI (to z9)))), (k2, .inl (T 0, 202, .inl (fun z9 => nI (bs' z9)))), (k3, .inl (T 0, 1000, .inl (fun z9 => nI (bk' z9)))), (k4, .inl (T 0, 201, .inl (fun z9 => nI (qu' z9)))), (k5, .inl (T 2, 201, .inl (fun z9 => nI (on z9)))), (k6, .inl (T 2, 201, .inl (fun z9 => nI (ba z9))))] ∧ BackOK N st to bs' bk') := by
  refine Con.of (by decide) (Nat.le_of_ble_eq_true rfl) ?_
  intro E hE
  refine g_lv (lv' := [(0, .ref l0), (1, .int (nI N))]) [0, 1] rfl ?_
  refine g_iconst (pc' := 1) hE (nI 0) (by decide) dX2_turnRound_0 rfl ?_
  refine g_istore_n (pc' := 2) hE [(2, .int (nI 0)), (0, .ref l0), (1, .int (nI N))] dX2_turnRound_1 rfl rfl (by decide) rfl ?_
  refine (show ∀ (d2 : Nat) (j : Nat) (bs : Nat → Nat), 202 - j = d2 → (j ≤ 202) → (∀ i, i < j → bs i = 0) → G l E D 4 0 0 [(l0, .inr (1, [.ref k0, .ref k1, .ref k2, .ref k3, .ref k4, .ref k5, .ref k6])), (k0, .inl (T 0, 202, .inl (fun z9 => nI (st z9)))), (k1, .inl (T 0, 1000, .inl (fun z9 => nI (to z9)))), (k2, .inl (T 0, 202, .inl (fun z9 => nI (bs z9)))), (k3, .inl (T 0, 1000, .inl (fun z9 => nI (bk z9)))), (k4, .inl (T 0, 201, .inl (fun z9 => nI (qu z9)))), (k5, .inl (T 2, 201, .inl (fun z9 => nI (on z9)))), (k6, .inl (T 2, 201, .inl (fun z9 => nI (ba z9))))] [(2, .int (nI j)), (0, .ref l0), (1, .int (nI N))] 2 [] from ?_) _ 0 bs rfl (by omega) (fun i hi => absurd hi (by omega))
  intro d2
  induction d2 using Nat.strongRecOn with
  | _ d2 ih2 =>
  intro j bs hd2 hj hz
  refine g_iload_n (pc' := 3) hE 0 rfl rfl dX2_turnRound_2 rfl ?_
  refine g_aload_n (pc' := 4) hE 1 rfl rfl dX2_turnRound_3 rfl ?_
  refine g_get (pc' := 7) hE gcX2 0 rfl 2 (by decide) rfl kX2_18 dX2_turnRound_4 rfl ?_
  refine g_alen (pc' := 8) hE 3 0 rfl rfl dX2_turnRound_7 rfl ?_
  refine g_icmpN_ge (pc' := 11) (tgt := 24) hE (by omega) (by omega) dX2_turnRound_8 rfl rfl (fun hc8 => ?_) (fun hc8 => ?_)
  · refine g_iconst (pc' := 25) hE (nI 0) (by decide) dX2_turnRound_24 rfl ?_
    refine g_istore_n (pc' := 26) hE [(2, .int (nI 0)), (0, .ref l0), (1, .int (nI N))] dX2_turnRound_25 rfl rfl (by decide) rfl ?_
    refine (show ∀ (d26 : Nat) (r : Nat) (bs : Nat → Nat), st (N + 1) - r = d26 → (r ≤ st (N + 1)) → (∀ i, i < 202 → bs i = ct to r i) → G l E D 4 0 0 [(l0, .inr (1, [.ref k0, .ref k1, .ref k2, .ref k3, .ref k4, .ref k5, .ref k6])), (k0, .inl (T 0, 202, .inl (fun z9 => nI (st z9)))), (k1, .inl (T 0, 1000, .inl (fun z9 => nI (to z9)))), (k2, .inl (T 0, 202, .inl (fun z9 => nI (bs z9)))), (k3, .inl (T 0, 1000, .inl (fun z9 => nI (bk z9)))), (k4, .inl (T 0, 201, .inl (fun z9 => nI (qu z9)))), (k5, .inl (T 2, 201, .inl (fun z9 => nI (on z9)))), (k6, .inl (T 2, 201, .inl (fun z9 => nI (ba z9))))] [(2, .int (nI r)), (0, .ref l0), (1, .int (nI N))] 26 [] from ?_) _ 0 bs rfl (Nat.zero_le _) (fun i hi => hz i (by omega))
    intro d26
    induction d26 using Nat.strongRecOn with
    | _ d26 ih26 =>
    intro r bs hd26 hr hz
    refine g_iload_n (pc' := 27) hE 0 rfl rfl dX2_turnRound_26 rfl ?_
    refine g_aload_n (pc' := 28) hE 1 rfl rfl dX2_turnRound_27 rfl ?_
    refine g_get (pc' := 31) hE gcX2 0 rfl 0 (by decide) rfl kX2_9 dX2_turnRound_28 rfl ?_
    refine g_iload_n (pc' := 32) hE 2 rfl rfl dX2_turnRound_31 rfl ?_
    refine g_iconst (pc' := 33) hE (nI 1) (by decide) dX2_turnRound_32 rfl ?_
    refine g_iadd (pc' := 34) hE dX2_turnRound_33 rfl ?_
    refine g_eqi (show _ = nI (N + 1) from nI_add _ _) ?_
    refine g_iald (pc' := 35) hE 1 rfl (by omega) (by omega) dX2_turnRound_34 rfl ?_
    refine g_icmpN_ge (pc' := 38) (tgt := 61) hE (by omega) (by omega) dX2_turnRound_35 rfl rfl (fun hc35 => ?_) (fun hc35 => ?_)
    · refine g_iconst (pc' := 62) hE (nI 0) (by decide) dX2_turnRound_61 rfl ?_
      refine g_istore_n (pc' := 63) hE [(2, .int (nI 0)), (0, .ref l0), (1, .int (nI N))] dX2_turnRound_62 rfl rfl (by decide) rfl ?_
      refine (show ∀ (d63 : Nat) (j : Nat) (bs : Nat → Nat) (qu : Nat → Nat), N + 1 - j = d63 → (j ≤ N + 1) → (∀ i, i ≤ j → bs i = cl to (st (N + 1)) i) → (∀ i, j < i → i < 202 → bs i = ct to (st (N + 1)) i) → (∀ i, i < j → qu i = cl to (st (N + 1)) i) → G l E D 4 0 0 [(l0, .inr (1, [.ref k0, .ref k1, .ref k2, .ref k3, .ref k4, .ref k5, .ref k6])), (k0, .inl (T 0, 202, .inl (fun z9 => nI (st z9)))), (k1, .inl (T 0, 1000, .inl (fun z9 => nI (to z9)))), (k2, .inl (T 0, 202, .inl (fun z9 => nI (bs z9)))), (k3, .inl (T 0, 1000, .inl (fun z9 => nI (bk z9)))), (k4, .inl (T 0, 201, .inl (fun z9 => nI (qu z9)))), (k5, .inl (T 2, 201, .inl (fun z9 => nI (on z9)))), (k6, .inl (T 2, 201, .inl (fun z9 => nI (ba z9))))] [(2, .int (nI j)), (0, .ref l0), (1, .int (nI N))] 63 [] from ?_) _ 0 bs qu rfl (by omega) (fun i hi => by rw [show i = 0 by omega, cl_0, hz 0 (by omega), ct_0]) (fun i h1 h2 => by rw [hz i h2, show r = st (N + 1) by omega]) (fun i hi => absurd hi (by omega))
      intro d63
      induction d63 using Nat.strongRecOn with
      | _ d63 ih63 =>
      intro j bs qu hd63 hj hlo hhi hq
      refine g_iload_n (pc' := 64) hE 0 rfl rfl dX2_turnRound_63 rfl ?_
      refine g_iload_n (pc' := 65) hE 2 rfl rfl dX2_turnRound_64 rfl ?_
      refine g_icmpN_gt (pc' := 68) (tgt := 103) hE (by omega) (by omega) dX2_turnRound_65 rfl rfl (fun hc65 => ?_) (fun hc65 => ?_)
      · refine g_iconst (pc' := 104) hE (nI 1) (by decide) dX2_turnRound_103 rfl ?_
        refine g_istore_n (pc' := 105) hE [(2, .int (nI 1)), (0, .ref l0), (1, .int (nI N))] dX2_turnRound_104 rfl rfl (by decide) rfl ?_
        refine (show ∀ (d105 : Nat) (m : Nat) (bk : Nat → Nat) (qu : Nat → Nat), N - m = d105 → (m ≤ N) → (BK N (st (N + 1)) st to bk (st (m + 1))) → (∀ i, i ≤ N → qu i = cl to (st (N + 1)) i + ce to (st (m + 1)) i) → G l E D 4 0 0 [(l0, .inr (1, [.ref k0, .ref k1, .ref k2, .ref k3, .ref k4, .ref k5, .ref k6])), (k0, .inl (T 0, 202, .inl (fun z9 => nI (st z9)))), (k1, .inl (T 0, 1000, .inl (fun z9 => nI (to z9)))), (k2, .inl (T 0, 202, .inl (fun z9 => nI (bs z9)))), (k3, .inl (T 0, 1000, .inl (fun z9 => nI (bk z9)))), (k4, .inl (T 0, 201, .inl (fun z9 => nI (qu z9)))), (k5, .inl (T 2, 201, .inl (fun z9 => nI (on z9)))), (k6, .inl (T 2, 201, .inl (fun z9 => nI (ba z9))))] [(2, .int (nI (m + 1))), (0, .ref l0), (1, .int (nI N))] 105 [] from ?_) _ 0 bk qu rfl (by omega) (by rw [hs0]; exact ⟨fun r' hr' => absurd hr' (by omega), hbk⟩) (fun i hi => by rw [hs0, hq i (by omega)]; rfl)
        intro d105
        induction d105 using Nat.strongRecOn with
        | _ d105 ih105 =>
        intro m bk qu hd105 hm hB hq
        refine g_iload_n (pc' := 106) hE 0 rfl rfl dX2_turnRound_105 rfl ?_
        refine g_iload_n (pc' := 107) hE 2 rfl rfl dX2_turnRound_106 rfl ?_
        have hle9 := hle m hm
        refine g_icmpN_gt (pc' := 110) (tgt := 173) hE (by omega) (by omega) dX2_turnRound_107 rfl rfl (fun hc107 => ?_) (fun hc107 => ?_)
        · exact hE.vret (⟨bs, bk, qu, rfl, rfl, backOK hsR hto hle hmn (fun i hi => hlo i (by omega)) (by rw [show m = N by omega] at hB; exact hB)⟩) (Nat.zero_le _) (Nat.zero_le _) dX2_turnRound_173
        · refine g_aload_n (pc' := 111) hE 1 rfl rfl dX2_turnRound_110 rfl ?_
          refine g_get (pc' := 114) hE gcX2 0 rfl 0 (by decide) rfl kX2_9 dX2_turnRound_111 rfl ?_
          refine g_iload_n (pc' := 115) hE 0 rfl rfl dX2_turnRound_114 rfl ?_
          refine g_iald (pc' := 116) hE 1 rfl (by omega) (by omega) dX2_turnRound_115 rfl ?_
          refine g_istore_n (pc' := 117) hE [(3, .int (nI (st (m + 1)))), (2, .int (nI (m + 1))), (0, .ref l0), (1, .int (nI N))] dX2_turnRound_116 rfl rfl (by decide) rfl ?_
          refine (show ∀ (d117 : Nat) (r : Nat) (bk : Nat → Nat) (qu : Nat → Nat), st (m + 1 + 1) - r = d117 → (st (m + 1) ≤ r) → (r ≤ st (m + 1 + 1)) → (BK N (st (N + 1)) st to bk r) → (∀ i, i ≤ N → qu i = cl to (st (N + 1)) i + ce to r i) → G l E D 4 0 0 [(l0, .inr (1, [.ref k0, .ref k1, .ref k2, .ref k3, .ref k4, .ref k5, .ref k6])), (k0, .inl (T 0, 202, .inl (fun z9 => nI (st z9)))), (k1, .inl (T 0, 1000, .inl (fun z9 => nI (to z9)))), (k2, .inl (T 0, 202, .inl (fun z9 => nI (bs z9)))), (k3, .inl (T 0, 1000, .inl (fun z9 => nI (bk z9)))), (k4, .inl (T 0, 201, .inl (fun z9 => nI (qu z9)))), (k5, .inl (T 2, 201, .inl (fun z9 => nI (on z9)))), (k6, .inl (T 2, 201, .inl (fun z9 => nI (ba z9))))] [(3, .int (nI r)), (2, .int (nI (m + 1))), (0, .ref l0), (1, .int (nI N))] 117 [] from ?_) _ (st (m + 1)) bk qu rfl (Nat.le_refl _) (hsm (m + 1) (by omega)) hB hq
          intro d117
          induction d117 using Nat.strongRecOn with
          | _ d117 ih117 =>
          intro r bk qu hd117 hr1 hr2 hB hq
          refine g_iload_n (pc' := 118) hE 0 rfl rfl dX2_turnRound_117 rfl ?_
          refine g_aload_n (pc' := 119) hE 2 rfl rfl dX2_turnRound_118 rfl ?_
          refine g_get (pc' := 122) hE gcX2 0 rfl 0 (by decide) rfl kX2_9 dX2_turnRound_119 rfl ?_
          refine g_iload_n (pc' := 123) hE 1 rfl rfl dX2_turnRound_122 rfl ?_
          refine g_iconst (pc' := 124) hE (nI 1) (by decide) dX2_turnRound_123 rfl ?_
          refine g_iadd (pc' := 125) hE dX2_turnRound_124 rfl ?_
          refine g_eqi (show _ = nI (m + 1 + 1) from nI_add _ _) ?_
          refine g_iald (pc' := 126) hE 1 rfl (by omega) (by omega) dX2_turnRound_125 rfl ?_
          have hle2 := hle (m + 1) (by omega)
          refine g_icmpN_ge (pc' := 129) (tgt := 167) hE (by omega) (by omega) dX2_turnRound_126 rfl rfl (fun hc126 => ?_) (fun hc126 => ?_)
          · refine g_iinc (pc' := 170) hE (nI (m + 1 + 1)) [(2, .int (nI (m + 1 + 1))), (3, .int (nI r)), (0, .ref l0), (1, .int (nI N))] 1 rfl dX2_turnRound_167 rfl (g_incN _ 1) (by decide) rfl ?_
            refine g_goto (tgt := 105) hE dX2_turnRound_170 rfl ?_
            refine g_lv [0, 2, 3] (lv' := [(2, .int (nI (m + 1 + 1))), (0, .ref l0), (1, .int (nI N))]) rfl ?_
            exact ih105 _ (by omega) (m + 1) bk qu rfl (by omega) (by rw [show st (m + 1 + 1) = r by omega]; exact hB) (by rw [show st (m + 1 + 1) = r by omega]; exact hq)
          · refine g_aload_n (pc' := 130) hE 2 rfl rfl dX2_turnRound_129 rfl ?_
            refine g_get (pc' := 133) hE gcX2 0 rfl 3 (by decide) rfl kX2_21 dX2_turnRound_130 rfl ?_
            refine g_aload_n (pc' := 134) hE 2 rfl rfl dX2_turnRound_133 rfl ?_
            refine g_get (pc' := 137) hE gcX2 0 rfl 4 (by decide) rfl kX2_24 dX2_turnRound_134 rfl ?_
            refine g_aload_n (pc' := 138) hE 2 rfl rfl dX2_turnRound_137 rfl ?_
            refine g_get (pc' := 141) hE gcX2 0 rfl 1 (by decide) rfl kX2_15 dX2_turnRound_138 rfl ?_
            refine g_iload_n (pc' := 142) hE 0 rfl rfl dX2_turnRound_141 rfl ?_
            have htr := hto r (by omega)
            have hqr := hq (to r) htr
            have hpr := (ps_in (to := to) (show r < st (N + 1) by omega)).2
            have hcl := cl_le to (st (N + 1)) (to r + 1)
            have hpe : qu (to r) = ps to (st (N + 1)) r := hqr
            refine g_iald (pc' := 143) hE 2 rfl (by omega) (by omega) dX2_turnRound_142 rfl ?_
            refine g_iald (pc' := 144) hE 5 rfl (by omega) (by omega) dX2_turnRound_143 rfl ?_
            refine g_iload_n (pc' := 145) hE 1 rfl rfl dX2_turnRound_144 rfl ?_
            refine g_iast (pc' := 146) hE 4 [(l0, .inr (1, [.ref k0, .ref k1, .ref k2, .ref k3, .ref k4, .ref k5, .ref k6])), (k0, .inl (T 0, 202, .inl (fun z9 => nI (st z9)))), (k1, .inl (T 0, 1000, .inl (fun z9 => nI (to z9)))), (k2, .inl (T 0, 202, .inl (fun z9 => nI (bs z9)))), (k3, .inl (T 0, 1000, .inl (fun z9 => nI ((gu bk (ps to (st (N + 1)) r) (m + 1)) z9)))), (k4, .inl (T 0, 201, .inl (fun z9 => nI (qu z9)))), (k5, .inl (T 2, 201, .inl (fun z9 => nI (on z9)))), (k6, .inl (T 2, 201, .inl (fun z9 => nI (ba z9))))] rfl (by omega) (by omega) (by rw [← hpe]; exact gu_I _ _ _) rfl dX2_turnRound_145 rfl ?_
            refine g_aload_n (pc' := 147) hE 2 rfl rfl dX2_turnRound_146 rfl ?_
            refine g_get (pc' := 150) hE gcX2 0 rfl 4 (by decide) rfl kX2_24 dX2_turnRound_147 rfl ?_
            refine g_aload_n (pc' := 151) hE 2 rfl rfl dX2_turnRound_150 rfl ?_
            refine g_get (pc' := 154) hE gcX2 0 rfl 1 (by decide) rfl kX2_15 dX2_turnRound_151 rfl ?_
            refine g_iload_n (pc' := 155) hE 0 rfl rfl dX2_turnRound_154 rfl ?_
            refine g_iald (pc' := 156) hE 2 rfl (by omega) (by omega) dX2_turnRound_155 rfl ?_
            refine g_dup2_11 (pc' := 157) hE rfl rfl dX2_turnRound_156 rfl ?_
            refine g_iald (pc' := 158) hE 5 rfl (by omega) (by omega) dX2_turnRound_157 rfl ?_
            refine g_iconst (pc' := 159) hE (nI 1) (by decide) dX2_turnRound_158 rfl ?_
            refine g_iadd (pc' := 160) hE dX2_turnRound_159 rfl ?_
            refine g_eqi (show _ = nI (qu (to r) + 1) from nI_add _ _) ?_
            refine g_iast (pc' := 161) hE 5 [(l0, .inr (1, [.ref k0, .ref k1, .ref k2, .ref k3, .ref k4, .ref k5, .ref k6])), (k0, .inl (T 0, 202, .inl (fun z9 => nI (st z9)))), (k1, .inl (T 0, 1000, .inl (fun z9 => nI (to z9)))), (k2, .inl (T 0, 202, .inl (fun z9 => nI (bs z9)))), (k3, .inl (T 0, 1000, .inl (fun z9 => nI ((gu bk (ps to (st (N + 1)) r) (m + 1)) z9)))), (k4, .inl (T 0, 201, .inl (fun z9 => nI ((gu qu (to r) (qu (to r) + 1)) z9)))), (k5, .inl (T 2, 201, .inl (fun z9 => nI (on z9)))), (k6, .inl (T 2, 201, .inl (fun z9 => nI (ba z9))))] rfl (by omega) (by omega) (gu_I _ _ _) rfl dX2_turnRound_160 rfl ?_
            refine g_iinc (pc' := 164) hE (nI (r + 1)) [(3, .int (nI (r + 1))), (2, .int (nI (m + 1))), (0, .ref l0), (1, .int (nI N))] 0 rfl dX2_turnRound_161 rfl (g_incN _ 1) (by decide) rfl ?_
            refine g_goto (tgt := 117) hE dX2_turnRound_164 rfl ?_
            exact ih117 _ (by omega) (r + 1) (gu bk (ps to (st (N + 1)) r) (m + 1)) (gu qu (to r) (qu (to r) + 1)) rfl (by omega) (by omega) (hB.step (by omega) (by omega) (by omega) hN ⟨hr1, hc126⟩) (fun i hi => by simp only [ce]; by_cases e : i = to r; (subst e; rw [gu_s, if_pos rfl, hq _ hi]; omega); (rw [gu_n _ _ e, if_neg (fun z => e z.symm), hq i hi]; rfl))
      · refine g_aload_n (pc' := 69) hE 1 rfl rfl dX2_turnRound_68 rfl ?_
        refine g_get (pc' := 72) hE gcX2 0 rfl 4 (by decide) rfl kX2_24 dX2_turnRound_69 rfl ?_
        refine g_iload_n (pc' := 73) hE 0 rfl rfl dX2_turnRound_72 rfl ?_
        refine g_aload_n (pc' := 74) hE 1 rfl rfl dX2_turnRound_73 rfl ?_
        refine g_get (pc' := 77) hE gcX2 0 rfl 2 (by decide) rfl kX2_18 dX2_turnRound_74 rfl ?_
        refine g_iload_n (pc' := 78) hE 0 rfl rfl dX2_turnRound_77 rfl ?_
        refine g_iald (pc' := 79) hE 3 rfl (by omega) (by omega) dX2_turnRound_78 rfl ?_
        refine g_iast (pc' := 80) hE 5 [(l0, .inr (1, [.ref k0, .ref k1, .ref k2, .ref k3, .ref k4, .ref k5, .ref k6])), (k0, .inl (T 0, 202, .inl (fun z9 => nI (st z9)))), (k1, .inl (T 0, 1000, .inl (fun z9 => nI (to z9)))), (k2, .inl (T 0, 202, .inl (fun z9 => nI (bs z9)))), (k3, .inl (T 0, 1000, .inl (fun z9 => nI (bk z9)))), (k4, .inl (T 0, 201, .inl (fun z9 => nI ((gu qu j (bs j)) z9)))), (k5, .inl (T 2, 201, .inl (fun z9 => nI (on z9)))), (k6, .inl (T 2, 201, .inl (fun z9 => nI (ba z9))))] rfl (by omega) (by omega) (gu_I _ _ _) rfl dX2_turnRound_79 rfl ?_
        refine g_aload_n (pc' := 81) hE 1 rfl rfl dX2_turnRound_80 rfl ?_
        refine g_get (pc' := 84) hE gcX2 0 rfl 2 (by decide) rfl kX2_18 dX2_turnRound_81 rfl ?_
        refine g_iload_n (pc' := 85) hE 0 rfl rfl dX2_turnRound_84 rfl ?_
        refine g_iconst (pc' := 86) hE (nI 1) (by decide) dX2_turnRound_85 rfl ?_
        refine g_iadd (pc' := 87) hE dX2_turnRound_86 rfl ?_
        refine g_eqi (show _ = nI (j + 1) from nI_add _ _) ?_
        refine g_dup2_11 (pc' := 88) hE rfl rfl dX2_turnRound_87 rfl ?_
        refine g_iald (pc' := 89) hE 3 rfl (by omega) (by omega) dX2_turnRound_88 rfl ?_
        refine g_aload_n (pc' := 90) hE 1 rfl rfl dX2_turnRound_89 rfl ?_
        refine g_get (pc' := 93) hE gcX2 0 rfl 2 (by decide) rfl kX2_18 dX2_turnRound_90 rfl ?_
        refine g_iload_n (pc' := 94) hE 0 rfl rfl dX2_turnRound_93 rfl ?_
        refine g_iald (pc' := 95) hE 3 rfl (by omega) (by omega) dX2_turnRound_94 rfl ?_
        refine g_iadd (pc' := 96) hE dX2_turnRound_95 rfl ?_
        refine g_eqi (show _ = nI (bs (j + 1) + bs j) from nI_add _ _) ?_
        refine g_iast (pc' := 97) hE 3 [(l0, .inr (1, [.ref k0, .ref k1, .ref k2, .ref k3, .ref k4, .ref k5, .ref k6])), (k0, .inl (T 0, 202, .inl (fun z9 => nI (st z9)))), (k1, .inl (T 0, 1000, .inl (fun z9 => nI (to z9)))), (k2, .inl (T 0, 202, .inl (fun z9 => nI ((gu bs (j + 1) (bs (j + 1) + bs j)) z9)))), (k3, .inl (T 0, 1000, .inl (fun z9 => nI (bk z9)))), (k4, .inl (T 0, 201, .inl (fun z9 => nI ((gu qu j (bs j)) z9)))), (k5, .inl (T 2, 201, .inl (fun z9 => nI (on z9)))), (k6, .inl (T 2, 201, .inl (fun z9 => nI (ba z9))))] rfl (by omega) (by omega) (gu_I _ _ _) rfl dX2_turnRound_96 rfl ?_
        refine g_iinc (pc' := 100) hE (nI (j + 1)) [(2, .int (nI (j + 1))), (0, .ref l0), (1, .int (nI N))] 0 rfl dX2_turnRound_97 rfl (g_incN _ 1) (by decide) rfl ?_
        refine g_goto (tgt := 63) hE dX2_turnRound_100 rfl ?_
        exact ih63 _ (by omega) (j + 1) (gu bs (j + 1) (bs (j + 1) + bs j)) (gu qu j (bs j)) rfl (by omega) (fun i hi => by by_cases e : i = j + 1; (subst e; rw [gu_s, hhi _ (by omega) (by omega), hlo j (by omega), ← cl_z, Nat.add_comm]); (rw [gu_n _ _ e]; exact hlo i (by omega))) (fun i h1 h2 => by rw [gu_n _ _ (by omega)]; exact hhi i (by omega) h2) (fun i hi => by by_cases e : i = j; (subst e; rw [gu_s]; exact hlo i (by omega)); (rw [gu_n _ _ e]; exact hq i (by omega)))
    · refine g_aload_n (pc' := 39) hE 1 rfl rfl dX2_turnRound_38 rfl ?_
      refine g_get (pc' := 42) hE gcX2 0 rfl 2 (by decide) rfl kX2_18 dX2_turnRound_39 rfl ?_
      refine g_aload_n (pc' := 43) hE 1 rfl rfl dX2_turnRound_42 rfl ?_
      refine g_get (pc' := 46) hE gcX2 0 rfl 1 (by decide) rfl kX2_15 dX2_turnRound_43 rfl ?_
      refine g_iload_n (pc' := 47) hE 0 rfl rfl dX2_turnRound_46 rfl ?_
      have htr := hto r (by have := hc35; omega)
      refine g_iald (pc' := 48) hE 2 rfl (by omega) (by omega) dX2_turnRound_47 rfl ?_
      refine g_iconst (pc' := 49) hE (nI 1) (by decide) dX2_turnRound_48 rfl ?_
      refine g_iadd (pc' := 50) hE dX2_turnRound_49 rfl ?_
      refine g_eqi (show _ = nI (to r + 1) from nI_add _ _) ?_
      refine g_dup2_11 (pc' := 51) hE rfl rfl dX2_turnRound_50 rfl ?_
      refine g_iald (pc' := 52) hE 3 rfl (by omega) (by omega) dX2_turnRound_51 rfl ?_
      refine g_iconst (pc' := 53) hE (nI 1) (by decide) dX2_turnRound_52 rfl ?_
      refine g_iadd (pc' := 54) hE dX2_turnRound_53 rfl ?_
      refine g_eqi (show _ = nI (bs (to r + 1) + 1) from nI_add _ _) ?_
      refine g_iast (pc' := 55) hE 3 [(l0, .inr (1, [.ref k0, .ref k1, .ref k2, .ref k3, .ref k4, .ref k5, .ref k6])), (k0, .inl (T 0, 202, .inl (fun z9 => nI (st z9)))), (k1, .inl (T 0, 1000, .inl (fun z9 => nI (to z9)))), (k2, .inl (T 0, 202, .inl (fun z9 => nI ((gu bs (to r + 1) (bs (to r + 1) + 1)) z9)))), (k3, .inl (T 0, 1000, .inl (fun z9 => nI (bk z9)))), (k4, .inl (T 0, 201, .inl (fun z9 => nI (qu z9)))), (k5, .inl (T 2, 201, .inl (fun z9 => nI (on z9)))), (k6, .inl (T 2, 201, .inl (fun z9 => nI (ba z9))))] rfl (by omega) (by omega) (gu_I _ _ _) rfl dX2_turnRound_54 rfl ?_
      refine g_iinc (pc' := 58) hE (nI (r + 1)) [(2, .int (nI (r + 1))), (0, .ref l0), (1, .int (nI N))] 0 rfl dX2_turnRound_55 rfl (g_incN _ 1) (by decide) rfl ?_
      refine g_goto (tgt := 26) hE dX2_turnRound_58 rfl ?_
      exact ih26 _ (by omega) (r + 1) (gu bs (to r + 1) (bs (to r + 1) + 1)) rfl (by omega) (fun i hi => by simp only [ct]; by_cases e : i = to r + 1; (subst e; rw [gu_s, if_pos rfl, hz _ hi]); (rw [gu_n _ _ e, if_neg (fun z => e z.symm), hz i hi]; rfl))
  · refine g_aload_n (pc' := 12) hE 1 rfl rfl dX2_turnRound_11 rfl ?_
    refine g_get (pc' := 15) hE gcX2 0 rfl 2 (by decide) rfl kX2_18 dX2_turnRound_12 rfl ?_
    refine g_iload_n (pc' := 16) hE 0 rfl rfl dX2_turnRound_15 rfl ?_
    refine g_iconst (pc' := 17) hE (nI 0) (by decide) dX2_turnRound_16 rfl ?_
    refine g_iast (pc' := 18) hE 3 [(l0, .inr (1, [.ref k0, .ref k1, .ref k2, .ref k3, .ref k4, .ref k5, .ref k6])), (k0, .inl (T 0, 202, .inl (fun z9 => nI (st z9)))), (k1, .inl (T 0, 1000, .inl (fun z9 => nI (to z9)))), (k2, .inl (T 0, 202, .inl (fun z9 => nI ((gu bs j 0) z9)))), (k3, .inl (T 0, 1000, .inl (fun z9 => nI (bk z9)))), (k4, .inl (T 0, 201, .inl (fun z9 => nI (qu z9)))), (k5, .inl (T 2, 201, .inl (fun z9 => nI (on z9)))), (k6, .inl (T 2, 201, .inl (fun z9 => nI (ba z9))))] rfl (by omega) (by omega) (gu_I _ _ _) rfl dX2_turnRound_17 rfl ?_
    refine g_iinc (pc' := 21) hE (nI (j + 1)) [(2, .int (nI (j + 1))), (0, .ref l0), (1, .int (nI N))] 0 rfl dX2_turnRound_18 rfl (g_incN _ 1) (by decide) rfl ?_
    refine g_goto (tgt := 2) hE dX2_turnRound_21 rfl ?_
    exact ih2 _ (by omega) (j + 1) (gu bs j 0) rfl (by omega) (lt_s (fun i hi => by rw [gu_n _ _ (by omega)]; exact hz i hi) (gu_s _ _ _))
