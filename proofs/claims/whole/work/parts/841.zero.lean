/-! where both sides begin -/
theorem CT0 : CT 0 0 (fun _ => 0) (fun _ => 0) (fun _ => 0) 0 (fun _ => 0) (fun _ => 0) (fun _ => 0) (fun _ => 0) (fun _ => 0) (fun _ => 0) 0 0 1 (fun _ => 0) (fun _ => 0) (fun _ => 0) (fun _ => 0) (fun _ => 0) (fun _ => 0) (fun _ => 0) (fun _ => some 0) (fun _ => 0) (fun _ => 0) (fun _ => 0) 1 0 := by
  have a8 : (0 : Nat) < 256 := by decide
  have a20 : (0 : Nat) < 2 ^ 20 := by decide
  have a24 : (0 : Nat) < 2 ^ 24 := by decide
  have a32 : (0 : Nat) < 2 ^ 32 := by decide
  have hb : ∀ j : Nat, (fun _ : Nat => 0) j < 2 ^ 20 ∧ (fun _ : Nat => 0) j < 2 ^ 20 ∧ (fun _ : Nat => 0) j < 2 ^ 24 := fun _ => ⟨a20, a20, a24⟩
  refine ⟨⟨by decide, fun _ => a8⟩, by decide, ⟨fun _ => ⟨a20, a32, a20⟩, fun i a b => absurd a (by omega)⟩, ⟨rfl, NOK_0 _ _ hb (fun _ => Nat.zero_le _), fun j hj => absurd hj (by omega), fun _ => Nat.zero_le _, by decide⟩, ⟨⟨rfl, fun i hi => by rw [show i = 0 by omega]; rfl, fun _ => Nat.zero_le _⟩, ⟨fun r hr => absurd hr (by show ¬ r < 0; omega), fun _ => a32⟩, fun j _ => ⟨Nat.le_refl _, Nat.zero_le _⟩, fun j _ p _ h => absurd h (Nat.not_lt_zero p), fun i r a b => absurd a (by omega), fun _ => Nat.zero_le _⟩, ⟨⟨0, RD_0 _ _ (fun _ _ => rfl) rfl rfl⟩, fun e i hi => by rw [show i = 0 by omega]; exact alk.rf _ _ _ _, rfl, fun i a b => absurd a (by omega)⟩, ⟨fun _ => ⟨Nat.zero_le _, Nat.zero_le _, Nat.zero_le _, Nat.zero_le _, Nat.zero_le _, Nat.zero_le _⟩, fun j c h => by cases h; decide⟩, ⟨by decide, rfl, rfl⟩, Or.inl rfl, Nat.le_refl _⟩
theorem MX0 : MX (cut (fun _ => 0) 0) 0 0 24 1 (fun _ => 0) (fun _ => 0) (fun _ => 0) (fun _ => 0) (fun _ => 0) (fun _ => 0) (fun _ => 0) (fun _ => 0) (fun _ => 0) (fun _ => 0) (fun _ => 0) (fun _ => 0) (fun _ => 0) (fun _ => 0) (fun _ => 0) (fun _ => 0) 0 := by
  have hz : ∀ i, cut (fun _ => 0) 0 i = 0 := fun i => by unfold cut; rw [if_neg (by omega)]
  refine ⟨⟨⟨⟨⟨by decide, Nat.le_refl _, Nat.zero_le _, fun j hj => absurd hj (by omega)⟩, Nat.le_refl _, hz _, ⟨by decide, by decide, by decide⟩, fun i => by rw [hz]; decide⟩, ⟨fun k _ => (hz _).symm, fun _ => (by decide : (0 : Nat) < 256)⟩, fun j hj => absurd hj (by omega), fun j hj => by rw [show j = 0 by omega]; rfl, fun j p hj => absurd hj (by omega), fun p hp => absurd hp (by omega)⟩, fun a b ha hb => ?_, fun i a b => by omega, rfl⟩, Or.inl rfl⟩
  rw [show a = 0 by omega, show b = 0 by omega]
  exact ⟨Or.inl ⟨rfl, fun e => alk.rf _ _ _ _⟩, Nat.zero_le _⟩
theorem and15 (x : Int32) : ∃ v : Nat, x &&& nI 15 = nI v ∧ v < 16 := by
  refine ⟨x.toBitVec.toNat % 16, ?_, Nat.mod_lt _ (by decide)⟩
  apply Int32.toBitVec_inj.mp
  show x.toBitVec &&& (nI 15).toBitVec = (nI (x.toBitVec.toNat % 16)).toBitVec
  apply BitVec.eq_of_toNat_eq
  rw [BitVec.toNat_and]
  show x.toBitVec.toNat &&& 15 = (BitVec.ofNat 32 (x.toBitVec.toNat % 16)).toNat
  rw [BitVec.toNat_ofNat, show (15 : Nat) = 2 ^ 4 - 1 from rfl, Nat.and_two_pow_sub_one_eq_mod, Nat.mod_eq_of_lt (b := 2 ^ 32) (Nat.lt_trans (Nat.mod_lt _ (by decide)) (by decide))]
theorem gt4 {L i : Nat} (hL : L ≤ 2048) (hi : i ≤ 4096) : nI L - nI 4 < nI i ↔ L < i + 4 := by
  rw [Int32.lt_iff_toInt_lt, nI_toInt (by omega)]
  have e : (nI L - nI 4).toInt = (L : Int) - 4 := by
    by_cases h : 4 ≤ L
    · rw [pk_sub h, nI_toInt (by omega)]; omega
    · rcases (show L = 0 ∨ L = 1 ∨ L = 2 ∨ L = 3 by omega) with h | h | h | h <;> subst h <;> decide
  rw [e]
  omega
