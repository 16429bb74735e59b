/-- bytes put behind the draft, as far as it reaches -/
def putD (df : Nat → Nat) (dr : Nat) (f : Nat → Nat) : Nat → Nat → Nat
  | 0 => df
  | q + 1 => if dr + q < 16384 then gu (putD df dr f q) (dr + q) (f q) else putD df dr f q
def Known (kn re on tw be pt : Nat → Nat) (nm i : Nat) : Prop := ((trB (kn i) = false ∨ re i ≤ nm) ∧ on i ≤ nm ∧ tw i ≤ nm) ∧ ∀ p, be i ≤ p → p < be (i + 1) → pt p ≤ nm
