/-- the ring of saved plants (R i = the plant in place i, nx = the next place, num = how many) against the model's slices, oldest first -/
def Ring (R : Nat → PV) (nx num : Nat) (hh : Nat → Nat) (sh : Nat → UInt64) : Prop := nx < 6 ∧ num ≤ 6 ∧ ∀ k, k < num → RelS (R ((nx + 6 - num + k) % 6)) hh sh k
theorem Ring.start {R : Nat → PV} {hh : Nat → Nat} {sh : Nat → UInt64} : Ring R 0 0 hh sh := ⟨by decide, by decide, fun k h => absurd h (Nat.not_lt_zero k)⟩
