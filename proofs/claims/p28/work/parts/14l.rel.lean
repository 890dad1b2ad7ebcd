/-- a saved plant and its slice of the model's saved cells -/
def RelS (P : PV) (hh : Nat → Nat) (sh : Nat → UInt64) (k : Nat) : Prop := ∃ z sf, Rel P z sf ∧ (∀ j, j < 83 → hh (83 * k + j) = z j) ∧ (∀ j, j < 4 → sh (4 * k + j) = sf j)
/-- a plant is saved: its slice is the newest -/
theorem RelS.new {P : PV} {z hh : Nat → Nat} {sf sh : Nat → UInt64} {st : Nat} (h : Rel P z sf) (hst : st ≤ 6) : RelS P (svH z hh st) (svT sf sh st) (if st < 6 then st else 5) := by
  refine ⟨z, sf, h, fun j hj => ?_, fun j hj => ?_⟩
  · unfold svH
    by_cases q : st < 6
    · rw [if_pos q, if_pos q, svC_at, if_pos (by omega), Nat.add_sub_cancel_left]
    · rw [if_neg q, if_neg q, svC_at, if_pos (by omega), Nat.add_sub_cancel_left]
  · unfold svT
    by_cases q : st < 6
    · rw [if_pos q, if_pos q, svC_at, if_pos (by omega), Nat.add_sub_cancel_left]
    · rw [if_neg q, if_neg q, svC_at, if_pos (by omega), Nat.add_sub_cancel_left]
