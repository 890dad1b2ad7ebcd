/-- places are made in order: mk of them are there -/
def Made (mk nx num : Nat) : Prop := mk ≤ 6 ∧ nx < 6 ∧ num ≤ 6 ∧ nx ≤ mk ∧ (mk < 6 → num ≤ nx)
theorem Made.start : Made 0 0 0 := by unfold Made; omega
/-- a save into a place that is there -/
theorem Made.old {mk nx num : Nat} (h : Made mk nx num) (q : nx < mk) : Made mk ((nx + 1) % 6) (if num < 6 then num + 1 else 6) := by
  unfold Made at *
  by_cases x : num < 6
  · rw [if_pos x]; omega
  · rw [if_neg x]; omega
/-- a save into an empty place: it is the next one -/
theorem Made.new {mk nx num : Nat} (h : Made mk nx num) (q : ¬ nx < mk) : nx = mk ∧ mk < 6 ∧ Made (mk + 1) ((nx + 1) % 6) (if num < 6 then num + 1 else 6) := by
  unfold Made at *
  by_cases x : num < 6
  · rw [if_pos x]; omega
  · rw [if_neg x]; omega
