/-- the ring of saved plants (R i = the plant in place i, nx = the next place, num = how many) against the model's slices, oldest first -/
def Ring (R : Nat → PV) (nx num : Nat) (hh : Nat → Nat) (sh : Nat → UInt64) : Prop := nx < 6 ∧ num ≤ 6 ∧ ∀ k, k < num → RelS (R ((nx + 6 - num + k) % 6)) hh sh k
theorem Ring.start {R : Nat → PV} {hh : Nat → Nat} {sh : Nat → UInt64} : Ring R 0 0 hh sh := ⟨by decide, by decide, fun k h => absurd h (Nat.not_lt_zero k)⟩
theorem Ring.save {R : Nat → PV} {nx num : Nat} {hh : Nat → Nat} {sh : Nat → UInt64} {P C : PV} {z : Nat → Nat} {sf : Nat → UInt64} (h : Ring R nx num hh sh) (hr : Rel C z sf) : Ring (uN R nx C) ((nx + 1) % 6) (if num < 6 then num + 1 else 6) (svH z hh num) (svT sf sh num) := by
  obtain ⟨h1, h2, h3⟩ := h
  refine ⟨Nat.mod_lt _ (by decide), ?_, fun k hk => ?_⟩
  · by_cases q : num < 6
    · rw [if_pos q]; exact q
    · rw [if_neg q]; exact Nat.le_refl 6
  · by_cases q : num < 6
    · rw [if_pos q] at hk ⊢
      by_cases x : k = num
      · have e : ((nx + 1) % 6 + 6 - (num + 1) + k) % 6 = nx := by omega
        have n := RelS.new (hh := hh) (sh := sh) hr h2
        rw [if_pos q] at n
        rw [e, x]
        show RelS (if nx = nx then C else R nx) _ _ _
        rw [if_pos rfl]; exact n
      · have e : ((nx + 1) % 6 + 6 - (num + 1) + k) % 6 = (nx + 6 - num + k) % 6 := by omega
        have d : ¬ (nx + 6 - num + k) % 6 = nx := by omega
        rw [e]
        show RelS (if (nx + 6 - num + k) % 6 = nx then C else R _) _ _ _
        rw [if_neg d]
        exact (h3 k (by omega)).keep (by omega) q
    · rw [if_neg q] at hk ⊢
      have e6 : num = 6 := by omega
      by_cases x : k = 5
      · have e : ((nx + 1) % 6 + 6 - 6 + k) % 6 = nx := by omega
        have n := RelS.new (hh := hh) (sh := sh) hr h2
        rw [if_neg q] at n
        rw [e, x]
        show RelS (if nx = nx then C else R nx) _ _ _
        rw [if_pos rfl]; exact n
      · have e : ((nx + 1) % 6 + 6 - 6 + k) % 6 = (nx + 6 - num + (k + 1)) % 6 := by omega
        have d : ¬ (nx + 6 - num + (k + 1)) % 6 = nx := by omega
        rw [e]
        show RelS (if (nx + 6 - num + (k + 1)) % 6 = nx then C else R _) _ _ _
        rw [if_neg d]
        have y := (h3 (k + 1) (by omega)).down (z := z) (sf := sf) (by omega)
        rw [e6]; rw [e6] at y; exact y
theorem Ring.undo {R : Nat → PV} {nx num : Nat} {hh : Nat → Nat} {sh : Nat → UInt64} (h : Ring R nx num hh sh) (h0 : 0 < num) : Ring R ((nx + 5) % 6) (num - 1) hh sh ∧ RelS (R ((nx + 5) % 6)) hh sh (num - 1) := by
  obtain ⟨h1, h2, h3⟩ := h
  refine ⟨⟨Nat.mod_lt _ (by decide), by omega, fun k hk => ?_⟩, ?_⟩
  · have y := h3 k (by omega)
    rw [show ((nx + 5) % 6 + 6 - (num - 1) + k) % 6 = (nx + 6 - num + k) % 6 by omega]; exact y
  · have y := h3 (num - 1) (by omega)
    rw [show (nx + 6 - num + (num - 1)) % 6 = (nx + 5) % 6 by omega] at y; exact y
