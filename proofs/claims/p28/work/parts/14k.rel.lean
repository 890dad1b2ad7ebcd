/-- the model's saved cells -/
theorem svC_at {α : Type} {b : Nat} {h v : Nat → α} : ∀ n j, svC b h v n j = if b ≤ j ∧ j < b + n then v (j - b) else h j
  | 0, j => by rw [if_neg (by omega)]; rfl
  | n + 1, j => by
    show (if j = b + n then v n else svC b h v n j) = _
    rw [svC_at n j]
    by_cases q : j = b + n
    · rw [if_pos q, if_pos (by omega), q, show b + n - b = n by omega]
    · rw [if_neg q]
      by_cases x : b ≤ j ∧ j < b + n
      · rw [if_pos x, if_pos (by omega)]
      · rw [if_neg x, if_neg (by omega)]
