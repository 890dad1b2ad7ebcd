theorem sumN_ge {f : Nat → Nat} : ∀ {n l : Nat}, l < n → f l ≤ sumN f n
  | 0, l, h => absurd h (Nat.not_lt_zero l)
  | n + 1, l, h => by
    show f l ≤ sumN f n + f n
    rcases Nat.lt_or_ge l n with q | q
    · exact Nat.le_trans (sumN_ge q) (Nat.le_add_right _ _)
    · rw [show l = n by omega]; exact Nat.le_add_left _ _
