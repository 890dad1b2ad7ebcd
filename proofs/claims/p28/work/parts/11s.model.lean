/-- the first load of part p with the most ways for the need n -/
def floM (wt : Nat → Nat) (parts p n : Nat) : Nat := fe6 (fun l => gt wt p l * bm wt parts (parts - (p + 1)) (n - l)) (bm wt parts (parts - p) n)
def neeM (wt : Nat → Nat) (parts lim : Nat) : Nat → Nat
  | 0 => lim
  | p + 1 => neeM wt parts lim p - floM wt parts p (neeM wt parts lim p)
theorem neeM_le (wt : Nat → Nat) (parts lim : Nat) : ∀ p, neeM wt parts lim p ≤ lim
  | 0 => Nat.le_refl _
  | p + 1 => Nat.le_trans (Nat.sub_le _ _) (neeM_le wt parts lim p)
theorem floM_spec {wt : Nat → Nat} {parts p n : Nat} (hp : p < parts) : floM wt parts p n < 6 ∧ gt wt p (floM wt parts p n) * bm wt parts (parts - (p + 1)) (n - floM wt parts p n) = bm wt parts (parts - p) n ∧ ∀ l, l < floM wt parts p n → ¬ gt wt p l * bm wt parts (parts - (p + 1)) (n - l) = bm wt parts (parts - p) n := by
  obtain ⟨l, hl, he⟩ := mxN_ex (fun l => gt wt p l * bm wt parts (parts - (p + 1)) (n - l))
  exact fe6_spec ⟨l, hl, he.trans (bm_eq hp)⟩
