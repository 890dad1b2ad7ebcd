def bm (wt : Nat → Nat) (parts : Nat) : Nat → Nat → Nat
  | 0, n => if n = 0 then 1 else 0
  | d + 1, n => mxN (fun l => gt wt (parts - (d + 1)) l * bm wt parts d (n - l)) 6
/-- the model's table, filled from row q on, of the row before the first u -/
def lkm (wt m : Nat → Nat) (parts q u : Nat) (j : Nat) : Nat := if j / 100 ≤ parts ∧ (q ≤ j / 100 ∨ (q = j / 100 + 1 ∧ j % 100 < u)) then bm wt parts (parts - j / 100) (j % 100) else m j
theorem lkm_step {wt m : Nat → Nat} {parts q u v : Nat} (hq : q ≤ parts) (hu : u < 100) (hv : v = bm wt parts (parts - q) u) : uN (lkm wt m parts (q + 1) u) (100 * q + u) v = lkm wt m parts (q + 1) (u + 1) := by
  funext j
  unfold uN lkm
  by_cases h : j = 100 * q + u
  · have h1 : j / 100 = q := by omega
    have h2 : j % 100 = u := by omega
    rw [if_pos h, h1, h2, if_pos (by omega), hv]
  · rw [if_neg h]
    by_cases h2 : j / 100 ≤ parts ∧ (q + 1 ≤ j / 100 ∨ (q + 1 = j / 100 + 1 ∧ j % 100 < u))
    · rw [if_pos h2, if_pos (by omega)]
    · rw [if_neg h2, if_neg (by omega)]
theorem lkm_row {wt m : Nat → Nat} {parts q : Nat} : lkm wt m parts (q + 1) 100 = lkm wt m parts q 0 := by
  funext j
  unfold lkm
  have : j % 100 < 100 := Nat.mod_lt _ (by decide)
  by_cases h2 : j / 100 ≤ parts ∧ (q ≤ j / 100 ∨ (q = j / 100 + 1 ∧ j % 100 < 0))
  · rw [if_pos h2, if_pos (by omega)]
  · rw [if_neg h2, if_neg (by omega)]
theorem lkm_0 {wt m : Nat → Nat} {parts : Nat} : lkm wt m parts (parts + 1) 0 = m := by
  funext j
  unfold lkm
  rw [if_neg (by omega)]
theorem lkm_at {wt m : Nat → Nat} {parts q u p n : Nat} (hp : p ≤ parts) (hq : q ≤ p) (hn : n < 100) : lkm wt m parts q u (100 * p + n) = bm wt parts (parts - p) n := by
  unfold lkm
  have h1 : (100 * p + n) / 100 = p := by omega
  have h2 : (100 * p + n) % 100 = n := by omega
  rw [h1, h2, if_pos (by omega)]
theorem mxN_leB {f : Nat → Nat} {c : Nat} : ∀ n, (∀ l, l < n → f l ≤ c) → mxN f n ≤ c
  | 0, _ => Nat.zero_le _
  | n + 1, h => Nat.max_le.mpr ⟨mxN_leB n (fun l hl => h l (Nat.lt_succ_of_lt hl)), h n (Nat.lt_succ_self n)⟩
theorem bm_le {wt : Nat → Nat} {parts : Nat} (h6 : parts ≤ 6) (hw : ∀ p l, p < 6 → l < 6 → gt wt p l ≤ 9) : ∀ d n, bm wt parts d n ≤ 9 ^ d
  | 0, n => by unfold bm; split <;> decide
  | d + 1, n => by
    unfold bm
    refine mxN_leB 6 (fun l hl => ?_)
    calc gt wt (parts - (d + 1)) l * bm wt parts d (n - l) ≤ 9 * 9 ^ d := Nat.mul_le_mul (hw _ l (by omega) hl) (bm_le h6 hw d _)
      _ = 9 ^ (d + 1) := by rw [Nat.pow_succ, Nat.mul_comm]
theorem bm_small {wt : Nat → Nat} {parts d : Nat} (h6 : parts ≤ 6) (hw : ∀ p l, p < 6 → l < 6 → gt wt p l ≤ 9) (hd : d ≤ 6) (n : Nat) : bm wt parts d n ≤ 531441 := Nat.le_trans (bm_le h6 hw d n) (Nat.pow_le_pow_right (by decide) hd : 9 ^ d ≤ 9 ^ 6)
theorem mby_at {wt m : Nat → Nat} {parts p n l : Nat} (hp : p < parts) (hn : n < 100) : gt wt p l * lkm wt m parts (p + 1) n (100 * p + 100 + (n - l)) = gt wt p l * bm wt parts (parts - (p + 1)) (n - l) := by
  rw [show 100 * p + 100 + (n - l) = 100 * (p + 1) + (n - l) by omega, lkm_at (by omega) (Nat.le_refl _) (by omega)]
theorem bm_eq {wt : Nat → Nat} {parts p n : Nat} (hp : p < parts) : mxN (fun l => gt wt p l * bm wt parts (parts - (p + 1)) (n - l)) 6 = bm wt parts (parts - p) n := by
  have e : parts - p = (parts - (p + 1)) + 1 := by omega
  have e2 : parts - (parts - (p + 1) + 1) = p := by omega
  rw [e]
  show _ = mxN (fun l => gt wt (parts - (parts - (p + 1) + 1)) l * bm wt parts (parts - (p + 1)) (n - l)) 6
  rw [e2]
