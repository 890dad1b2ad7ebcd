def bm (wt : Nat → Nat) (parts : Nat) : Nat → Nat → Nat
  | 0, n => if n = 0 then 1 else 0
  | d + 1, n => mxN (fun l => gt wt (parts - (d + 1)) l * bm wt parts d (n - l)) 6
theorem mxN_leB {f : Nat → Nat} {c : Nat} : ∀ n, (∀ l, l < n → f l ≤ c) → mxN f n ≤ c
  | 0, _ => Nat.zero_le _
  | n + 1, h => Nat.max_le.mpr ⟨mxN_leB n (fun l hl => h l (Nat.lt_succ_of_lt hl)), h n (Nat.lt_succ_self n)⟩
theorem bm_eq {wt : Nat → Nat} {parts p n : Nat} (hp : p < parts) : mxN (fun l => gt wt p l * bm wt parts (parts - (p + 1)) (n - l)) 6 = bm wt parts (parts - p) n := by
  have e : parts - p = (parts - (p + 1)) + 1 := by omega
  have e2 : parts - (parts - (p + 1) + 1) = p := by omega
  rw [e]
  show _ = mxN (fun l => gt wt (parts - (parts - (p + 1) + 1)) l * bm wt parts (parts - (p + 1)) (n - l)) 6
  rw [e2]

