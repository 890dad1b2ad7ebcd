/-- the model's state as a plant -/
def ZP (z : Nat → Nat) (sf : Nat → UInt64) : PV := mkP (wq z) (tq z) (mkS (fun p => z (5 + p)) (z 3) (z 4) (sf 0) (sf 1) (sf 2) (sf 3)) (z 0) (z 1) (z 2)
theorem mxN_eq {f g : Nat → Nat} : ∀ n, (∀ j, j < n → f j = g j) → mxN f n = mxN g n
  | 0, _ => rfl
  | n + 1, h => by
    show max (mxN f n) (f n) = max (mxN g n) (g n)
    rw [mxN_eq n (fun j hj => h j (Nat.lt_succ_of_lt hj)), h n (Nat.lt_succ_self n)]
theorem bm_far {wt : Nat → Nat} {parts : Nat} : ∀ d n, 5 * d < n → bm wt parts d n = 0
  | 0, n, h => if_neg (by omega)
  | d + 1, n, h => by
    unfold bm
    refine Nat.le_zero.mp (mxN_leB 6 (fun l hl => ?_))
    rw [bm_far d (n - l) (by omega)]
    exact Nat.le_refl _
theorem bm_bs {wt : Nat → Nat} {parts : Nat} : ∀ d n, d ≤ 6 → n < 31 → bm wt parts d n = bs wt parts d n
  | 0, n, _, _ => rfl
  | d + 1, n, h, hn => by
    unfold bm bs
    refine mxN_eq 6 (fun l _ => ?_)
    rw [if_pos (show n - l < 31 by omega), bm_bs d (n - l) (by omega) (by omega)]
theorem bm_gm {P : PV} {p n : Nat} (h6 : P.parts ≤ 6) (hp : p ≤ P.parts) : bm P.wt P.parts (P.parts - p) n = gm (lkF P zN) p n := by
  unfold lkF
  rw [gm_lk hp (Nat.zero_le _)]
  by_cases h : n < 31
  · rw [if_pos h]; exact bm_bs _ _ (by omega) h
  · rw [if_neg h]; exact bm_far _ _ (by omega)
theorem floM_flo {P : PV} {p n : Nat} (h6 : P.parts ≤ 6) (hp : p < P.parts) : floM P.wt P.parts p n = flo P.wt (lkF P zN) p n := by
  unfold floM flo
  rw [bm_gm h6 (Nat.le_of_lt hp)]
  have : (fun l => gt P.wt p l * bm P.wt P.parts (P.parts - (p + 1)) (n - l)) = wwi P.wt (lkF P zN) p n := funext fun l => by
    unfold wwi
    rw [bm_gm h6 (show p + 1 ≤ P.parts by omega)]
  rw [this]
theorem neeM_nee {P : PV} {lim : Nat} (h6 : P.parts ≤ 6) : ∀ p, p ≤ P.parts → neeM P.wt P.parts lim p = nee P.wt (lkF P zN) lim p
  | 0, _ => rfl
  | p + 1, h => by
    show neeM P.wt P.parts lim p - floM P.wt P.parts p (neeM P.wt P.parts lim p) = _
    rw [neeM_nee h6 p (by omega), floM_flo h6 (by omega)]
    rfl
