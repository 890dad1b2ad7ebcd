def wgZ (z : Nat → Nat) (p l v : Nat) : Nat → Nat := uN (uN (fg z 6) (11 + 6 * p + l) v) (47 + 6 * p + l) (if gt (wq (fg z 6)) p l = 0 ∨ v = 0 then v else gt (tq (uN (fg z 6) (11 + 6 * p + l) v)) p l)
def apZ (z : Nat → Nat) (v : Nat) : Nat → Nat → Nat
  | 0 => z
  | i + 1 => uN (apZ z v i) (11 + 6 * apZ z v i 0 + i) (if i ≤ v then 1 else 0)
theorem apZ_0 (z : Nat → Nat) (v : Nat) : ∀ i, apZ z v i 0 = z 0
  | 0 => rfl
  | i + 1 => by
    show (if 0 = 11 + 6 * apZ z v i 0 + i then _ else apZ z v i 0) = z 0
    rw [if_neg (by omega)]
    exact apZ_0 z v i
