def rmF (z : Nat → Nat) (a : Nat) : Nat → Nat → Nat
  | 0 => z
  | i + 1 => uN (rmF z a i) (a + i) (rmF z a i (a + i + 6))
