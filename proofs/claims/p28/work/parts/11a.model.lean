def wq (z : Nat → Nat) (k : Nat) : Nat := z (11 + k)
def tq (z : Nat → Nat) (k : Nat) : Nat := z (47 + k)
def fg (z : Nat → Nat) : Nat → Nat → Nat
  | 0 => uN (uN z 3 0) 4 0
  | i + 1 => uN (fg z i) (5 + i) 0
def fs0 (sf : Nat → UInt64) : Nat → Nat → UInt64
  | 0 => sf
  | i + 1 => uN (fs0 sf i) i FP.dconst0
def lpz (z : Nat → Nat) (p : Nat) : Nat → Nat → Nat
  | 0 => z
  | i + 1 => uN (lpz z p i) (47 + 6 * p + i) (gt (wq (lpz z p i)) p i)
def svS (n s : Nat) {α : Type} (h : Nat → α) : Nat → Nat → α
  | 0 => h
  | i + 1 => uN (svS n s h i) (s + i - n) (svS n s h i (s + i))
def svC (b : Nat) {α : Type} (h v : Nat → α) : Nat → Nat → α
  | 0 => h
  | i + 1 => uN (svC b h v i) (b + i) (v i)
def svH (z hh : Nat → Nat) (st : Nat) : Nat → Nat := if st < 6 then svC (83 * st) hh z 83 else svC (83 * 5) (svS 83 83 hh 415) z 83
def svT (sf sh : Nat → UInt64) (st : Nat) : Nat → UInt64 := if st < 6 then svC (4 * st) sh sf 4 else svC (4 * 5) (svS 4 4 sh 20) sf 4
