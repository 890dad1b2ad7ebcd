theorem lpz_lo {z : Nat → Nat} {p j : Nat} (h : j < 47) : ∀ l, lpz z p l j = z j
  | 0 => rfl
  | l + 1 => by
    show (if j = 47 + 6 * p + l then _ else lpz z p l j) = z j
    rw [if_neg (by omega)]
    exact lpz_lo h l
/-- a row's sum and correction, up to part i -/
def crS (P : PV) (r : Nat → Nat) : Nat → Nat × UInt64
  | 0 => (0, FP.dconst1)
  | i + 1 => ((crS P r i).1 + r i, corr (crS P r i).2 (gt P.wt i (r i)) (tot P.tl i) (tot P.wt i) (gt P.tl i (r i)))
def PV.crOK (P : PV) : Prop := ∀ (r : Nat → Nat) (i : Nat), i < P.parts → (∀ j, j ≤ i → r j < 6) → (∀ j, j ≤ i → ¬ gt P.wt j (r j) = 0) → corrOK (crS P r i).2 (gt P.wt i (r i)) (tot P.tl i) (tot P.wt i) (gt P.tl i (r i))
