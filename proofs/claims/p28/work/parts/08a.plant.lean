def sX4_addEmptyPart : MS := (yX4_addEmptyPart, cX4_addEmptyPart, 1, (some .int), RX4, 1)
def sX4_copyFrom : MS := (yX4_copyFrom, cX4_copyFrom, 2, none, RX4, 1)
def sX4_corrected : MS := (yX4_corrected, cX4_corrected, 7, (some .double), RX4, 2)
def sX4_drawLoad : MS := (yX4_drawLoad, cX4_drawLoad, 6, (some .int), RX4, 2)
def sX4_drawRow : MS := (yX4_drawRow, cX4_drawRow, 6, none, RX4, 3)
def sX4_dropPart : MS := (yX4_dropPart, cX4_dropPart, 2, none, RX4, 2)
def sX4_greatestSum : MS := (yX4_greatestSum, cX4_greatestSum, 3, (some .int), RX4, 2)
def sX4_init : MS := (yX4_init, cX4_init, 1, none, RX4, 2)
def sX4_leastSum : MS := (yX4_leastSum, cX4_leastSum, 3, (some .int), RX4, 2)
def sX4_setBothWeights : MS := (yX4_setBothWeights, cX4_setBothWeights, 4, none, RX4, 1)
def sX4_setLimit : MS := (yX4_setLimit, cX4_setLimit, 2, none, RX4, 1)
def sX4_setTilted : MS := (yX4_setTilted, cX4_setTilted, 4, none, RX4, 1)
def sX4_setWeight : MS := (yX4_setWeight, cX4_setWeight, 4, none, RX4, 1)
def sX4_sumOfTiltedTotals : MS := (yX4_sumOfTiltedTotals, cX4_sumOfTiltedTotals, 3, (some .int), RX4, 2)
def sX4_tiltBy : MS := (yX4_tiltBy, cX4_tiltBy, 5, none, RX4, 1)
/-- a plant: weights, tilted weights, samples, parts, limit, seed -/
def PV : Type := (Nat → Nat) × (Nat → Nat) × SV × Nat × Nat × Nat
def mkP (wt tl : Nat → Nat) (sv : SV) (parts limit seed : Nat) : PV := (wt, tl, sv, parts, limit, seed)
def PV.wt (P : PV) : Nat → Nat := P.1
def PV.tl (P : PV) : Nat → Nat := P.2.1
def PV.sv (P : PV) : SV := P.2.2.1
def PV.parts (P : PV) : Nat := P.2.2.2.1
def PV.limit (P : PV) : Nat := P.2.2.2.2.1
def PV.seed (P : PV) : Nat := P.2.2.2.2.2
abbrev wP (G : GP) (pa : Nat → Nat) (P : PV) : va_W := [(pa 0, ob 4 [.ref (pa 1), .ref (pa 3), .ref (pa 5), .int (nI P.parts), .int (nI P.limit), .int (nI P.seed)]), (pa 1, ob 7 [.ref (pa 2)]), (pa 2, aN G 36 P.wt), (pa 3, ob 7 [.ref (pa 4)]), (pa 4, aN G 36 P.tl), (pa 5, ob 5 [.ref (pa 6), .int (nI P.sv.num), .int (nI P.sv.flt), .double P.sv.fs, .double P.sv.sm, .double P.sv.sq, .double P.sv.lc]), (pa 6, aN G 6 P.sv.ll)]
def SV0 : SV := mkS (fun _ => 0) 0 0 FP.dconst0 FP.dconst0 FP.dconst0 FP.dconst0
def PV0 : PV := mkP (fun _ => 0) (fun _ => 0) SV0 0 10 1
/-- as a new object has it before its constructor ran -/
def PV.addE (P : PV) : PV := mkP P.wt P.tl P.sv.clr (P.parts + 1) P.limit P.seed
def PV.drop (P : PV) (p : Nat) : PV := mkP (drR P.wt p (6 - p)) (drR P.tl p (6 - p)) P.sv.clr (P.parts - 1) P.limit P.seed
def PV.both (P : PV) (p l v : Nat) : PV := mkP (uN P.wt (p * 6 + l) v) (uN P.tl (p * 6 + l) v) P.sv P.parts P.limit P.seed
def PV.setW (P : PV) (p l v : Nat) : PV := mkP (uN P.wt (p * 6 + l) v) (if v = 0 ∨ gt P.wt p l = 0 then uN P.tl (p * 6 + l) v else P.tl) P.sv.clr P.parts P.limit P.seed
def PV.setT (P : PV) (p l v : Nat) : PV := mkP P.wt (uN P.tl (p * 6 + l) v) P.sv.clr P.parts P.limit P.seed
def tbL (wt : Nat → Nat) (b : Nat) (tl : Nat → Nat) (p : Nat) : Nat → Nat → Nat
  | 0 => tl
  | l + 1 => uN (tbL wt b tl p l) (p * 6 + l) (min (gt wt p l * (1 + l * b)) 99)
def tbR (wt : Nat → Nat) (b : Nat) (tl : Nat → Nat) : Nat → Nat → Nat
  | 0 => tl
  | p + 1 => tbL wt b (tbR wt b tl p) p 6
def PV.tiltBy (P : PV) (b : Nat) : PV := mkP P.wt (tbR P.wt b P.tl P.parts) P.sv.clr P.parts P.limit P.seed
def PV.setLim (P : PV) (v : Nat) : PV := mkP P.wt P.tl P.sv.clr P.parts v P.seed
def PV.setSeed (P : PV) (v : Nat) : PV := mkP P.wt P.tl P.sv P.parts P.limit v
def PV.setSv (P : PV) (S : SV) : PV := mkP P.wt P.tl S P.parts P.limit P.seed
def PV.cpy (P O : PV) : PV := mkP (cpN P.wt O.wt 36) (cpN P.tl O.tl 36) (P.sv.cpy O.sv) O.parts O.limit O.seed
/-- the least and the greatest load with something -/
def lo6 (f : Nat → Nat) : Nat := if 0 < f 0 then 0 else if 0 < f 1 then 1 else if 0 < f 2 then 2 else if 0 < f 3 then 3 else if 0 < f 4 then 4 else 5
def hi6 (f : Nat → Nat) : Nat := if 0 < f 5 then 5 else if 0 < f 4 then 4 else if 0 < f 3 then 3 else if 0 < f 2 then 2 else if 0 < f 1 then 1 else 0
/-- the first load whose sum up to it is above num -/
def dl6 (f : Nat → Nat) (num : Nat) : Nat := if num < sumN f 1 then 0 else if num < sumN f 2 then 1 else if num < sumN f 3 then 2 else if num < sumN f 4 then 3 else if num < sumN f 5 then 4 else 5
theorem lo6_spec {f : Nat → Nat} (h : ∃ l, l < 6 ∧ 0 < f l) : lo6 f < 6 ∧ 0 < f (lo6 f) ∧ ∀ l, l < lo6 f → f l = 0 := by
  have key : ∀ l, l < 6 → 0 < f l → lo6 f < 6 ∧ 0 < f (lo6 f) ∧ ∀ l, l < lo6 f → f l = 0 := by
    have all : (0 < f 0 ∨ 0 < f 1 ∨ 0 < f 2 ∨ 0 < f 3 ∨ 0 < f 4 ∨ 0 < f 5) → lo6 f < 6 ∧ 0 < f (lo6 f) ∧ ∀ l, l < lo6 f → f l = 0 := by
      intro hh
      unfold lo6
      repeat' split
      all_goals refine ⟨by omega, by first | assumption | omega, fun l hl => ?_⟩
      all_goals first | (exact absurd hl (Nat.not_lt_zero _)) | (have : l = 0 ∨ l = 1 ∨ l = 2 ∨ l = 3 ∨ l = 4 := by omega
                                                                 rcases this with rfl | rfl | rfl | rfl | rfl <;> omega)
    intro l hl hp
    refine all ?_
    have : l = 0 ∨ l = 1 ∨ l = 2 ∨ l = 3 ∨ l = 4 ∨ l = 5 := by omega
    rcases this with rfl | rfl | rfl | rfl | rfl | rfl <;> simp [hp]
  obtain ⟨l, hl, hp⟩ := h
  exact key l hl hp
theorem hi6_spec {f : Nat → Nat} (h : ∃ l, l < 6 ∧ 0 < f l) : hi6 f < 6 ∧ 0 < f (hi6 f) ∧ ∀ l, hi6 f < l → l < 6 → f l = 0 := by
  have all : (0 < f 0 ∨ 0 < f 1 ∨ 0 < f 2 ∨ 0 < f 3 ∨ 0 < f 4 ∨ 0 < f 5) → hi6 f < 6 ∧ 0 < f (hi6 f) ∧ ∀ l, hi6 f < l → l < 6 → f l = 0 := by
    intro hh
    unfold hi6
    repeat' split
    all_goals refine ⟨by omega, by first | assumption | omega, fun l hl h6 => ?_⟩
    all_goals (have : l = 1 ∨ l = 2 ∨ l = 3 ∨ l = 4 ∨ l = 5 := by omega
               rcases this with rfl | rfl | rfl | rfl | rfl <;> omega)
  obtain ⟨l, hl, hp⟩ := h
  refine all ?_
  have : l = 0 ∨ l = 1 ∨ l = 2 ∨ l = 3 ∨ l = 4 ∨ l = 5 := by omega
  rcases this with rfl | rfl | rfl | rfl | rfl | rfl <;> simp [hp]
theorem dl6_spec {f : Nat → Nat} {num : Nat} (h : num < sumN f 6) : dl6 f num < 6 ∧ num < sumN f (dl6 f num + 1) ∧ ∀ l, l < dl6 f num → sumN f (l + 1) ≤ num := by
  have k : ∀ l, l < 5 → l = 0 ∨ l = 1 ∨ l = 2 ∨ l = 3 ∨ l = 4 := fun l hl => by omega
  unfold dl6
  by_cases h1 : num < sumN f 1
  · rw [if_pos h1]; exact ⟨by decide, h1, fun l hl => absurd hl (Nat.not_lt_zero _)⟩
  rw [if_neg h1]
  by_cases h2 : num < sumN f 2
  · rw [if_pos h2]; refine ⟨by decide, h2, fun l hl => ?_⟩
    rcases k l (by omega) with rfl | rfl | rfl | rfl | rfl <;> first | exact Nat.not_lt.mp h1 | exact absurd hl (by decide)
  rw [if_neg h2]
  by_cases h3 : num < sumN f 3
  · rw [if_pos h3]; refine ⟨by decide, h3, fun l hl => ?_⟩
    rcases k l (by omega) with rfl | rfl | rfl | rfl | rfl <;> first | exact Nat.not_lt.mp h1 | exact Nat.not_lt.mp h2 | exact absurd hl (by decide)
  rw [if_neg h3]
  by_cases h4 : num < sumN f 4
  · rw [if_pos h4]; refine ⟨by decide, h4, fun l hl => ?_⟩
    rcases k l (by omega) with rfl | rfl | rfl | rfl | rfl <;> first | exact Nat.not_lt.mp h1 | exact Nat.not_lt.mp h2 | exact Nat.not_lt.mp h3 | exact absurd hl (by decide)
  rw [if_neg h4]
  by_cases h5 : num < sumN f 5
  · rw [if_pos h5]; refine ⟨by decide, h5, fun l hl => ?_⟩
    rcases k l (by omega) with rfl | rfl | rfl | rfl | rfl <;> first | exact Nat.not_lt.mp h1 | exact Nat.not_lt.mp h2 | exact Nat.not_lt.mp h3 | exact Nat.not_lt.mp h4 | exact absurd hl (by decide)
  rw [if_neg h5]
  refine ⟨by decide, h, fun l hl => ?_⟩
  rcases k l (by omega) with rfl | rfl | rfl | rfl | rfl
  · exact Nat.not_lt.mp h1
  · exact Nat.not_lt.mp h2
  · exact Nat.not_lt.mp h3
  · exact Nat.not_lt.mp h4
  · exact Nat.not_lt.mp h5
/-- (by choice, so that no comparison of terms unfolds its numbers) -/
noncomputable def nxt (s : Nat) : Nat := Classical.choose (⟨(s * 1103515245 + 12345) % 2147483648, rfl⟩ : ∃ z, z = (s * 1103515245 + 12345) % 2147483648)
theorem nxt_eq (s : Nat) : nxt s = (s * 1103515245 + 12345) % 2147483648 := Classical.choose_spec (⟨(s * 1103515245 + 12345) % 2147483648, rfl⟩ : ∃ z, z = (s * 1103515245 + 12345) % 2147483648)
theorem nxt_lt (s : Nat) : nxt s < 2147483648 := by rw [nxt_eq]; exact Nat.mod_lt _ (by decide)
/-- the load that is drawn of part p with the seed s (behind its step) -/
noncomputable def dload (tl : Nat → Nat) (p s : Nat) : Nat := dl6 (fun l => gt tl p l) (s / 65536 % tot tl p)
def corr (c : UInt64) (w v t u : Nat) : UInt64 := FP.ddiv (FP.ddiv (FP.dmul (FP.dmul c (FP.i2d (nI w))) (FP.i2d (nI v))) (FP.i2d (nI t))) (FP.i2d (nI u))
/-- none of the four is no number -/
def corrOK (c : UInt64) (w v t u : Nat) : Prop := vf_n64 (FP.dmul c (FP.i2d (nI w))) ∧ vf_n64 (FP.dmul (FP.dmul c (FP.i2d (nI w))) (FP.i2d (nI v))) ∧ vf_n64 (FP.ddiv (FP.dmul (FP.dmul c (FP.i2d (nI w))) (FP.i2d (nI v))) (FP.i2d (nI t))) ∧ vf_n64 (corr c w v t u)
def PV.cor (P : PV) (c : UInt64) (p l : Nat) : UInt64 := if tot P.wt p = 0 ∨ gt P.tl p l = 0 then FP.dconst0 else corr c (gt P.wt p l) (tot P.tl p) (tot P.wt p) (gt P.tl p l)
def PV.corOK (P : PV) (c : UInt64) (p l : Nat) : Prop := ¬ (tot P.wt p = 0 ∨ gt P.tl p l = 0) → corrOK c (gt P.wt p l) (tot P.tl p) (tot P.wt p) (gt P.tl p l)
/-- a row drawn up to part i: seed, latest loads, sum, correction -/
noncomputable def rowS (P : PV) : Nat → Nat × (Nat → Nat) × Nat × UInt64
  | 0 => (P.seed, P.sv.ll, 0, FP.dconst1)
  | i + 1 => (nxt (rowS P i).1, uN (rowS P i).2.1 i (dload P.tl i (nxt (rowS P i).1)), (rowS P i).2.2.1 + dload P.tl i (nxt (rowS P i).1), P.cor (rowS P i).2.2.2 i (dload P.tl i (nxt (rowS P i).1)))
noncomputable def PV.rowP (P : PV) (i : Nat) : PV := mkP P.wt P.tl (mkS (rowS P i).2.1 P.sv.num P.sv.flt P.sv.fs P.sv.sm P.sv.sq P.sv.lc) P.parts P.limit (rowS P i).1
noncomputable def PV.isF (P : PV) : Nat := if (rowS P P.parts).2.2.1 < P.limit then 0 else 1
noncomputable def PV.drawRow (P : PV) : PV := (P.rowP P.parts).setSv ((P.rowP P.parts).sv.add (rowS P P.parts).2.2.2 P.isF)
theorem gt_lt {w : Nat → Nat} {c : Nat} (h : ∀ j, w j ≤ c) (p l : Nat) : gt w p l ≤ c := by
  unfold gt
  split
  · exact h _
  · exact Nat.zero_le _
theorem sumN_le {f : Nat → Nat} {c : Nat} (h : ∀ l, f l ≤ c) : ∀ n, sumN f n ≤ n * c
  | 0 => Nat.zero_le _
  | n + 1 => by
    have h1 := sumN_le h n
    have h2 := h n
    show sumN f n + f n ≤ (n + 1) * c
    rw [Nat.succ_mul]
    omega
theorem tot_le {w : Nat → Nat} {c : Nat} (h : ∀ j, w j ≤ c) (p : Nat) : tot w p ≤ 6 * c := sumN_le (fun l => gt_lt h p l) 6
