/-- the relation reads 83 and 4 cells only -/
theorem Rel.congr {P : PV} {z y : Nat → Nat} {sf yf : Nat → UInt64} (h : Rel P z sf) (e : ∀ j, j < 83 → y j = z j) (ef : ∀ j, j < 4 → yf j = sf j) (ht : ∀ j, tq y j ≤ 99) : Rel P y yf := by
  obtain ⟨a, ⟨c1, c2, c3, c4, c5, c6, c7, c8, c9, c10, c11, c12⟩, d1, d2⟩ := h
  have ew : ∀ p l, p < 6 → l < 6 → gt (wq y) p l = gt (wq z) p l := fun p l hp hl => by
    unfold gt
    rw [if_pos hp, if_pos hp]
    exact e (11 + (p * 6 + l)) (by omega)
  have et : ∀ p l, p < 6 → l < 6 → gt (tq y) p l = gt (tq z) p l := fun p l hp hl => by
    unfold gt
    rw [if_pos hp, if_pos hp]
    exact e (47 + (p * 6 + l)) (by omega)
  have h6 : P.parts ≤ 6 := a.1.1.1
  refine ⟨a, ⟨c1.trans (e 0 (by decide)).symm, c2.trans (e 1 (by decide)).symm, c3.trans (e 2 (by decide)).symm, fun p l hp hl => (c4 p l hp hl).trans (ew p l (Nat.lt_of_lt_of_le hp h6) hl).symm, fun p l hp hl => (c5 p l hp hl).trans (et p l (Nat.lt_of_lt_of_le hp h6) hl).symm, c6.trans (e 3 (by decide)).symm, c7.trans (e 4 (by decide)).symm, c8.trans (ef 0 (by decide)).symm, c9.trans (ef 1 (by decide)).symm, c10.trans (ef 2 (by decide)).symm, c11.trans (ef 3 (by decide)).symm, fun q p hp => (c12 q p hp).trans (e (5 + p) (Nat.lt_of_lt_of_le (Nat.add_lt_add_left (Nat.lt_of_lt_of_le hp h6) 5) (by decide))).symm⟩, fun p l hp hl => (ew p l hp hl).symm ▸ d1 p l hp hl, ht⟩
/-- a saved plant and its slice of the model's saved cells -/
def RelS (P : PV) (hh : Nat → Nat) (sh : Nat → UInt64) (k : Nat) : Prop := ∃ z sf, Rel P z sf ∧ (∀ j, j < 83 → hh (83 * k + j) = z j) ∧ (∀ j, j < 4 → sh (4 * k + j) = sf j)
/-- the newest saved plant comes back -/
theorem RelS.undo {P Q : PV} {z hh : Nat → Nat} {sf sh : Nat → UInt64} {k : Nat} (h : RelS P hh sh k) (hq : Rel Q z sf) : Rel P (ldC (83 * k) z hh 83) (ldC (4 * k) sf sh 4) := by
  obtain ⟨y, yf, hr, e, ef⟩ := h
  refine hr.congr (fun j hj => ?_) (fun j hj => ?_) (fun j => ?_)
  · rw [ldC_at, if_pos hj]; exact e j hj
  · rw [ldC_at, if_pos hj]; exact ef j hj
  · show ldC (83 * k) z hh 83 (47 + j) ≤ 99
    rw [ldC_at]
    by_cases hj : 47 + j < 83
    · rw [if_pos hj, e _ hj]; exact hr.2.2.2 j
    · rw [if_neg hj]; exact hq.2.2.2 j
/-- a plant is saved: its slice is the newest -/
theorem RelS.new {P : PV} {z hh : Nat → Nat} {sf sh : Nat → UInt64} {st : Nat} (h : Rel P z sf) (hst : st ≤ 6) : RelS P (svH z hh st) (svT sf sh st) (if st < 6 then st else 5) := by
  refine ⟨z, sf, h, fun j hj => ?_, fun j hj => ?_⟩
  · unfold svH
    by_cases q : st < 6
    · rw [if_pos q, if_pos q, svC_at, if_pos (by omega), Nat.add_sub_cancel_left]
    · rw [if_neg q, if_neg q, svC_at, if_pos (by omega), Nat.add_sub_cancel_left]
  · unfold svT
    by_cases q : st < 6
    · rw [if_pos q, if_pos q, svC_at, if_pos (by omega), Nat.add_sub_cancel_left]
    · rw [if_neg q, if_neg q, svC_at, if_pos (by omega), Nat.add_sub_cancel_left]
/-- an older one keeps its slice while there is room -/
theorem RelS.keep {P : PV} {z hh : Nat → Nat} {sf sh : Nat → UInt64} {st k : Nat} (h : RelS P hh sh k) (hk : k < st) (hst : st < 6) : RelS P (svH z hh st) (svT sf sh st) k := by
  obtain ⟨y, yf, hr, e, ef⟩ := h
  refine ⟨y, yf, hr, fun j hj => ?_, fun j hj => ?_⟩
  · unfold svH
    rw [if_pos hst, svC_at, if_neg (by omega)]; exact e j hj
  · unfold svT
    rw [if_pos hst, svC_at, if_neg (by omega)]; exact ef j hj
/-- and moves down by one when there is none -/
theorem RelS.down {P : PV} {z hh : Nat → Nat} {sf sh : Nat → UInt64} {k : Nat} (h : RelS P hh sh (k + 1)) (hk : k + 1 < 6) : RelS P (svH z hh 6) (svT sf sh 6) k := by
  obtain ⟨y, yf, hr, e, ef⟩ := h
  refine ⟨y, yf, hr, fun j hj => ?_, fun j hj => ?_⟩
  · unfold svH
    rw [if_neg (by decide), svC_at, if_neg (by omega), svS_at (by decide), if_pos (by omega), show 83 * k + j + 83 = 83 * (k + 1) + j by omega]; exact e j hj
  · unfold svT
    rw [if_neg (by decide), svC_at, if_neg (by omega), svS_at (by decide), if_pos (by omega), show 4 * k + j + 4 = 4 * (k + 1) + j by omega]; exact ef j hj
