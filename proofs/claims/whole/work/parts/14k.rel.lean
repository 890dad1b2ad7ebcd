theorem cpN_at {α : Type} {w o : Nat → α} : ∀ n j, cpN w o n j = if j < n then o j else w j
  | 0, j => by rw [if_neg (Nat.not_lt_zero j)]; rfl
  | n + 1, j => by
    show (if j = n then o n else cpN w o n j) = _
    rw [cpN_at n j]
    by_cases q : j = n
    · rw [if_pos q, if_pos (by omega), q]
    · rw [if_neg q]
      by_cases x : j < n
      · rw [if_pos x, if_pos (by omega)]
      · rw [if_neg x, if_neg (by omega)]
theorem gt_cpN {w o : Nat → Nat} {p l : Nat} (hl : l < 6) : gt (cpN w o 36) p l = gt o p l := by
  unfold gt
  by_cases hp : p < 6
  · rw [if_pos hp, if_pos hp, cpN_at, if_pos (by omega)]
  · rw [if_neg hp, if_neg hp]
/-- a copy of a plant shows the same -/
theorem cpy_eqv {O P Q : PV} (h : P.eqv Q) (h6 : P.parts ≤ 6) : (O.cpy P).eqv Q := by
  obtain ⟨c1, c2, c3, c4, c5, c6, c7, c8, c9, c10, c11, c12⟩ := h
  refine ⟨c1, c2, c3, fun p l hp hl => ?_, fun p l hp hl => ?_, c6, c7, c8, c9, c10, c11, fun q p hp => ?_⟩
  · show gt (cpN O.wt P.wt 36) p l = _
    rw [gt_cpN hl]; exact c4 p l hp hl
  · show gt (cpN O.tl P.tl 36) p l = _
    rw [gt_cpN hl]; exact c5 p l hp hl
  · show cpN O.sv.ll P.sv.ll 6 p = _
    have hp : p < P.parts := hp
    rw [cpN_at, if_pos (by omega)]
    exact c12 q p hp
theorem cpN_leB {w o : Nat → Nat} {b : Nat} (hw : ∀ j, w j ≤ b) (ho : ∀ j, o j ≤ b) (n j : Nat) : cpN w o n j ≤ b := by
  rw [cpN_at]
  split
  · exact ho j
  · exact hw j
theorem cpy_cinv {O P : PV} (h : P.cinv) (hw : ∀ j, O.wt j ≤ 9) (ht : ∀ j, O.tl j ≤ 99) : (O.cpy P).cinv := by
  obtain ⟨⟨⟨a1, a2, a3⟩, a4, a5, a6, a7, a8⟩, b1, b2, b3⟩ := h
  have gw : ∀ p l, l < 6 → gt (cpN O.wt P.wt 36) p l = gt P.wt p l := fun p l hl => gt_cpN hl
  have gl : ∀ p l, l < 6 → gt (cpN O.tl P.tl 36) p l = gt P.tl p l := fun p l hl => gt_cpN hl
  refine ⟨⟨⟨a1, fun p l hp hl => ?_, fun p hp => ?_⟩, a4, a5, fun p l hp hl => ?_, fun p l hp hl => ?_, SV.ok_eq a8 rfl rfl rfl rfl rfl rfl⟩, cpN_leB hw b1 36, cpN_leB ht b2 36, fun p l h1 h2 hl => ?_⟩
  · show gt (cpN O.wt P.wt 36) p l ≤ 9
    rw [gw p l hl]; exact a2 p l hp hl
  · obtain ⟨l, hl, hg⟩ := a3 p hp
    exact ⟨l, hl, by show 0 < gt (cpN O.wt P.wt 36) p l; rw [gw p l hl]; exact hg⟩
  · show gt (cpN O.tl P.tl 36) p l ≤ 99
    rw [gl p l hl]; exact a6 p l hp hl
  · show (0 < gt (cpN O.wt P.wt 36) p l ↔ 0 < gt (cpN O.tl P.tl 36) p l)
    rw [gw p l hl, gl p l hl]; exact a7 p l hp hl
  · show gt (cpN O.wt P.wt 36) p l = 0 ∧ gt (cpN O.tl P.tl 36) p l = 0
    rw [gw p l hl, gl p l hl]; exact b3 p l h1 h2 hl
/-- the model's saved cells -/
theorem svC_at {α : Type} {b : Nat} {h v : Nat → α} : ∀ n j, svC b h v n j = if b ≤ j ∧ j < b + n then v (j - b) else h j
  | 0, j => by rw [if_neg (by omega)]; rfl
  | n + 1, j => by
    show (if j = b + n then v n else svC b h v n j) = _
    rw [svC_at n j]
    by_cases q : j = b + n
    · rw [if_pos q, if_pos (by omega), q, show b + n - b = n by omega]
    · rw [if_neg q]
      by_cases x : b ≤ j ∧ j < b + n
      · rw [if_pos x, if_pos (by omega)]
      · rw [if_neg x, if_neg (by omega)]
theorem svS_at {α : Type} {m : Nat} {h : Nat → α} (hm : 0 < m) : ∀ n j, svS m m h n j = if j < n then h (j + m) else h j
  | 0, j => by rw [if_neg (Nat.not_lt_zero j)]; rfl
  | n + 1, j => by
    show (if j = m + n - m then svS m m h n (m + n) else svS m m h n j) = _
    rw [svS_at hm n j, svS_at hm n (m + n), show m + n - m = n by omega, if_neg (show ¬ (m + n < n) by omega)]
    by_cases q : j = n
    · rw [if_pos q, if_pos (by omega), q, Nat.add_comm]
    · rw [if_neg q]
      by_cases x : j < n
      · rw [if_pos x, if_pos (by omega)]
      · rw [if_neg x, if_neg (by omega)]
theorem ldC_at {α : Type} {b : Nat} {z h : Nat → α} : ∀ n j, ldC b z h n j = if j < n then h (b + j) else z j
  | 0, j => by rw [if_neg (Nat.not_lt_zero j)]; rfl
  | n + 1, j => by
    show (if j = n then h (b + n) else ldC b z h n j) = _
    rw [ldC_at n j]
    by_cases q : j = n
    · rw [if_pos q, if_pos (by omega), q]
    · rw [if_neg q]
      by_cases x : j < n
      · rw [if_pos x, if_pos (by omega)]
      · rw [if_neg x, if_neg (by omega)]
