theorem bgT_at {td : Nat → Nat} {re : Nat} : ∀ n, n ≤ 6 → ∀ j, bgT td re n j = if 6 * re ≤ j ∧ j < 6 * re + n then 0 else td j
  | 0, _, j => by rw [if_neg (by omega)]; rfl
  | n + 1, hn, j => by
    show (if j = 6 * re + n then 0 else bgT td re n j) = _
    rw [bgT_at n (by omega) j]
    by_cases q : j = 6 * re + n
    · rw [if_pos q, if_pos (by omega)]
    · rw [if_neg q]
      by_cases x : 6 * re ≤ j ∧ j < 6 * re + n
      · rw [if_pos x, if_pos (by omega)]
      · rw [if_neg x, if_neg (by omega)]
theorem mtS_mono (T : TV) (c : Nat) : T.2.1 ≤ (mtS T c).2.1 := by
  unfold mtS
  split
  · exact Nat.le_refl _
  · split
    · exact Nat.le_succ _
    · exact Nat.le_refl _
/-- the plant out of the text's first characters, and what the model was told -/
def AR (P : PV) (A : PV × Nat × Nat) (T : TV) : Prop := A.1.parts = P.parts + T.2.1 + 1 ∧ A.2.1 = P.parts + T.2.1 ∧ A.2.2 = T.2.2.1 ∧ A.1.limit = P.limit ∧ A.1.seed = P.seed ∧ A.1.sv = P.sv.clr ∧ (∀ a c, a < 6 → c < 6 → gt A.1.wt a c = if P.parts ≤ a ∧ a ≤ P.parts + T.2.1 then T.1 (6 * (a - P.parts) + c) else gt P.wt a c) ∧ (∀ a c, a < 6 → c < 6 → gt A.1.tl a c = if P.parts ≤ a ∧ a ≤ P.parts + T.2.1 then T.1 (6 * (a - P.parts) + c) else gt P.tl a c) ∧ (∀ j, A.1.wt j ≤ 9) ∧ (∀ j, A.1.tl j ≤ 99)
theorem ar_0 {P : PV} (h : P.cinv) (h5 : P.parts < 6) (td tx : Nat → Nat) : AR P (P.addE, P.parts, 0) (mtK td tx 0) := by
  have b0 : ∀ c, c < 6 → bgT td 0 6 c = 0 := fun c hc => by rw [bgT_at 6 (Nat.le_refl _) c, if_pos (by omega)]
  have key : ∀ (w : Nat → Nat), (∀ c, c < 6 → gt w P.parts c = 0) → ∀ a c, a < 6 → c < 6 → gt w a c = if P.parts ≤ a ∧ a ≤ P.parts + 0 then bgT td 0 6 (6 * (a - P.parts) + c) else gt w a c := fun w hw a c ha hc => by
    by_cases q : P.parts ≤ a ∧ a ≤ P.parts + 0
    · rw [if_pos q, show 6 * (a - P.parts) + c = c by omega, b0 c hc, show a = P.parts by omega]
      exact hw c hc
    · rw [if_neg q]
  exact ⟨rfl, rfl, rfl, rfl, rfl, rfl, key P.wt (fun c hc => (h.2.2.2 P.parts c (Nat.le_refl _) h5 hc).1), key P.tl (fun c hc => (h.2.2.2 P.parts c (Nat.le_refl _) h5 hc).2), h.2.1, h.2.2.1⟩
theorem ar_semi {P : PV} (h : P.cinv) {A : PV × Nat × Nat} {T : TV} (r : AR P A T) (h5 : P.parts + T.2.1 + 1 < 6) : AR P (A.1.addE, A.1.parts, 0) (mtN T) := by
  obtain ⟨r1, r2, r3, r4, r5, r6, r7, r8, r9, r10⟩ := r
  have key : ∀ (w v : Nat → Nat), (∀ a c, P.parts ≤ a → a < 6 → c < 6 → gt v a c = 0) → (∀ a c, a < 6 → c < 6 → gt w a c = if P.parts ≤ a ∧ a ≤ P.parts + T.2.1 then T.1 (6 * (a - P.parts) + c) else gt v a c) → ∀ a c, a < 6 → c < 6 → gt w a c = if P.parts ≤ a ∧ a ≤ P.parts + (T.2.1 + 1) then bgT T.1 (T.2.1 + 1) 6 (6 * (a - P.parts) + c) else gt v a c := fun w v hv hw a c ha hc => by
    rw [hw a c ha hc, bgT_at 6 (Nat.le_refl _)]
    by_cases q : P.parts ≤ a ∧ a ≤ P.parts + T.2.1
    · rw [if_pos q, if_pos (by omega), if_neg (by omega)]
    · rw [if_neg q]
      by_cases x : P.parts ≤ a ∧ a ≤ P.parts + (T.2.1 + 1)
      · rw [if_pos x, if_pos (by omega)]
        exact hv a c x.1 ha hc
      · rw [if_neg x]
  refine ⟨?_, ?_, rfl, r4, r5, ?_, key A.1.wt P.wt (fun a c h1 h2 h3 => (h.2.2.2 a c h1 h2 h3).1) r7, key A.1.tl P.tl (fun a c h1 h2 h3 => (h.2.2.2 a c h1 h2 h3).2) r8, r9, r10⟩
  · show A.1.parts + 1 = P.parts + (T.2.1 + 1) + 1
    omega
  · show A.1.parts = P.parts + (T.2.1 + 1)
    omega
  · show A.1.sv.clr = P.sv.clr
    rw [r6]
    rfl
theorem ar_digit {P : PV} {A : PV × Nat × Nat} {T : TV} (r : AR P A T) (h5 : P.parts + T.2.1 < 6) (hl : T.2.2.1 < 6) {d : Nat} (hd : d ≤ 9) : AR P (A.1.both A.2.1 A.2.2 d, A.2.1, A.2.2 + 1) (mtD T d) := by
  obtain ⟨r1, r2, r3, r4, r5, r6, r7, r8, r9, r10⟩ := r
  have key : ∀ (w v : Nat → Nat), (∀ a c, a < 6 → c < 6 → gt w a c = if P.parts ≤ a ∧ a ≤ P.parts + T.2.1 then T.1 (6 * (a - P.parts) + c) else gt v a c) → ∀ a c, a < 6 → c < 6 → gt (uN w (A.2.1 * 6 + A.2.2) d) a c = if P.parts ≤ a ∧ a ≤ P.parts + T.2.1 then uN T.1 (6 * T.2.1 + T.2.2.1) d (6 * (a - P.parts) + c) else gt v a c := fun w v hw a c ha hc => by
    rw [r2, r3, gt_uN hl hc h5, hw a c ha hc]
    by_cases q : a = P.parts + T.2.1 ∧ c = T.2.2.1
    · rw [if_pos q, if_pos (by omega)]
      exact (if_pos (by omega)).symm
    · rw [if_neg q]
      by_cases x : P.parts ≤ a ∧ a ≤ P.parts + T.2.1
      · rw [if_pos x, if_pos x]
        exact (if_neg (by omega)).symm
      · rw [if_neg x, if_neg x]
  refine ⟨r1, r2, by show A.2.2 + 1 = T.2.2.1 + 1; omega, r4, r5, r6, key A.1.wt P.wt r7, key A.1.tl P.tl r8, fun j => ?_, fun j => ?_⟩
  · show (if j = A.2.1 * 6 + A.2.2 then d else A.1.wt j) ≤ 9
    split
    · exact hd
    · exact r9 j
  · show (if j = A.2.1 * 6 + A.2.2 then d else A.1.tl j) ≤ 99
    split
    · omega
    · exact r10 j
theorem mtK_mono (td tx : Nat → Nat) {m : Nat} : ∀ n, m ≤ n → (mtK td tx m).2.1 ≤ (mtK td tx n).2.1
  | 0, h => by rw [show m = 0 by omega]; exact Nat.le_refl _
  | n + 1, h => by
    rcases Nat.lt_or_ge n m with q | q
    · rw [show m = n + 1 by omega]; exact Nat.le_refl _
    · exact Nat.le_trans (mtK_mono td tx n q) (mtS_mono _ _)
theorem ar_all {P : PV} (h : P.cinv) {td tx cs : Nat → Nat} {n : Nat} (hc : ∀ i, i < n → cs i = tx i) (ha : ∀ i, i < n → ¬ mtA (mtK td tx i) (tx i) = 0) (h6 : P.parts + (mtK td tx n).2.1 + 1 ≤ 6) : ∀ i, i ≤ n → AR P (ats P cs i) (mtK td tx i)
  | 0, _ => ar_0 h (by omega) td tx
  | i + 1, hi => by
    have ih := ar_all h hc ha h6 i (by omega)
    have m1 := mtK_mono td tx (m := i + 1) n hi
    have a1 := ha i (by omega)
    have m1 : (mtS (mtK td tx i) (tx i)).2.1 ≤ (mtK td tx n).2.1 := m1
    show AR P (if cs i = 59 then ((ats P cs i).1.addE, (ats P cs i).1.parts, 0) else ((ats P cs i).1.both (ats P cs i).2.1 (ats P cs i).2.2 (cs i - 48), (ats P cs i).2.1, (ats P cs i).2.2 + 1)) (mtS (mtK td tx i) (tx i))
    rw [hc i (by omega)]
    have v6 := (mtK_inv td tx i).1
    generalize mtK td tx i = T at *
    by_cases q : tx i = 59
    · rw [q] at a1 m1 ⊢
      rw [if_pos rfl, mtS_n a1]
      rw [mtS_n a1] at m1
      have m2 : T.2.1 + 1 ≤ (mtK td tx n).2.1 := m1
      exact ar_semi h ih (by omega)
    · rw [if_neg q, mtS_d a1 q]
      rw [mtS_d a1 q] at m1
      have m2 : T.2.1 ≤ (mtK td tx n).2.1 := m1
      have d : 48 ≤ tx i ∧ tx i ≤ 57 := Classical.byContradiction fun d => a1 (by unfold mtA; rw [if_neg q, if_neg d])
      have hl : T.2.2.1 < 6 := by
        have ih3 := a1
        unfold mtA at ih3
        rw [if_neg q, if_pos d] at ih3
        have : ¬ (T.2.2.1 = 6 ∨ (T.2.2.1 = 5 ∧ T.2.2.2 + (tx i - 48) = 0)) := fun x => ih3 (if_pos x)
        omega
      exact ar_digit ih (by omega) hl (by omega)
