theorem drL_gt {w : Nat → Nat} {row : Nat} (hr : row < 6) : ∀ n, n ≤ 6 → ∀ a c, c < 6 → gt (drL w row n) a c = if a = row ∧ c < n then gt w (row + 1) c else gt w a c
  | 0, _, a, c, hc => by rw [if_neg (by omega)]; rfl
  | n + 1, hn, a, c, hc => by
    show gt (uN (drL w row n) (row * 6 + n) (gt (drL w row n) (row + 1) n)) a c = _
    rw [gt_uN (by omega) hc hr, drL_gt hr n (by omega) a c hc, drL_gt hr n (by omega) (row + 1) n (by omega)]
    by_cases q : a = row ∧ c = n
    · rw [if_pos q, if_neg (by omega), if_pos (by omega), q.2]
    · rw [if_neg q]
      by_cases x : a = row ∧ c < n
      · rw [if_pos x, if_pos (by omega)]
      · rw [if_neg x, if_neg (by omega)]
theorem drR_gt {w : Nat → Nat} {p : Nat} : ∀ n, p + n ≤ 6 → ∀ a c, c < 6 → gt (drR w p n) a c = if p ≤ a ∧ a < p + n then gt w (a + 1) c else gt w a c
  | 0, _, a, c, hc => by rw [if_neg (by omega)]; rfl
  | n + 1, hn, a, c, hc => by
    show gt (drL (drR w p n) (p + n) 6) a c = _
    rw [drL_gt (by omega) 6 (Nat.le_refl _) a c hc, drR_gt n (by omega) a c hc, drR_gt n (by omega) (p + n + 1) c hc]
    by_cases q : a = p + n
    · rw [if_pos ⟨q, hc⟩, if_neg (by omega), if_pos (by omega), q]
    · rw [if_neg (fun x => q x.1)]
      by_cases x : p ≤ a ∧ a < p + n
      · rw [if_pos x, if_pos (by omega)]
      · rw [if_neg x, if_neg (by omega)]
theorem drL_leB {w : Nat → Nat} {b row : Nat} (h : ∀ j, w j ≤ b) : ∀ n j, drL w row n j ≤ b
  | 0, j => h j
  | n + 1, j => by
    show (if j = row * 6 + n then gt (drL w row n) (row + 1) n else drL w row n j) ≤ b
    split
    · exact gt_lt (drL_leB h n) _ _
    · exact drL_leB h n j
theorem drR_leB {w : Nat → Nat} {b p : Nat} (h : ∀ j, w j ≤ b) : ∀ n j, drR w p n j ≤ b
  | 0, j => h j
  | n + 1, j => drL_leB (drR_leB h n) 6 j
theorem rmF_at {z : Nat → Nat} {a : Nat} : ∀ n j, rmF z a n j = if a ≤ j ∧ j < a + n then z (j + 6) else z j
  | 0, j => by rw [if_neg (by omega)]; rfl
  | n + 1, j => by
    show (if j = a + n then rmF z a n (a + n + 6) else rmF z a n j) = _
    rw [rmF_at n j, rmF_at n (a + n + 6)]
    by_cases q : j = a + n
    · rw [if_pos q, if_neg (by omega), if_pos (by omega), q]
    · rw [if_neg q]
      by_cases x : a ≤ j ∧ j < a + n
      · rw [if_pos x, if_pos (by omega)]
      · rw [if_neg x, if_neg (by omega)]
theorem gt_6 (w : Nat → Nat) (l : Nat) : gt w 6 l = 0 := if_neg (by decide)
/-- the model's cells behind the removal of part p -/
def dpZ (z : Nat → Nat) (p : Nat) : Nat → Nat := rmF (rmF (uN (fg z 6) 0 (fg z 6 0 - 1)) (11 + 6 * p) (6 * (z 0 - 1) - 6 * p)) (47 + 6 * p) (6 * (z 0 - 1) - 6 * p)
theorem dpZ_w {z : Nat → Nat} {p a c : Nat} (h6 : z 0 ≤ 6) (hp : p < z 0) (hc : c < 6) : gt (wq (dpZ z p)) a c = if p ≤ a ∧ a < z 0 - 1 then gt (wq z) (a + 1) c else gt (wq z) a c := by
  by_cases ha : a < 6
  · have e : gt (wq (dpZ z p)) a c = dpZ z p (11 + (a * 6 + c)) := if_pos ha
    rw [e]
    unfold dpZ
    rw [rmF_at, if_neg (by omega), rmF_at]
    by_cases q : p ≤ a ∧ a < z 0 - 1
    · rw [if_pos q, if_pos (by omega), show uN (fg z 6) 0 (fg z 6 0 - 1) (11 + (a * 6 + c) + 6) = fg z 6 (11 + (a * 6 + c) + 6) from if_neg (by omega), fg_at, if_neg (by omega)]
      have e2 : gt (wq z) (a + 1) c = z (11 + ((a + 1) * 6 + c)) := if_pos (by omega)
      rw [e2, show 11 + (a * 6 + c) + 6 = 11 + ((a + 1) * 6 + c) by omega]
    · rw [if_neg q, if_neg (by omega), show uN (fg z 6) 0 (fg z 6 0 - 1) (11 + (a * 6 + c)) = fg z 6 (11 + (a * 6 + c)) from if_neg (by omega), fg_at, if_neg (by omega)]
      have e2 : gt (wq z) a c = z (11 + (a * 6 + c)) := if_pos ha
      rw [e2]
  · rw [if_neg (by omega)]
    unfold gt
    rw [if_neg ha, if_neg ha]
theorem dpZ_t {z : Nat → Nat} {p k : Nat} (h6 : z 0 ≤ 6) (hp : p < z 0) : tq (dpZ z p) k = if 6 * p ≤ k ∧ k < 6 * (z 0 - 1) then tq z (k + 6) else tq z k := by
  show dpZ z p (47 + k) = _
  unfold dpZ
  have lowz : ∀ j, 47 ≤ j → rmF (uN (fg z 6) 0 (fg z 6 0 - 1)) (11 + 6 * p) (6 * (z 0 - 1) - 6 * p) j = z j := fun j hj => by
    rw [rmF_at, if_neg (by omega), show uN (fg z 6) 0 (fg z 6 0 - 1) j = fg z 6 j from if_neg (by omega), fg_at, if_neg (by omega)]
  rw [rmF_at, lowz _ (by omega), lowz _ (by omega)]
  by_cases q : 6 * p ≤ k ∧ k < 6 * (z 0 - 1)
  · rw [if_pos q, if_pos (by omega)]
    show z (47 + k + 6) = z (47 + (k + 6))
    rw [Nat.add_assoc]
  · rw [if_neg q, if_neg (by omega)]
    rfl
theorem dpZ_lo {z : Nat → Nat} {p j : Nat} (hj : j < 11) : dpZ z p j = if j = 0 then z 0 - 1 else fg z 6 j := by
  unfold dpZ
  rw [rmF_at, if_neg (by omega), rmF_at, if_neg (by omega)]
  rfl
theorem Rel.drop {P : PV} {z : Nat → Nat} {sf : Nat → UInt64} (h : Rel P z sf) {p : Nat} (hp : p < P.parts) : Rel (P.drop p) (dpZ z p) (fs0 sf 4) := by
  obtain ⟨⟨⟨⟨a1, a2, a3⟩, a4, a5, a6, a7, a8⟩, b1, b2, b3⟩, ⟨c1, c2, c3, c4, c5, -⟩, d1, d2⟩ := h
  have c1 : P.parts = z 0 := c1
  have c4 : ∀ a b, a < P.parts → b < 6 → gt P.wt a b = gt (wq z) a b := c4
  have c5 : ∀ a b, a < P.parts → b < 6 → gt P.tl a b = gt (tq z) a b := c5
  have z6 : z 0 ≤ 6 := by omega
  have hz : p < z 0 := by omega
  have gw : ∀ a b, b < 6 → gt (drR P.wt p (6 - p)) a b = if p ≤ a ∧ a < 6 then gt P.wt (a + 1) b else gt P.wt a b := fun a b hb => by
    rw [drR_gt (6 - p) (by omega) a b hb, show p + (6 - p) = 6 by omega]
  have gt9 : ∀ a b, b < 6 → gt (drR P.tl p (6 - p)) a b = if p ≤ a ∧ a < 6 then gt P.tl (a + 1) b else gt P.tl a b := fun a b hb => by
    rw [drR_gt (6 - p) (by omega) a b hb, show p + (6 - p) = 6 by omega]
  have tz : ∀ a b, a < z 0 - 1 → b < 6 → gt (tq (dpZ z p)) a b = if p ≤ a then gt (tq z) (a + 1) b else gt (tq z) a b := fun a b ha hb => by
    have e1 : gt (tq (dpZ z p)) a b = tq (dpZ z p) (a * 6 + b) := if_pos (by omega)
    rw [e1, dpZ_t z6 hz]
    by_cases q : p ≤ a
    · rw [if_pos q, if_pos (by omega)]
      have e2 : gt (tq z) (a + 1) b = tq z ((a + 1) * 6 + b) := if_pos (by omega)
      rw [e2, show a * 6 + b + 6 = (a + 1) * 6 + b by omega]
    · rw [if_neg q, if_neg (by omega)]
      have e2 : gt (tq z) a b = tq z (a * 6 + b) := if_pos (by omega)
      rw [e2]
  refine Rel.mk (by omega) a4 a5 (drR_leB b1 _) (drR_leB b2 _) (fun a ha => ?_) (fun a b ha hb => ?_) (fun a b ha ha6 hb => ?_) ?_ ?_ ?_ ?_ ?_ (fun a b ha hb => ?_) (fun a b ha hb => ?_) (fun a b ha hb => ?_) (fun j => ?_) (fun j hj => fs0_at sf hj)
  · by_cases q : p ≤ a
    · obtain ⟨b, hb, hg⟩ := a3 (a + 1) (by omega)
      exact ⟨b, hb, by rw [gw a b hb, if_pos (by omega)]; exact hg⟩
    · obtain ⟨b, hb, hg⟩ := a3 a (by omega)
      exact ⟨b, hb, by rw [gw a b hb, if_neg (by omega)]; exact hg⟩
  · rw [gw a b hb, gt9 a b hb]
    by_cases q : p ≤ a
    · rw [if_pos (by omega), if_pos (by omega)]; exact a7 (a + 1) b (by omega) hb
    · rw [if_neg (by omega), if_neg (by omega)]; exact a7 a b (by omega) hb
  · rw [gw a b hb, gt9 a b hb, if_pos (by omega), if_pos (by omega)]
    by_cases q : a + 1 < 6
    · exact b3 (a + 1) b (by omega) q hb
    · rw [show a + 1 = 6 by omega]; exact ⟨gt_6 _ _, gt_6 _ _⟩
  · rw [dpZ_lo (by decide), if_pos rfl, c1]
  · rw [dpZ_lo (by decide), if_neg (by decide)]; exact c2.symm
  · rw [dpZ_lo (by decide), if_neg (by decide)]; exact c3.symm
  · rw [dpZ_lo (by decide), if_neg (by decide)]; rfl
  · rw [dpZ_lo (by decide), if_neg (by decide)]; rfl
  · rw [gw a b hb, dpZ_w z6 hz hb]
    by_cases q : p ≤ a
    · rw [if_pos (by omega), if_pos (by omega)]; exact c4 (a + 1) b (by omega) hb
    · rw [if_neg (by omega), if_neg (by omega)]; exact c4 a b (by omega) hb
  · rw [gt9 a b hb, tz a b (by omega) hb]
    by_cases q : p ≤ a
    · rw [if_pos (by omega), if_pos q]; exact c5 (a + 1) b (by omega) hb
    · rw [if_neg (by omega), if_neg q]; exact c5 a b (by omega) hb
  · rw [dpZ_w z6 hz hb]
    split
    · exact d1 (a + 1) b (by omega) hb
    · exact d1 a b ha hb
  · rw [dpZ_t z6 hz]
    split
    · exact d2 _
    · exact d2 j

