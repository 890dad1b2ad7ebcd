/-- what holds of the class's plant -/
def PV.cinv (P : PV) : Prop := P.inv0 ∧ (∀ j, P.wt j ≤ 9) ∧ (∀ j, P.tl j ≤ 99) ∧ (∀ p l, P.parts ≤ p → p < 6 → l < 6 → gt P.wt p l = 0 ∧ gt P.tl p l = 0)
/-- the class's plant and the model's cells show the same -/
def Rel (P : PV) (z : Nat → Nat) (sf : Nat → UInt64) : Prop := P.cinv ∧ P.eqv (ZP z sf) ∧ (∀ p l, p < 6 → l < 6 → gt (wq z) p l ≤ 9) ∧ (∀ j, tq z j ≤ 99)
theorem Rel.q {P : PV} {z : Nat → Nat} {sf : Nat → UInt64} (h : Rel P z sf) : (ZP z sf).inv0 := eqv_inv0 h.2.1 h.1.1 h.2.2.1 (fun p l hp _ => by
  show gt (tq z) p l ≤ 99
  exact gt_lt h.2.2.2 p l)
theorem fg_at (z : Nat → Nat) (j : Nat) : fg z 6 j = if 3 ≤ j ∧ j < 11 then 0 else z j := by
  show (if j = 5 + 5 then 0 else if j = 5 + 4 then 0 else if j = 5 + 3 then 0 else if j = 5 + 2 then 0 else if j = 5 + 1 then 0 else if j = 5 + 0 then 0 else if j = 4 then 0 else if j = 3 then 0 else z j) = _
  by_cases h : 3 ≤ j ∧ j < 11
  · rw [if_pos h]
    rcases (show j = 3 ∨ j = 4 ∨ j = 5 ∨ j = 6 ∨ j = 7 ∨ j = 8 ∨ j = 9 ∨ j = 10 by omega) with rfl | rfl | rfl | rfl | rfl | rfl | rfl | rfl <;> rfl
  · rw [if_neg h]
    repeat rw [if_neg (by omega)]
theorem fs0_at (sf : Nat → UInt64) {j : Nat} (h : j < 4) : fs0 sf 4 j = FP.dconst0 := by
  rcases (show j = 0 ∨ j = 1 ∨ j = 2 ∨ j = 3 by omega) with rfl | rfl | rfl | rfl <;> rfl
theorem Rel.mk {wt tl z : Nat → Nat} {S : SV} {parts limit seed : Nat} {sf : Nat → UInt64} (h6 : parts ≤ 6) (hl : limit ≤ 99) (hs : seed < 2147483648) (hw : ∀ j, wt j ≤ 9) (ht : ∀ j, tl j ≤ 99) (hpos : ∀ p, p < parts → ∃ l, l < 6 ∧ 0 < gt wt p l) (hiff : ∀ p l, p < parts → l < 6 → (0 < gt wt p l ↔ 0 < gt tl p l)) (hbeh : ∀ p l, parts ≤ p → p < 6 → l < 6 → gt wt p l = 0 ∧ gt tl p l = 0)
    (e0 : z 0 = parts) (e1 : z 1 = limit) (e2 : z 2 = seed) (e3 : z 3 = 0) (e4 : z 4 = 0) (ew : ∀ p l, p < parts → l < 6 → gt wt p l = gt (wq z) p l) (et : ∀ p l, p < parts → l < 6 → gt tl p l = gt (tq z) p l) (bw : ∀ p l, p < 6 → l < 6 → gt (wq z) p l ≤ 9) (bt : ∀ j, tq z j ≤ 99) (hsf : ∀ j, j < 4 → sf j = FP.dconst0) : Rel (mkP wt tl S.clr parts limit seed) z sf := by
  refine ⟨⟨⟨⟨h6, fun p l _ _ => gt_lt hw p l, hpos⟩, hl, hs, fun p l _ _ => gt_lt ht p l, hiff, SV.ok_clr S⟩, hw, ht, hbeh⟩, ⟨e0.symm, e1.symm, e2.symm, ew, et, e3.symm, e4.symm, (hsf 0 (by decide)).symm, (hsf 1 (by decide)).symm, (hsf 2 (by decide)).symm, (hsf 3 (by decide)).symm, fun q => absurd rfl q⟩, bw, bt⟩
theorem gt_uN {w : Nat → Nat} {p l v a b : Nat} (hl : l < 6) (hb : b < 6) (hp : p < 6) : gt (uN w (p * 6 + l) v) a b = if a = p ∧ b = l then v else gt w a b := by
  unfold gt uN
  by_cases h : a = p ∧ b = l
  · rw [if_pos h, if_pos (by omega), if_pos (by omega)]
  · rw [if_neg h]
    by_cases ha : a < 6
    · rw [if_pos ha, if_pos ha, if_neg (by omega)]
    · rw [if_neg ha, if_neg ha]
theorem wq_set (z : Nat → Nat) (p l v : Nat) : wq (uN z (11 + 6 * p + l) v) = uN (wq z) (p * 6 + l) v := by
  funext k
  show (if 11 + k = 11 + 6 * p + l then v else z (11 + k)) = if k = p * 6 + l then v else z (11 + k)
  by_cases h : k = p * 6 + l
  · rw [if_pos h, if_pos (by omega)]
  · rw [if_neg h, if_neg (by omega)]
theorem tq_set (z : Nat → Nat) (p l v : Nat) : tq (uN z (47 + 6 * p + l) v) = uN (tq z) (p * 6 + l) v := by
  funext k
  show (if 47 + k = 47 + 6 * p + l then v else z (47 + k)) = if k = p * 6 + l then v else z (47 + k)
  by_cases h : k = p * 6 + l
  · rw [if_pos h, if_pos (by omega)]
  · rw [if_neg h, if_neg (by omega)]
theorem wq_fg (z : Nat → Nat) : wq (fg z 6) = wq z := by
  funext k
  show fg z 6 (11 + k) = z (11 + k)
  rw [fg_at, if_neg (by omega)]
theorem tq_fg (z : Nat → Nat) : tq (fg z 6) = tq z := by
  funext k
  show fg z 6 (47 + k) = z (47 + k)
  rw [fg_at, if_neg (by omega)]
/-- what is forgotten, with other settings -/
theorem Rel.lim {P : PV} {z : Nat → Nat} {sf : Nat → UInt64} (h : Rel P z sf) {v : Nat} (hv : v ≤ 99) : Rel (P.setLim v) (uN (fg z 6) 1 v) (fs0 sf 4) := by
  obtain ⟨⟨⟨⟨a1, a2, a3⟩, a4, a5, a6, a7, a8⟩, b1, b2, b3⟩, ⟨c1, c2, c3, c4, c5, -⟩, d1, d2⟩ := h
  have ew : wq (uN (fg z 6) 1 v) = wq z := (wq_uN (by decide)).trans (wq_fg z)
  have et : tq (uN (fg z 6) 1 v) = tq z := (tq_uN (by decide)).trans (tq_fg z)
  refine Rel.mk a1 hv a5 b1 b2 a3 a7 b3 ?_ rfl ?_ rfl rfl (by rw [ew]; exact c4) (by rw [et]; exact c5) (by rw [ew]; exact d1) (by rw [et]; exact d2) (fun j hj => fs0_at sf hj)
  · exact c1.symm
  · exact c3.symm
theorem Rel.seed {P : PV} {z : Nat → Nat} {sf : Nat → UInt64} (h : Rel P z sf) {v : Nat} (hv : v < 2147483648) : Rel (P.setSeed v) (uN z 2 v) sf := by
  obtain ⟨⟨⟨a1, a4, a5, a6, a7, a8⟩, b1, b2, b3⟩, ⟨c1, c2, c3, c4, c5, c6, c7, c8, c9, c10, c11, c12⟩, d1, d2⟩ := h
  have ew : wq (uN z 2 v) = wq z := wq_uN (by decide)
  have et : tq (uN z 2 v) = tq z := tq_uN (by decide)
  refine ⟨⟨⟨a1, a4, hv, a6, a7, a8⟩, b1, b2, b3⟩, ⟨c1, c2, rfl, ?_, ?_, c6, c7, c8, c9, c10, c11, fun q p hp => ?_⟩, by rw [ew]; exact d1, by rw [et]; exact d2⟩
  · show ∀ p l, p < P.parts → l < 6 → gt P.wt p l = gt (wq (uN z 2 v)) p l
    rw [ew]; exact c4
  · show ∀ p l, p < P.parts → l < 6 → gt P.tl p l = gt (tq (uN z 2 v)) p l
    rw [et]; exact c5
  · show P.sv.ll p = uN z 2 v (5 + p)
    rw [show uN z 2 v (5 + p) = z (5 + p) from if_neg (by omega)]
    exact c12 q p hp
theorem Rel.tilt {P : PV} {z : Nat → Nat} {sf : Nat → UInt64} (h : Rel P z sf) {p l v : Nat} (hp : p < P.parts) (hl : l < 6) (h1 : 1 ≤ v) (hv : v ≤ 99) (hz : ¬ gt P.wt p l = 0) : Rel (P.setT p l v) (uN (fg z 6) (47 + 6 * p + l) v) (fs0 sf 4) := by
  obtain ⟨⟨⟨⟨a1, a2, a3⟩, a4, a5, a6, a7, a8⟩, b1, b2, b3⟩, ⟨c1, c2, c3, c4, c5, -⟩, d1, d2⟩ := h
  have hp6 : p < 6 := by omega
  have et : tq (uN (fg z 6) (47 + 6 * p + l) v) = uN (tq z) (p * 6 + l) v := by rw [tq_set, tq_fg]
  have ew : ∀ a b, b < 6 → gt (wq (uN (fg z 6) (47 + 6 * p + l) v)) a b = gt (wq z) a b := fun a b hb => by
    rw [gt_lo (z := fg z 6) (y := uN (fg z 6) (47 + 6 * p + l) v) hb (fun j hj => if_neg (by omega)), wq_fg]
  have uz : ∀ j, j < 11 → uN (fg z 6) (47 + 6 * p + l) v j = fg z 6 j := fun j hj => if_neg (by omega)
  refine Rel.mk a1 a4 a5 b1 (fun j => ?_) a3 (fun a b ha hb => ?_) (fun a b ha ha6 hb => ?_) ?_ ?_ ?_ ?_ ?_ (fun a b ha hb => by rw [ew a b hb]; exact c4 a b ha hb) (fun a b ha hb => ?_) (fun a b ha hb => by rw [ew a b hb]; exact d1 a b ha hb) (fun j => ?_) (fun j hj => fs0_at sf hj)
  · show (if j = p * 6 + l then v else P.tl j) ≤ 99
    split
    · exact hv
    · exact b2 j
  · rw [gt_uN hl hb hp6]
    by_cases q : a = p ∧ b = l
    · rw [if_pos q, q.1, q.2]; omega
    · rw [if_neg q]; exact a7 a b ha hb
  · rw [gt_uN hl hb hp6, if_neg (by omega)]
    exact b3 a b ha ha6 hb
  · rw [uz 0 (by decide)]; exact c1.symm
  · rw [uz 1 (by decide)]; exact c2.symm
  · rw [uz 2 (by decide)]; exact c3.symm
  · rw [uz 3 (by decide)]; rfl
  · rw [uz 4 (by decide)]; rfl
  · rw [et, gt_uN hl hb hp6, gt_uN hl hb hp6]
    by_cases q : a = p ∧ b = l
    · rw [if_pos q, if_pos q]
    · rw [if_neg q, if_neg q]; exact c5 a b ha hb
  · rw [et]
    show (if j = p * 6 + l then v else tq z j) ≤ 99
    split
    · exact hv
    · exact d2 j
theorem Rel.draws {P : PV} {z : Nat → Nat} {sf : Nat → UInt64} (h : Rel P z sf) {n : Nat} (hn : P.sv.num + n ≤ 9999) : Rel (drN P n) (zP z (drN (ZP z sf) n)) (sfP sf (drN (ZP z sf) n)) := by
  obtain ⟨i1, n1⟩ := h.1.1.draws n hn
  have h6 := h.1.1.1.1
  have e := eqv_draws h.2.1 h.1.1 n hn
  obtain ⟨k1, k2, k3, k4, k5⟩ := drN_keep h6 n
  obtain ⟨q1, q2, q3, q4, q5⟩ := drN_keep (P := ZP z sf) (by rw [← h.2.1.1]; exact h6) n
  have ez := ZP_zP (z := z) (sf := sf) q1 q2 q5
  have ew : wq (zP z (drN (ZP z sf) n)) = wq z := (congrArg PV.wt ez).trans q1
  have et : tq (zP z (drN (ZP z sf) n)) = tq z := (congrArg PV.tl ez).trans q2
  refine ⟨⟨i1, by rw [k1]; exact h.1.2.1, by rw [k2]; exact h.1.2.2.1, by rw [k1, k2, k3]; exact h.1.2.2.2⟩, by rw [ez]; exact e, by rw [ew]; exact h.2.2.1, by rw [et]; exact h.2.2.2⟩
theorem tot_one {w : Nat → Nat} {p l : Nat} (hl : l < 6) (h : ∀ b, b < 6 → ¬ b = l → gt w p b = 0) : tot w p ≤ gt w p l := by
  have e : tot w p = sumN (fun b => if b = l then gt w p l else 0) 6 := sumN_eq 6 (fun b hb => by
    by_cases q : b = l
    · rw [if_pos q, q]
    · rw [if_neg q]; exact h b hb q)
  rw [e]
  rcases (show l = 0 ∨ l = 1 ∨ l = 2 ∨ l = 3 ∨ l = 4 ∨ l = 5 by omega) with rfl | rfl | rfl | rfl | rfl | rfl <;> simp [sumN]
theorem Rel.weigh {P : PV} {z : Nat → Nat} {sf : Nat → UInt64} (h : Rel P z sf) {p l v : Nat} (hp : p < P.parts) (hl : l < 6) (hv : v ≤ 9) (hz : ¬ tot P.wt p - gt P.wt p l + v = 0) : Rel (P.setW p l v) (wgZ z p l v) (fs0 sf 4) := by
  obtain ⟨⟨⟨⟨a1, a2, a3⟩, a4, a5, a6, a7, a8⟩, b1, b2, b3⟩, ⟨c1, c2, c3, c4, c5, -⟩, d1, d2⟩ := h
  have hp6 : p < 6 := by omega
  have c4 : ∀ a b, a < P.parts → b < 6 → gt P.wt a b = gt (wq z) a b := c4
  have c5 : ∀ a b, a < P.parts → b < 6 → gt P.tl a b = gt (tq z) a b := c5
  have uz : ∀ j, j < 11 → wgZ z p l v j = fg z 6 j := fun j hj => by
    unfold wgZ uN
    rw [if_neg (by omega), if_neg (by omega)]
  have tz : tq (uN (fg z 6) (11 + 6 * p + l) v) = tq z := by
    rw [← tq_fg z]
    funext k
    show (if 47 + k = 11 + 6 * p + l then v else fg z 6 (47 + k)) = fg z 6 (47 + k)
    exact if_neg (by omega)
  have ec : (gt (wq (fg z 6)) p l = 0 ∨ v = 0) ↔ (v = 0 ∨ gt P.wt p l = 0) := by
    rw [wq_fg, c4 p l hp hl]
    exact Or.comm
  have et : tq (wgZ z p l v) = uN (tq z) (p * 6 + l) (if v = 0 ∨ gt P.wt p l = 0 then v else gt (tq z) p l) := by
    unfold wgZ
    rw [tq_set, tz]
    by_cases q : v = 0 ∨ gt P.wt p l = 0
    · rw [if_pos q, if_pos (ec.mpr q)]
    · rw [if_neg q, if_neg (fun x => q (ec.mp x))]
  have ew : ∀ a b, b < 6 → gt (wq (wgZ z p l v)) a b = gt (uN (wq z) (p * 6 + l) v) a b := fun a b hb => by
    rw [gt_lo (z := uN (fg z 6) (11 + 6 * p + l) v) (y := wgZ z p l v) hb (fun j hj => if_neg (by omega)), wq_set, wq_fg]
  have etl : ∀ a b, b < 6 → gt (if v = 0 ∨ gt P.wt p l = 0 then uN P.tl (p * 6 + l) v else P.tl) a b = if a = p ∧ b = l then (if v = 0 ∨ gt P.wt p l = 0 then v else gt P.tl p l) else gt P.tl a b := fun a b hb => by
    by_cases q : v = 0 ∨ gt P.wt p l = 0
    · rw [if_pos q, if_pos q, gt_uN hl hb hp6]
    · rw [if_neg q, if_neg q]
      by_cases x : a = p ∧ b = l
      · rw [if_pos x, x.1, x.2]
      · rw [if_neg x]
  refine Rel.mk a1 a4 a5 (fun j => ?_) (fun j => ?_) (fun a ha => ?_) (fun a b ha hb => ?_) (fun a b ha ha6 hb => ?_) ?_ ?_ ?_ ?_ ?_ (fun a b ha hb => ?_) (fun a b ha hb => ?_) (fun a b ha hb => ?_) (fun j => ?_) (fun j hj => fs0_at sf hj)
  · show (if j = p * 6 + l then v else P.wt j) ≤ 9
    split
    · exact hv
    · exact b1 j
  · by_cases q : v = 0 ∨ gt P.wt p l = 0
    · rw [if_pos q]
      show (if j = p * 6 + l then v else P.tl j) ≤ 99
      split
      · omega
      · exact b2 j
    · rw [if_neg q]; exact b2 j
  · by_cases q : a = p
    · subst q
      by_cases v0 : v = 0
      · have hs : 0 < tot P.wt a - gt P.wt a l := by omega
        have hex : ∃ b, b < 6 ∧ ¬ b = l ∧ 0 < gt P.wt a b := by
          refine Classical.byContradiction fun hn => ?_
          have h0 : ∀ b, b < 6 → ¬ b = l → gt P.wt a b = 0 := fun b hb hbl => Nat.eq_zero_of_not_pos (fun x => hn ⟨b, hb, hbl, x⟩)
          have ht : tot P.wt a ≤ gt P.wt a l := by
            exact tot_one hl h0
          omega
        obtain ⟨b, hb, hbl, hg⟩ := hex
        exact ⟨b, hb, by rw [gt_uN hl hb hp6, if_neg (fun x => hbl x.2)]; exact hg⟩
      · exact ⟨l, hl, by rw [gt_uN hl hl hp6, if_pos ⟨rfl, rfl⟩]; omega⟩
    · obtain ⟨b, hb, hg⟩ := a3 a ha
      exact ⟨b, hb, by rw [gt_uN hl hb hp6, if_neg (fun x => q x.1)]; exact hg⟩
  · rw [gt_uN hl hb hp6, etl a b hb]
    by_cases q : a = p ∧ b = l
    · rw [if_pos q, if_pos q]
      by_cases x : v = 0 ∨ gt P.wt p l = 0
      · rw [if_pos x]
      · rw [if_neg x]
        have := a7 p l hp hl
        omega
    · rw [if_neg q, if_neg q]; exact a7 a b ha hb
  · rw [gt_uN hl hb hp6, etl a b hb, if_neg (by omega), if_neg (by omega)]
    exact b3 a b ha ha6 hb
  · rw [uz 0 (by decide)]; exact c1.symm
  · rw [uz 1 (by decide)]; exact c2.symm
  · rw [uz 2 (by decide)]; exact c3.symm
  · rw [uz 3 (by decide)]; rfl
  · rw [uz 4 (by decide)]; rfl
  · rw [ew a b hb, gt_uN hl hb hp6, gt_uN hl hb hp6]
    by_cases q : a = p ∧ b = l
    · rw [if_pos q, if_pos q]
    · rw [if_neg q, if_neg q]; exact c4 a b ha hb
  · rw [et, gt_uN hl hb hp6, etl a b hb]
    by_cases q : a = p ∧ b = l
    · rw [if_pos q, if_pos q, c5 p l hp hl]
    · rw [if_neg q, if_neg q]; exact c5 a b ha hb
  · rw [ew a b hb, gt_uN hl hb hp6]
    split
    · exact hv
    · exact d1 a b ha hb
  · rw [et]
    show (if j = p * 6 + l then (if v = 0 ∨ gt P.wt p l = 0 then v else gt (tq z) p l) else tq z j) ≤ 99
    split
    · split
      · omega
      · exact gt_lt d2 p l
    · exact d2 j

