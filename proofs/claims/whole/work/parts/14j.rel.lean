theorem lpz_far {z : Nat → Nat} {p j : Nat} (hp : p < 6) (hj : 83 ≤ j) : ∀ n, n ≤ 6 → lpz z p n j = z j
  | 0, _ => rfl
  | n + 1, hn => by
    show (if j = 47 + 6 * p + n then _ else lpz z p n j) = z j
    rw [if_neg (by omega)]
    exact lpz_far hp hj n (by omega)
theorem aaP_far {z td : Nat → Nat} {j : Nat} (hj : 83 ≤ j) : ∀ n, z 0 + n ≤ 6 → aaP z td n j = z j
  | 0, _ => rfl
  | n + 1, hn => by
    have e0 : aaP z td n 0 = z 0 + n := aaP_0 n
    have f0 : aaL (aaP z td n) td n 6 0 = z 0 + n := (aaL_lo (by decide) 6).trans e0
    show (if j = 0 then _ else lpz (aaL (aaP z td n) td n 6) (aaL (aaP z td n) td n 6 0) 6 j) = z j
    rw [if_neg (by omega), f0, lpz_far (by omega) hj 6 (Nat.le_refl _), aaL_hi (by omega) (by omega) 6 (Nat.le_refl _)]
    exact aaP_far hj n (by omega)
theorem Rel.addAll {P : PV} {z : Nat → Nat} {sf : Nat → UInt64} (h : Rel P z sf) {td tx cs : Nat → Nat} {n : Nat} (hc : ∀ i, i < n → cs i = tx i) (ha : ∀ i, i < n → ¬ mtA (mtK td tx i) (tx i) = 0) (ht : ¬ (mtK td tx n).2.2.2 = 0) (h6 : P.parts + (mtK td tx n).2.1 + 1 ≤ 6) : Rel (ats P cs n).1 (aaP (fg z 6) (mtK td tx n).1 ((mtK td tx n).2.1 + 1)) (fs0 sf 4) ∧ (ats P cs n).1.parts = aaP (fg z 6) (mtK td tx n).1 ((mtK td tx n).2.1 + 1) 0 := by
  have r := ar_all h.1 hc ha h6 n (Nat.le_refl _)
  have tp := tp_K td tx n
  have lo6 := (mtK_inv td tx n).1
  obtain ⟨⟨⟨⟨a1, a2, a3⟩, a4, a5, a6, a7, a8⟩, b1, b2, b3⟩, ⟨c1, c2, c3, c4, c5, -⟩, d1, d2⟩ := h
  have c1 : P.parts = z 0 := c1
  have c4 : ∀ a b, a < P.parts → b < 6 → gt P.wt a b = gt (wq z) a b := c4
  have c5 : ∀ a b, a < P.parts → b < 6 → gt P.tl a b = gt (tq z) a b := c5
  generalize ats P cs n = A at *
  generalize mtK td tx n = T at *
  obtain ⟨r1, r2, r3, r4, r5, r6, r7, r8, r9, r10⟩ := r
  have f0 : fg z 6 0 = z 0 := by rw [fg_at, if_neg (by decide)]
  obtain ⟨m1, m2, m3⟩ := aaP_at (z := fg z 6) (td := T.1) (T.2.1 + 1) (by rw [f0]; omega)
  rw [wq_fg, f0] at m1
  rw [tq_fg, f0] at m2
  have m0 : aaP (fg z 6) T.1 (T.2.1 + 1) 0 = z 0 + (T.2.1 + 1) := by rw [aaP_0, f0]
  have eA : A.1 = mkP A.1.wt A.1.tl P.sv.clr (P.parts + T.2.1 + 1) P.limit P.seed := by
    rw [← r6, ← r1, ← r4, ← r5]
    rfl
  have told : ∀ a c, P.parts ≤ a → a ≤ P.parts + T.2.1 → c < 6 → T.1 (6 * (a - P.parts) + c) ≤ 9 := fun a c h1 h2 h3 => by
    have e := r7 a c (by omega) h3
    rw [if_pos ⟨h1, h2⟩] at e
    rw [← e]
    exact gt_lt r9 a c
  have p1 : aaP (fg z 6) T.1 (T.2.1 + 1) 1 = P.limit := by rw [m3 1 (by decide) (by decide)]; exact c2.symm
  have p2' : aaP (fg z 6) T.1 (T.2.1 + 1) 2 = P.seed := by rw [m3 2 (by decide) (by decide)]; exact c3.symm
  have p3 : aaP (fg z 6) T.1 (T.2.1 + 1) 3 = 0 := by rw [m3 3 (by decide) (by decide)]; rfl
  have p4 : aaP (fg z 6) T.1 (T.2.1 + 1) 4 = 0 := by rw [m3 4 (by decide) (by decide)]; rfl
  refine ⟨?_, by rw [r1, m0, c1]; omega⟩
  rw [eA]
  refine Rel.mk (by omega) a4 a5 r9 r10 (fun a ha9 => ?_) (fun a b ha9 hb => ?_) (fun a b ha9 ha6 hb => ?_) (by rw [m0, c1]; omega) p1 p2' p3 p4 (fun a b ha9 hb => ?_) (fun a b ha9 hb => ?_) (fun a b ha9 hb => ?_) (fun j => ?_) (fun j hj => fs0_at sf hj)
  · by_cases q : P.parts ≤ a
    · have hex : ∃ l, l < 6 ∧ 0 < T.1 (6 * (a - P.parts) + l) := by
        by_cases e : a - P.parts = T.2.1
        · obtain ⟨l, hl, hg⟩ := tp.2 (Nat.pos_of_ne_zero ht)
          exact ⟨l, by omega, by rw [e]; exact hg⟩
        · exact tp.1 _ (by omega)
      obtain ⟨l, hl, hg⟩ := hex
      exact ⟨l, hl, by rw [r7 a l (by omega) hl, if_pos (by omega)]; exact hg⟩
    · obtain ⟨l, hl, hg⟩ := a3 a (by omega)
      exact ⟨l, hl, by rw [r7 a l (by omega) hl, if_neg (by omega)]; exact hg⟩
  · rw [r7 a b (by omega) hb, r8 a b (by omega) hb]
    by_cases q : P.parts ≤ a ∧ a ≤ P.parts + T.2.1
    · rw [if_pos q, if_pos q]
    · rw [if_neg q, if_neg q]; exact a7 a b (by omega) hb
  · rw [r7 a b ha6 hb, r8 a b ha6 hb, if_neg (by omega), if_neg (by omega)]
    exact b3 a b (by omega) ha6 hb
  · rw [r7 a b (by omega) hb, m1 a b hb]
    by_cases q : P.parts ≤ a ∧ a ≤ P.parts + T.2.1
    · rw [if_pos q, if_pos (by omega), c1]
    · rw [if_neg q, if_neg (by omega)]; exact c4 a b (by omega) hb
  · rw [r8 a b (by omega) hb, m2 a b hb]
    by_cases q : P.parts ≤ a ∧ a ≤ P.parts + T.2.1
    · rw [if_pos q, if_pos (by omega), c1]
    · rw [if_neg q, if_neg (by omega)]; exact c5 a b (by omega) hb
  · rw [m1 a b hb]
    by_cases q : z 0 ≤ a ∧ a < z 0 + (T.2.1 + 1)
    · rw [if_pos q, ← c1]; exact told a b (by omega) (by omega) hb
    · rw [if_neg q]; exact d1 a b ha9 hb
  · by_cases hj : j < 36
    · have e : gt (tq (aaP (fg z 6) T.1 (T.2.1 + 1))) (j / 6) (j % 6) = tq (aaP (fg z 6) T.1 (T.2.1 + 1)) j := by
        unfold gt
        rw [if_pos (by omega), show j / 6 * 6 + j % 6 = j by omega]
      rw [← e, m2 (j / 6) (j % 6) (by omega)]
      by_cases q : z 0 ≤ j / 6 ∧ j / 6 < z 0 + (T.2.1 + 1)
      · rw [if_pos q, ← c1]
        exact Nat.le_trans (told (j / 6) (j % 6) (by omega) (by omega) (by omega)) (by decide)
      · rw [if_neg q]; exact gt_lt d2 _ _
    · show aaP (fg z 6) T.1 (T.2.1 + 1) (47 + j) ≤ 99
      rw [aaP_far (by omega) (T.2.1 + 1) (by rw [f0]; omega), fg_at, if_neg (by omega)]
      exact d2 j
