/-- 1 for the first n loads of row p -/
def onesW (w : Nat → Nat) (p : Nat) : Nat → Nat → Nat
  | 0 => w
  | i + 1 => uN (onesW w p i) (p * 6 + i) 1
theorem adN_eq (P : PV) (p : Nat) : ∀ n, adN P p n = mkP (onesW P.wt p n) (onesW P.tl p n) P.sv P.parts P.limit P.seed
  | 0 => rfl
  | n + 1 => by
    show (adN P p n).both p n 1 = _
    rw [adN_eq P p n]
    rfl
theorem onesW_gt {w : Nat → Nat} {p : Nat} (hp : p < 6) : ∀ n, n ≤ 6 → ∀ a c, c < 6 → gt (onesW w p n) a c = if a = p ∧ c < n then 1 else gt w a c
  | 0, _, a, c, hc => by rw [if_neg (by omega)]; rfl
  | n + 1, hn, a, c, hc => by
    show gt (uN (onesW w p n) (p * 6 + n) 1) a c = _
    rw [gt_uN (by omega) hc hp, onesW_gt hp n (by omega) a c hc]
    by_cases q : a = p ∧ c = n
    · rw [if_pos q, if_pos (by omega)]
    · rw [if_neg q]
      by_cases x : a = p ∧ c < n
      · rw [if_pos x, if_pos (by omega)]
      · rw [if_neg x, if_neg (by omega)]
theorem onesW_le {w : Nat → Nat} {p b : Nat} (hb : 1 ≤ b) (h : ∀ j, w j ≤ b) : ∀ n j, onesW w p n j ≤ b
  | 0, j => h j
  | n + 1, j => by
    show (if j = p * 6 + n then 1 else onesW w p n j) ≤ b
    split
    · exact hb
    · exact onesW_le hb h n j
theorem apZ_gt {z : Nat → Nat} {v : Nat} (h5 : z 0 < 6) : ∀ n, n ≤ 6 → ∀ a c, c < 6 → gt (wq (apZ z v n)) a c = if a = z 0 ∧ c < n then (if c ≤ v then 1 else 0) else gt (wq z) a c
  | 0, _, a, c, hc => by rw [if_neg (by omega)]; rfl
  | n + 1, hn, a, c, hc => by
    show gt (wq (uN (apZ z v n) (11 + 6 * apZ z v n 0 + n) (if n ≤ v then 1 else 0))) a c = _
    rw [apZ_0 z v n, wq_set, gt_uN (by omega) hc h5, apZ_gt h5 n (by omega) a c hc]
    by_cases q : a = z 0 ∧ c = n
    · rw [if_pos q, if_pos (show a = z 0 ∧ c < n + 1 by omega), q.2]
    · rw [if_neg q]
      by_cases x : a = z 0 ∧ c < n
      · rw [if_pos x, if_pos (show a = z 0 ∧ c < n + 1 by omega)]
      · rw [if_neg x, if_neg (show ¬ (a = z 0 ∧ c < n + 1) by omega)]
theorem apZ_hi {z : Nat → Nat} {v j : Nat} (h5 : z 0 < 6) (hj : j < 11 ∨ 47 ≤ j) : ∀ n, n ≤ 6 → apZ z v n j = z j
  | 0, _ => rfl
  | n + 1, hn => by
    show (if j = 11 + 6 * apZ z v n 0 + n then _ else apZ z v n j) = z j
    rw [apZ_0 z v n, if_neg (by omega)]
    exact apZ_hi h5 hj n (by omega)
theorem lpz_tq {z : Nat → Nat} {p : Nat} (hp : p < 6) : ∀ n, n ≤ 6 → ∀ a c, c < 6 → gt (tq (lpz z p n)) a c = if a = p ∧ c < n then gt (wq z) p c else gt (tq z) a c
  | 0, _, a, c, hc => by rw [if_neg (by omega)]; rfl
  | n + 1, hn, a, c, hc => by
    show gt (tq (uN (lpz z p n) (47 + 6 * p + n) (gt (wq (lpz z p n)) p n))) a c = _
    rw [tq_set, gt_uN (by omega) hc hp, lpz_tq hp n (by omega) a c hc, gt_lo (z := z) (y := lpz z p n) (by omega) (fun j hj => lpz_lo hj n)]
    by_cases q : a = p ∧ c = n
    · rw [if_pos q, if_pos (by omega), q.2]
    · rw [if_neg q]
      by_cases x : a = p ∧ c < n
      · rw [if_pos x, if_pos (by omega)]
      · rw [if_neg x, if_neg (by omega)]
theorem lpz_99 {z : Nat → Nat} {p : Nat} (hw : ∀ c, c < 6 → gt (wq z) p c ≤ 99) (h : ∀ j, tq z j ≤ 99) : ∀ n, n ≤ 6 → ∀ j, tq (lpz z p n) j ≤ 99
  | 0, _, j => h j
  | n + 1, hn, j => by
    show tq (uN (lpz z p n) (47 + 6 * p + n) (gt (wq (lpz z p n)) p n)) j ≤ 99
    rw [tq_set, gt_lo (z := z) (y := lpz z p n) (by omega) (fun j hj => lpz_lo hj n)]
    show (if j = p * 6 + n then gt (wq z) p n else tq (lpz z p n) j) ≤ 99
    split
    · exact hw n (by omega)
    · exact lpz_99 hw h n (by omega) j
/-- the model's cells behind a part more -/
def adZ (z : Nat → Nat) (v : Nat) : Nat → Nat := uN (lpz (apZ (fg z 6) v 6) (apZ (fg z 6) v 6 0) 6) 0 (lpz (apZ (fg z 6) v 6) (apZ (fg z 6) v 6 0) 6 0 + 1)
theorem adZ_0 (z : Nat → Nat) (v : Nat) : adZ z v 0 = z 0 + 1 := by
  have e : apZ (fg z 6) v 6 0 = z 0 := apZ_0 _ v 6
  show lpz (apZ (fg z 6) v 6) (apZ (fg z 6) v 6 0) 6 0 + 1 = z 0 + 1
  rw [lpz_lo (by decide), e]
theorem Rel.addPart {P : PV} {z : Nat → Nat} {sf : Nat → UInt64} (h : Rel P z sf) {v : Nat} (hv : v < 6) (h5 : P.parts < 6) : Rel (P.addPart v) (adZ z v) (fs0 sf 4) := by
  obtain ⟨⟨⟨⟨a1, a2, a3⟩, a4, a5, a6, a7, a8⟩, b1, b2, b3⟩, ⟨c1, c2, c3, c4, c5, -⟩, d1, d2⟩ := h
  have c1 : P.parts = z 0 := c1
  have c4 : ∀ a b, a < P.parts → b < 6 → gt P.wt a b = gt (wq z) a b := c4
  have c5 : ∀ a b, a < P.parts → b < 6 → gt P.tl a b = gt (tq z) a b := c5
  have f0 : fg z 6 0 = z 0 := by rw [fg_at, if_neg (by decide)]
  have e0 : apZ (fg z 6) v 6 0 = z 0 := apZ_0 _ v 6
  have f5 : fg z 6 0 < 6 := by rw [f0]; omega
  have eP : P.addPart v = mkP (onesW P.wt P.parts (v + 1)) (onesW P.tl P.parts (v + 1)) P.sv.clr (P.parts + 1) P.limit P.seed := adN_eq P.addE P.parts (v + 1)
  have gw : ∀ a c, c < 6 → gt (wq (apZ (fg z 6) v 6)) a c = if a = z 0 ∧ c < 6 then (if c ≤ v then 1 else 0) else gt (wq z) a c := fun a c hc => by
    rw [apZ_gt f5 6 (Nat.le_refl _) a c hc, wq_fg, f0]
  have ew : ∀ a c, c < 6 → gt (wq (adZ z v)) a c = if a = z 0 ∧ c < 6 then (if c ≤ v then 1 else 0) else gt (wq z) a c := fun a c hc => by
    unfold adZ
    rw [wq_uN (by decide), gt_lo (z := apZ (fg z 6) v 6) (y := lpz (apZ (fg z 6) v 6) (apZ (fg z 6) v 6 0) 6) hc (fun j hj => lpz_lo hj 6), gw a c hc]
  have tqa : tq (apZ (fg z 6) v 6) = tq z := by
    rw [← tq_fg z]
    funext k
    exact apZ_hi f5 (Or.inr (by omega)) 6 (Nat.le_refl _)
  have et : ∀ a c, c < 6 → gt (tq (adZ z v)) a c = if a = z 0 ∧ c < 6 then (if c ≤ v then 1 else 0) else gt (tq z) a c := fun a c hc => by
    unfold adZ
    rw [tq_uN (by decide), e0, lpz_tq (by omega) 6 (Nat.le_refl _) a c hc, tqa, show gt (wq (apZ (fg z 6) v 6)) (z 0) c = (if c ≤ v then 1 else 0) from (gw (z 0) c hc).trans (if_pos ⟨rfl, hc⟩)]
  have lowz : ∀ j, 0 < j → j < 11 → adZ z v j = fg z 6 j := fun j h0 hj => by
    show (if j = 0 then _ else lpz (apZ (fg z 6) v 6) (apZ (fg z 6) v 6 0) 6 j) = fg z 6 j
    rw [if_neg (by omega), lpz_lo (by omega), apZ_hi f5 (Or.inl hj) 6 (Nat.le_refl _)]
  rw [eP]
  refine Rel.mk (by omega) a4 a5 (onesW_le (by decide) b1 _) (onesW_le (by decide) b2 _) (fun a ha => ?_) (fun a b ha hb => ?_) (fun a b ha ha6 hb => ?_) ?_ ?_ ?_ ?_ ?_ (fun a b ha hb => ?_) (fun a b ha hb => ?_) (fun a b ha hb => ?_) (fun j => ?_) (fun j hj => fs0_at sf hj)
  · by_cases q : a = P.parts
    · exact ⟨0, by decide, by rw [onesW_gt h5 (v + 1) (by omega) a 0 (by decide), if_pos ⟨q, by omega⟩]; decide⟩
    · obtain ⟨b, hb, hg⟩ := a3 a (by omega)
      exact ⟨b, hb, by rw [onesW_gt h5 (v + 1) (by omega) a b hb, if_neg (fun x => q x.1)]; exact hg⟩
  · rw [onesW_gt h5 (v + 1) (by omega) a b hb, onesW_gt h5 (v + 1) (by omega) a b hb]
    by_cases q : a = P.parts
    · by_cases x : b < v + 1
      · rw [if_pos ⟨q, x⟩, if_pos ⟨q, x⟩]
      · rw [if_neg (fun y => x y.2), if_neg (fun y => x y.2), (b3 a b (by omega) (by omega) hb).1, (b3 a b (by omega) (by omega) hb).2]
    · rw [if_neg (fun x => q x.1), if_neg (fun x => q x.1)]; exact a7 a b (by omega) hb
  · rw [onesW_gt h5 (v + 1) (by omega) a b hb, onesW_gt h5 (v + 1) (by omega) a b hb, if_neg (by omega), if_neg (by omega)]
    exact b3 a b (by omega) ha6 hb
  · rw [adZ_0, c1]
  · rw [lowz 1 (by decide) (by decide)]; exact c2.symm
  · rw [lowz 2 (by decide) (by decide)]; exact c3.symm
  · rw [lowz 3 (by decide) (by decide)]; rfl
  · rw [lowz 4 (by decide) (by decide)]; rfl
  · rw [onesW_gt h5 (v + 1) (by omega) a b hb, ew a b hb]
    by_cases q : a = P.parts
    · rw [if_pos (show a = z 0 ∧ b < 6 from ⟨q.trans c1, hb⟩)]
      by_cases x : b ≤ v
      · rw [if_pos ⟨q, by omega⟩, if_pos x]
      · rw [if_neg (by omega), if_neg x]; exact (b3 a b (by omega) (by omega) hb).1
    · rw [if_neg (fun x => q x.1), if_neg (fun x => q (x.1.trans c1.symm))]; exact c4 a b (by omega) hb
  · rw [onesW_gt h5 (v + 1) (by omega) a b hb, et a b hb]
    by_cases q : a = P.parts
    · rw [if_pos (show a = z 0 ∧ b < 6 from ⟨q.trans c1, hb⟩)]
      by_cases x : b ≤ v
      · rw [if_pos ⟨q, by omega⟩, if_pos x]
      · rw [if_neg (by omega), if_neg x]; exact (b3 a b (by omega) (by omega) hb).2
    · rw [if_neg (fun x => q x.1), if_neg (fun x => q (x.1.trans c1.symm))]; exact c5 a b (by omega) hb
  · rw [ew a b hb]
    split
    · split <;> decide
    · exact d1 a b ha hb
  · unfold adZ
    rw [tq_uN (by decide), e0]
    refine lpz_99 (fun c hc => ?_) (by rw [tqa]; exact d2) 6 (Nat.le_refl _) j
    rw [gw (z 0) c hc, if_pos ⟨rfl, hc⟩]
    split <;> decide

