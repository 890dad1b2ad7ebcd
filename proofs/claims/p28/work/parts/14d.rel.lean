theorem tbL_gt {wt tl : Nat → Nat} {b p : Nat} (hp : p < 6) : ∀ n, n ≤ 6 → ∀ a c, c < 6 → gt (tbL wt b tl p n) a c = if a = p ∧ c < n then min (gt wt p c * (1 + c * b)) 99 else gt tl a c
  | 0, _, a, c, hc => by rw [if_neg (by omega)]; rfl
  | n + 1, hn, a, c, hc => by
    show gt (uN (tbL wt b tl p n) (p * 6 + n) (min (gt wt p n * (1 + n * b)) 99)) a c = _
    rw [gt_uN (by omega) hc hp, tbL_gt hp n (by omega) a c hc]
    by_cases q : a = p ∧ c = n
    · rw [if_pos q, if_pos (by omega), q.2]
    · rw [if_neg q]
      by_cases x : a = p ∧ c < n
      · rw [if_pos x, if_pos (by omega)]
      · rw [if_neg x, if_neg (by omega)]
theorem tbR_gt {wt tl : Nat → Nat} {b : Nat} : ∀ n, n ≤ 6 → ∀ a c, c < 6 → gt (tbR wt b tl n) a c = if a < n then min (gt wt a c * (1 + c * b)) 99 else gt tl a c
  | 0, _, a, c, hc => by rw [if_neg (by omega)]; rfl
  | n + 1, hn, a, c, hc => by
    show gt (tbL wt b (tbR wt b tl n) n 6) a c = _
    rw [tbL_gt (by omega) 6 (Nat.le_refl _) a c hc, tbR_gt n (by omega) a c hc]
    by_cases q : a = n
    · rw [if_pos ⟨q, hc⟩, if_pos (by omega), q]
    · rw [if_neg (fun x => q x.1)]
      by_cases x : a < n
      · rw [if_pos x, if_pos (by omega)]
      · rw [if_neg x, if_neg (by omega)]
theorem tbL_99 {wt tl : Nat → Nat} {b p : Nat} (h : ∀ j, tl j ≤ 99) : ∀ n j, tbL wt b tl p n j ≤ 99
  | 0, j => h j
  | n + 1, j => by
    show (if j = p * 6 + n then min (gt wt p n * (1 + n * b)) 99 else tbL wt b tl p n j) ≤ 99
    split
    · exact Nat.min_le_right _ _
    · exact tbL_99 h n j
theorem tbR_99 {wt tl : Nat → Nat} {b : Nat} (h : ∀ j, tl j ≤ 99) : ∀ n j, tbR wt b tl n j ≤ 99
  | 0, j => h j
  | n + 1, j => tbL_99 (tbR_99 h n) 6 j
theorem tbZ_tq {z : Nat → Nat} {b p : Nat} : ∀ n, n ≤ 6 → tq (tbZ z b p n) = tbL (wq z) b (tq z) p n
  | 0, _ => rfl
  | n + 1, hn => by
    show tq (uN (tbZ z b p n) (47 + 6 * p + n) (min (gt (wq (tbZ z b p n)) p n * (1 + n * b)) 99)) = _
    rw [tq_set, tbZ_tq n (by omega), gt_lo (z := z) (by omega) (fun j hj => tbZ_lo hj n)]
    rfl
theorem tbL_ext {v w tl : Nat → Nat} {b p : Nat} (h : ∀ c, c < 6 → gt v p c = gt w p c) : ∀ n, n ≤ 6 → tbL v b tl p n = tbL w b tl p n
  | 0, _ => rfl
  | n + 1, hn => by
    show uN (tbL v b tl p n) (p * 6 + n) (min (gt v p n * (1 + n * b)) 99) = uN (tbL w b tl p n) (p * 6 + n) (min (gt w p n * (1 + n * b)) 99)
    rw [tbL_ext h n (by omega), h n (by omega)]
theorem tbA_tq {z : Nat → Nat} {b : Nat} : ∀ n, tq (tbA z b n) = tbR (wq z) b (tq z) n
  | 0 => rfl
  | n + 1 => by
    show tq (tbZ (tbA z b n) b n 6) = tbL (wq z) b (tbR (wq z) b (tq z) n) n 6
    rw [tbZ_tq 6 (Nat.le_refl _), tbA_tq n]
    exact tbL_ext (fun c hc => gt_lo hc (fun j hj => tbA_lo hj n)) 6 (Nat.le_refl _)
/-- the sum of all tilted totals, as the model adds it up -/
theorem tsA_eq {z : Nat → Nat} {b m : Nat} (h6 : m ≤ 6) : ∀ n, n ≤ m → tsA z b n = sumN (tot (tbR (wq z) b (tq z) m)) n
  | 0, _ => rfl
  | n + 1, hn => by
    show tsA z b n + tot (tq (tbA z b (n + 1))) n = sumN (tot (tbR (wq z) b (tq z) m)) n + tot (tbR (wq z) b (tq z) m) n
    rw [tsA_eq h6 n (by omega), tbA_tq]
    refine congrArg _ (tot_ext (fun l hl => ?_))
    rw [tbR_gt (n + 1) (by omega) n l hl, tbR_gt m h6 n l hl, if_pos (by omega), if_pos (by omega)]
theorem Rel.tiltAll {P : PV} {z : Nat → Nat} {sf : Nat → UInt64} (h : Rel P z sf) {v : Nat} : Rel (P.tiltBy v) (tbA (fg z 6) v (z 0)) (fs0 sf 4) ∧ tsA (fg z 6) v (z 0) = sumN (tot (P.tiltBy v).tl) P.parts := by
  obtain ⟨⟨⟨⟨a1, a2, a3⟩, a4, a5, a6, a7, a8⟩, b1, b2, b3⟩, ⟨c1, c2, c3, c4, c5, -⟩, d1, d2⟩ := h
  have c1 : P.parts = z 0 := c1
  have c4 : ∀ a b, a < P.parts → b < 6 → gt P.wt a b = gt (wq z) a b := c4
  have uz : ∀ j, j < 11 → tbA (fg z 6) v (z 0) j = fg z 6 j := fun j hj => tbA_lo (by omega) _
  have ew : ∀ a b, b < 6 → gt (wq (tbA (fg z 6) v (z 0))) a b = gt (wq z) a b := fun a b hb => by
    rw [gt_lo (z := fg z 6) (y := tbA (fg z 6) v (z 0)) hb (fun j hj => tbA_lo hj _), wq_fg]
  have et : tq (tbA (fg z 6) v (z 0)) = tbR (wq z) v (tq z) (z 0) := by rw [tbA_tq, wq_fg, tq_fg]
  have rowEq : ∀ a b, a < P.parts → b < 6 → gt (tbR P.wt v P.tl P.parts) a b = gt (tbR (wq z) v (tq z) (z 0)) a b := fun a b ha hb => by
    rw [tbR_gt P.parts a1 a b hb, tbR_gt (z 0) (by omega) a b hb, if_pos ha, if_pos (by omega), c4 a b ha hb]
  refine ⟨Rel.mk a1 a4 a5 b1 (fun j => tbR_99 b2 _ j) a3 (fun a b ha hb => ?_) (fun a b ha ha6 hb => ?_) ?_ ?_ ?_ ?_ ?_ (fun a b ha hb => by rw [ew a b hb]; exact c4 a b ha hb) (fun a b ha hb => by rw [et]; exact rowEq a b ha hb) (fun a b ha hb => by rw [ew a b hb]; exact d1 a b ha hb) (fun j => by rw [et]; exact tbR_99 d2 _ j) (fun j hj => fs0_at sf hj), ?_⟩
  · rw [tbR_gt P.parts a1 a b hb, if_pos ha]
    constructor
    · intro q
      have : 0 < gt P.wt a b * (1 + b * v) := Nat.mul_pos q (by omega)
      omega
    · intro q
      refine Nat.pos_of_ne_zero fun q0 => ?_
      rw [q0, Nat.zero_mul] at q
      omega
  · rw [tbR_gt P.parts a1 a b hb, if_neg (by omega)]
    exact b3 a b ha ha6 hb
  · rw [uz 0 (by decide)]; exact c1.symm
  · rw [uz 1 (by decide)]; exact c2.symm
  · rw [uz 2 (by decide)]; exact c3.symm
  · rw [uz 3 (by decide)]; rfl
  · rw [uz 4 (by decide)]; rfl
  · rw [tsA_eq (m := z 0) (by omega) (z 0) (Nat.le_refl _), wq_fg, tq_fg, ← c1]
    refine sumN_eq P.parts (fun p hp => tot_ext (fun l hl => ?_))
    have := rowEq p l hp hl
    rw [← c1] at this
    exact this.symm

