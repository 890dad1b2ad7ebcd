/-! TWO PLANTS THAT SHOW THE SAME -/
def PV.eqv (P Q : PV) : Prop := P.parts = Q.parts ∧ P.limit = Q.limit ∧ P.seed = Q.seed ∧ (∀ p l, p < P.parts → l < 6 → gt P.wt p l = gt Q.wt p l) ∧ (∀ p l, p < P.parts → l < 6 → gt P.tl p l = gt Q.tl p l) ∧ P.sv.num = Q.sv.num ∧ P.sv.flt = Q.sv.flt ∧ P.sv.fs = Q.sv.fs ∧ P.sv.sm = Q.sv.sm ∧ P.sv.sq = Q.sv.sq ∧ P.sv.lc = Q.sv.lc ∧ (¬ P.sv.num = 0 → ∀ p, p < P.parts → P.sv.ll p = Q.sv.ll p)
theorem dl6_ext {f g : Nat → Nat} {n : Nat} (h : ∀ l, l < 6 → f l = g l) : dl6 f n = dl6 g n := by
  unfold dl6
  rw [sumN_eq 1 (fun j hj => h j (by omega)), sumN_eq 2 (fun j hj => h j (by omega)), sumN_eq 3 (fun j hj => h j (by omega)), sumN_eq 4 (fun j hj => h j (by omega)), sumN_eq 5 (fun j hj => h j (by omega))]
theorem tot_ext {v w : Nat → Nat} {p : Nat} (h : ∀ l, l < 6 → gt v p l = gt w p l) : tot v p = tot w p := sumN_eq 6 h
theorem cnF_ext {v w : Nat → Nat} {wo : Int32} {f : Nat → Nat} : ∀ n, (∀ p l, p < n → l < 6 → gt v p l = gt w p l) → cnF v wo f n = cnF w wo f n
  | 0, _ => rfl
  | n + 1, h => by
    have ih := cnF_ext (v := v) (w := w) (wo := wo) (f := f) n (fun p l hp hl => h p l (by omega) hl)
    by_cases q : nI n = wo
    · rw [cnF_y q, cnF_y q, ih]
    · rw [cnF_n q, cnF_n q, ih]
      funext j
      unfold apP apI
      by_cases x : j < 0 ∨ 31 ≤ j
      · rw [if_pos x, if_pos x]
      · rw [if_neg x, if_neg x]
        exact sumN_eq 6 (fun l hl => by rw [h n l (by omega) hl])
theorem bs_ext {v w : Nat → Nat} {m : Nat} (h : ∀ p l, p < m → l < 6 → gt v p l = gt w p l) : ∀ d n, d ≤ m → bs v m d n = bs w m d n
  | 0, n, _ => rfl
  | d + 1, n, hd => by
    unfold bs
    refine mxN_eq 6 (fun l hl => ?_)
    rw [h _ l (by omega) hl, bs_ext h d (n - l) (by omega)]
section Eqv
variable {P Q : PV}
theorem eqv_cor (h : P.eqv Q) {p l : Nat} (hp : p < P.parts) (hl : l < 6) (c : UInt64) : P.cor c p l = Q.cor c p l := by
  unfold PV.cor
  rw [h.2.2.2.1 p l hp hl, h.2.2.2.2.1 p l hp hl, tot_ext (fun l hl => h.2.2.2.1 p l hp hl), tot_ext (fun l hl => h.2.2.2.2.1 p l hp hl)]
end Eqv

