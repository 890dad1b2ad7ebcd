/-! TWO PLANTS THAT SHOW THE SAME -/
def PV.eqv (P Q : PV) : Prop := P.parts = Q.parts ∧ P.limit = Q.limit ∧ P.seed = Q.seed ∧ (∀ p l, p < P.parts → l < 6 → gt P.wt p l = gt Q.wt p l) ∧ (∀ p l, p < P.parts → l < 6 → gt P.tl p l = gt Q.tl p l) ∧ P.sv.num = Q.sv.num ∧ P.sv.flt = Q.sv.flt ∧ P.sv.fs = Q.sv.fs ∧ P.sv.sm = Q.sv.sm ∧ P.sv.sq = Q.sv.sq ∧ P.sv.lc = Q.sv.lc ∧ (¬ P.sv.num = 0 → ∀ p, p < P.parts → P.sv.ll p = Q.sv.ll p)
theorem lo6_ext {f g : Nat → Nat} (h : ∀ l, l < 6 → f l = g l) : lo6 f = lo6 g := by
  unfold lo6
  rw [h 0 (by decide), h 1 (by decide), h 2 (by decide), h 3 (by decide), h 4 (by decide)]
theorem hi6_ext {f g : Nat → Nat} (h : ∀ l, l < 6 → f l = g l) : hi6 f = hi6 g := by
  unfold hi6
  rw [h 5 (by decide), h 1 (by decide), h 2 (by decide), h 3 (by decide), h 4 (by decide)]
theorem dl6_ext {f g : Nat → Nat} {n : Nat} (h : ∀ l, l < 6 → f l = g l) : dl6 f n = dl6 g n := by
  unfold dl6
  rw [sumN_eq 1 (fun j hj => h j (by omega)), sumN_eq 2 (fun j hj => h j (by omega)), sumN_eq 3 (fun j hj => h j (by omega)), sumN_eq 4 (fun j hj => h j (by omega)), sumN_eq 5 (fun j hj => h j (by omega))]
theorem fe6_ext {f g : Nat → Nat} {n : Nat} (h : ∀ l, l < 6 → f l = g l) : fe6 f n = fe6 g n := by
  unfold fe6
  rw [h 0 (by decide), h 1 (by decide), h 2 (by decide), h 3 (by decide), h 4 (by decide)]
theorem tot_ext {v w : Nat → Nat} {p : Nat} (h : ∀ l, l < 6 → gt v p l = gt w p l) : tot v p = tot w p := sumN_eq 6 h
theorem mom_ext {v w : Nat → Nat} {p : Nat} (h : ∀ l, l < 6 → gt v p l = gt w p l) : mom v p = mom w p := sumN_eq 6 (fun l hl => by rw [h l hl])
theorem cnF_ext {v w : Nat → Nat} {wo : Int32} {f : Nat → Nat} : ∀ n, (∀ p l, p < n → l < 6 → gt v p l = gt w p l) → cnF v wo f n = cnF w wo f n
  | 0, _ => rfl
  | n + 1, h => by
    have ih := cnF_ext (v := v) (w := w) (wo := wo) (f := f) n (fun p l hp hl => h p l (by omega) hl)
    by_cases q : nI n = wo
    · rw [cnF_y q, cnF_y q, ih]
    · rw [cnF_n q, cnF_n q, ih]
      funext j
      unfold apP apI
      by_cases x : j < 0 ∨ 31 ≤ j
      · rw [if_pos x, if_pos x]
      · rw [if_neg x, if_neg x]
        exact sumN_eq 6 (fun l hl => by rw [h n l (by omega) hl])
theorem bs_ext {v w : Nat → Nat} {m : Nat} (h : ∀ p l, p < m → l < 6 → gt v p l = gt w p l) : ∀ d n, d ≤ m → bs v m d n = bs w m d n
  | 0, n, _ => rfl
  | d + 1, n, hd => by
    unfold bs
    refine mxN_eq 6 (fun l hl => ?_)
    rw [h _ l (by omega) hl, bs_ext h d (n - l) (by omega)]
section Eqv
variable {P Q : PV}
theorem eqv_cnt (h : P.eqv Q) (wo : Int32) : cnt P wo = cnt Q wo := by
  unfold cnt
  rw [← h.1]
  exact cnF_ext P.parts h.2.2.2.1
theorem eqv_vO (h : P.eqv Q) (wo : Int32) (x : Nat) : vO P wo x = vO Q wo x := by
  unfold vO
  rw [eqv_cnt h]
theorem eqv_vW (h : P.eqv Q) (x b : Nat) : vW P x b = vW Q x b := by
  unfold vW
  rw [eqv_cnt h]
theorem eqv_vF (h : P.eqv Q) (x : Nat) : vF P x = vF Q x := by
  unfold vF
  rw [eqv_cnt h]
theorem eqv_gm (h : P.eqv Q) {p n : Nat} (hp : p ≤ P.parts) : gm (lkF P zN) p n = gm (lkF Q zN) p n := by
  unfold lkF
  have hq : p ≤ Q.parts := by rw [← h.1]; exact hp
  rw [gm_lk hp (Nat.zero_le _), gm_lk hq (Nat.zero_le _), ← h.1, bs_ext h.2.2.2.1 (P.parts - p) n (Nat.sub_le _ _)]
theorem eqv_flo (h : P.eqv Q) {p n : Nat} (hp : p < P.parts) : flo P.wt (lkF P zN) p n = flo Q.wt (lkF Q zN) p n := by
  unfold flo
  rw [eqv_gm h (Nat.le_of_lt hp)]
  refine fe6_ext (fun l hl => ?_)
  unfold wwi
  rw [h.2.2.2.1 p l hp hl, eqv_gm h hp]
theorem eqv_nee (h : P.eqv Q) {lim : Nat} : ∀ p, p ≤ P.parts → nee P.wt (lkF P zN) lim p = nee Q.wt (lkF Q zN) lim p
  | 0, _ => rfl
  | p + 1, hp => by
    show nee P.wt (lkF P zN) lim p - flo P.wt (lkF P zN) p (nee P.wt (lkF P zN) lim p) = nee Q.wt (lkF Q zN) lim p - flo Q.wt (lkF Q zN) p (nee Q.wt (lkF Q zN) lim p)
    rw [eqv_nee h p (by omega), eqv_flo h (by omega)]
theorem eqv_vL (h : P.eqv Q) {p : Nat} (hp : p < P.parts) : vL P p = vL Q p := by
  unfold vL lik
  rw [eqv_gm h (Nat.zero_le _), ← h.2.1, eqv_nee h p (Nat.le_of_lt hp), eqv_flo h hp]
theorem eqv_vP (h : P.eqv Q) {p : Nat} (hp : p < P.parts) : ∀ k, vP P p k = vP Q p k
  | 0 => congrArg nI (tot_ext (fun l hl => h.2.2.2.1 p l hp hl))
  | 1 => congrArg nI (tot_ext (fun l hl => h.2.2.2.2.1 p l hp hl))
  | 2 => congrArg nI (lo6_ext (fun l hl => h.2.2.2.1 p l hp hl))
  | 3 => congrArg nI (hi6_ext (fun l hl => h.2.2.2.1 p l hp hl))
  | 4 => congrArg nI (mom_ext (fun l hl => h.2.2.2.1 p l hp hl))
  | 5 => congrArg nI (mom_ext (fun l hl => h.2.2.2.2.1 p l hp hl))
  | k + 6 => by
    show P.sv.latest p = Q.sv.latest p
    unfold SV.latest
    have hn := h.2.2.2.2.2.1
    by_cases q : P.sv.num = 0
    · rw [if_pos q, if_pos (hn ▸ q)]
    · rw [if_neg q, if_neg (hn ▸ q), h.2.2.2.2.2.2.2.2.2.2.2 q p hp]
theorem eqv_vC (h : P.eqv Q) (num : Nat) : ∀ k, vC P num k = vC Q num k
  | 0 => h.1
  | 1 => h.2.1
  | 2 => h.2.2.1
  | 3 => h.2.2.2.2.2.1
  | 4 => h.2.2.2.2.2.2.1
  | 5 => by
    show sumN (fun p => lo6 (gt P.wt p)) P.parts = sumN (fun p => lo6 (gt Q.wt p)) Q.parts
    rw [← h.1]
    exact sumN_eq P.parts (fun p hp => lo6_ext (fun l hl => h.2.2.2.1 p l hp hl))
  | 6 => by
    show sumN (fun p => hi6 (gt P.wt p)) P.parts = sumN (fun p => hi6 (gt Q.wt p)) Q.parts
    rw [← h.1]
    exact sumN_eq P.parts (fun p hp => hi6_ext (fun l hl => h.2.2.2.1 p l hp hl))
  | 7 => by
    show gm (lkF P zN) 0 P.limit = gm (lkF Q zN) 0 Q.limit
    rw [← h.2.1]
    exact eqv_gm h (Nat.zero_le _)
  | k + 8 => rfl
theorem eqv_cor (h : P.eqv Q) {p l : Nat} (hp : p < P.parts) (hl : l < 6) (c : UInt64) : P.cor c p l = Q.cor c p l := by
  unfold PV.cor
  rw [h.2.2.2.1 p l hp hl, h.2.2.2.2.1 p l hp hl, tot_ext (fun l hl => h.2.2.2.1 p l hp hl), tot_ext (fun l hl => h.2.2.2.2.1 p l hp hl)]
theorem eqv_cf (h : P.eqv Q) : ∀ n, n ≤ P.parts → cfF P zD n = cfF Q zD n
  | 0, _ => rfl
  | n + 1, hn => by
    show caP P n (cfF P zD n) = caP Q n (cfF Q zD n)
    rw [eqv_cf h n (by omega)]
    funext j
    unfold caP caI
    by_cases x : j < 0 ∨ 31 ≤ j
    · rw [if_pos x, if_pos x]
    · rw [if_neg x, if_neg x]
      exact mxD_eq 6 (fun l hl => eqv_cor h (by omega) hl _)
theorem eqv_vG (h : P.eqv Q) (b : Nat) : vG P b = vG Q b := by
  unfold vG cfz
  rw [eqv_cf h P.parts (Nat.le_refl _), h.1, h.2.1]
theorem eqv_vM (h : P.eqv Q) (k : Nat) : vM P k = vM Q k := by
  have hs : P.sv.num = Q.sv.num := h.2.2.2.2.2.1
  have e : ∀ x, P.sv.share x = Q.sv.share x := fun x => by
    unfold SV.share
    rw [hs]
  obtain ⟨-, h2, -, -, -, -, h7, h8, h9, h10, h11, -⟩ := id h
  match k with
  | 0 => show vO P (-1) P.limit = vO Q (-1) Q.limit; rw [eqv_vO h, h2]
  | 1 => show P.sv.share P.sv.fs = Q.sv.share Q.sv.fs; rw [e, h8]
  | 2 => show P.sv.share (FP.i2d (nI P.sv.flt)) = Q.sv.share (FP.i2d (nI Q.sv.flt)); rw [e, h7]
  | 3 => show P.sv.share P.sv.sm = Q.sv.share Q.sv.sm; rw [e, h9]
  | 4 => show P.sv.eff = Q.sv.eff; unfold SV.eff; rw [h9, h10]
  | 5 => exact h11
  | k + 6 => show FP.dsub (P.sv.share P.sv.fs) (vO P (-1) P.limit) = FP.dsub (Q.sv.share Q.sv.fs) (vO Q (-1) Q.limit); rw [e, h8, eqv_vO h, h2]
theorem eqv_slS (h : P.eqv Q) (b : UInt64) : ∀ n, slS P b n = slS Q b n
  | 0 => rfl
  | n + 1 => by
    show (if Op.cmpValue (FP.dcmp (vO P (nI n) P.limit) (slS P b n).2) .l ≤ 0 then slS P b n else (nI n, vO P (nI n) P.limit)) = (if Op.cmpValue (FP.dcmp (vO Q (nI n) Q.limit) (slS Q b n).2) .l ≤ 0 then slS Q b n else (nI n, vO Q (nI n) Q.limit))
    rw [eqv_slS h b n, eqv_vO h, h.2.1]
theorem eqv_vSl (h : P.eqv Q) : vSl P = vSl Q := by
  unfold vSl
  rw [eqv_slS h, h.1]
end Eqv
