section Eqv2
variable {P Q : PV}
theorem eqv_hp1 (h : P.eqv Q) {p : Nat} (hp : p < P.parts) (x : Int64) : ∀ k, hp1 P p x k = hp1 Q p x k
  | 0 => rfl
  | k + 1 => by
    show hsh (hp1 P p x k) (vP P p k).toInt64 = hsh (hp1 Q p x k) (vP Q p k).toInt64
    rw [eqv_hp1 h hp x k, eqv_vP h hp]
theorem hp2_ext {v w : Nat → Nat} {p : Nat} (x : Int64) (h : ∀ l, l < 6 → gt v p l = gt w p l) : ∀ k, k ≤ 6 → hp2 v p x k = hp2 w p x k
  | 0, _ => rfl
  | k + 1, hk => by
    show hsh (hp2 v p x k) (lN (gt v p k)) = hsh (hp2 w p x k) (lN (gt w p k))
    rw [hp2_ext x h k (by omega), h k (by omega)]
theorem eqv_vHP (h : P.eqv Q) {p : Nat} (hp : p < P.parts) (x : Int64) : vHP P p x = vHP Q p x := by
  unfold vHP
  rw [eqv_hp1 h hp x 7, hp2_ext _ (fun l hl => h.2.2.2.1 p l hp hl) 6 (Nat.le_refl _), hp2_ext _ (fun l hl => h.2.2.2.2.1 p l hp hl) 6 (Nat.le_refl _), eqv_vL h hp]
theorem eqv_dg1 (h : P.eqv Q) (num : Nat) : ∀ k, dg1 P num k = dg1 Q num k
  | 0 => rfl
  | k + 1 => by
    show hsh (dg1 P num k) (nI (vC P num k)).toInt64 = hsh (dg1 Q num k) (nI (vC Q num k)).toInt64
    rw [eqv_dg1 h num k, eqv_vC h]
theorem eqv_dg2 (h : P.eqv Q) (x : Int64) : ∀ n, n ≤ P.parts → dg2 P x n = dg2 Q x n
  | 0, _ => rfl
  | n + 1, hn => by
    show vHP P n (dg2 P x n) = vHP Q n (dg2 Q x n)
    rw [eqv_dg2 h x n (by omega), eqv_vHP h (by omega)]
theorem eqv_dg3 (h : P.eqv Q) (x : Int64) : ∀ n, dg3 P x n = dg3 Q x n
  | 0 => rfl
  | n + 1 => by
    show hsh (hsh (dg3 P x n) (lN (vW P (5 * n) 0))) (lN (vW P (5 * n) 1)) = hsh (hsh (dg3 Q x n) (lN (vW Q (5 * n) 0))) (lN (vW Q (5 * n) 1))
    rw [eqv_dg3 h x n, eqv_vW h, eqv_vW h]
theorem eqv_dg4 (h : P.eqv Q) (x : Int64) : ∀ n, dg4 P x n = dg4 Q x n
  | 0 => rfl
  | n + 1 => by
    show hsh (dg4 P x n) (vM P n).toInt64 = hsh (dg4 Q x n) (vM Q n).toInt64
    rw [eqv_dg4 h x n, eqv_vM h]
theorem dg5_ext {v w : Nat → Nat} (x : Int64) : ∀ n, (∀ i, i < n → v i = w i) → dg5 v x n = dg5 w x n
  | 0, _ => rfl
  | n + 1, h => by
    show hsh (dg5 v x n) (lN (v n)) = hsh (dg5 w x n) (lN (w n))
    rw [dg5_ext x n (fun i hi => h i (by omega)), h n (by omega)]
theorem eqv_vDig (h : P.eqv Q) {num len : Nat} {v w : Nat → Nat} (hc : ∀ i, i < len → v i = w i) : vDig P num len v = vDig Q num len w := by
  rw [vDig_eq, vDig_eq]
  have e0 : dg0 P num = dg0 Q num := by
    unfold dg0
    rw [← h.1, eqv_dg1 h, eqv_dg2 h _ P.parts (Nat.le_refl _), eqv_dg3 h, eqv_dg4 h]
  rw [e0, eqv_vO h, eqv_vG h, eqv_vF h, eqv_vSl h]
  exact dg5_ext _ len hc
theorem eqv_wok (h : P.eqv Q) (hP : P.wok) (hw : ∀ p l, p < 6 → l < 6 → gt Q.wt p l ≤ 9) : Q.wok := by
  refine ⟨h.1 ▸ hP.1, hw, fun p hp => ?_⟩
  have hp' : p < P.parts := by rw [h.1]; exact hp
  obtain ⟨l, hl, hg⟩ := hP.2.2 p hp'
  exact ⟨l, hl, by rw [← h.2.2.2.1 p l hp' hl]; exact hg⟩
theorem SV.ok_eq {S T : SV} (h : S.ok) (h1 : S.num = T.num) (h2 : S.flt = T.flt) (h3 : S.fs = T.fs) (h4 : S.sm = T.sm) (h5 : S.sq = T.sq) (h6 : S.lc = T.lc) : T.ok := by
  unfold SV.ok at h ⊢
  rw [← h1, ← h2, ← h3, ← h4, ← h5, ← h6]
  exact h
theorem eqv_inv0 (h : P.eqv Q) (hP : P.inv0) (hw : ∀ p l, p < 6 → l < 6 → gt Q.wt p l ≤ 9) (ht : ∀ p l, p < 6 → l < 6 → gt Q.tl p l ≤ 99) : Q.inv0 := by
  obtain ⟨h1, h2, h3, h4, h5, h6, h7, h8, h9, h10, h11, -⟩ := id h
  refine ⟨eqv_wok h hP.1 hw, h2 ▸ hP.2.1, h3 ▸ hP.2.2.1, ht, fun p l hp hl => ?_, SV.ok_eq hP.2.2.2.2.2 h6 h7 h8 h9 h10 h11⟩
  have hp' : p < P.parts := by rw [h1]; exact hp
  rw [← h4 p l hp' hl, ← h5 p l hp' hl]
  exact hP.2.2.2.2.1 p l hp' hl
theorem PV.eqv.refl (P : PV) : P.eqv P := ⟨rfl, rfl, rfl, fun _ _ _ _ => rfl, fun _ _ _ _ => rfl, rfl, rfl, rfl, rfl, rfl, rfl, fun _ _ _ => rfl⟩
-- drawing
theorem eqv_row (h : P.eqv Q) (hP : P.inv0) : ∀ i, i ≤ P.parts → (rowS P i).1 = (rowS Q i).1 ∧ (∀ p, p < i → (rowS P i).2.1 p = (rowS Q i).2.1 p) ∧ (rowS P i).2.2.1 = (rowS Q i).2.2.1 ∧ (rowS P i).2.2.2 = (rowS Q i).2.2.2
  | 0, _ => ⟨h.2.2.1, fun p hp => absurd hp (Nat.not_lt_zero _), rfl, rfl⟩
  | i + 1, hi => by
    obtain ⟨a, b, c, d⟩ := eqv_row h hP i (by omega)
    have et : tot P.tl i = tot Q.tl i := tot_ext (fun l hl => h.2.2.2.2.1 i l (by omega) hl)
    have ed : dload P.tl i (nxt (rowS P i).1) = dload Q.tl i (nxt (rowS Q i).1) := by
      unfold dload
      rw [a, et]
      exact dl6_ext (fun l hl => h.2.2.2.2.1 i l (by omega) hl)
    have d6 := (dload_sp4 (tl := P.tl) (p := i) (s := nxt (rowS P i).1) (hP.tpos (by omega))).1
    refine ⟨?_, fun p hp => ?_, ?_, ?_⟩
    · show nxt (rowS P i).1 = nxt (rowS Q i).1
      rw [a]
    · show uN (rowS P i).2.1 i (dload P.tl i (nxt (rowS P i).1)) p = uN (rowS Q i).2.1 i (dload Q.tl i (nxt (rowS Q i).1)) p
      unfold uN
      by_cases q : p = i
      · rw [if_pos q, if_pos q, ed]
      · rw [if_neg q, if_neg q, b p (by omega)]
    · show (rowS P i).2.2.1 + dload P.tl i (nxt (rowS P i).1) = (rowS Q i).2.2.1 + dload Q.tl i (nxt (rowS Q i).1)
      rw [c, ed]
    · show P.cor (rowS P i).2.2.2 i (dload P.tl i (nxt (rowS P i).1)) = Q.cor (rowS Q i).2.2.2 i (dload Q.tl i (nxt (rowS Q i).1))
      rw [eqv_cor h (by omega) d6, d, ed]
theorem eqv_draw (h : P.eqv Q) (hP : P.inv0) : P.drawRow.eqv Q.drawRow := by
  obtain ⟨a, b, c, d⟩ := eqv_row h hP P.parts (Nat.le_refl _)
  obtain ⟨h1, h2, h3, h4, h5, h6, h7, h8, h9, h10, h11, -⟩ := id h
  have eF : P.isF = Q.isF := by
    unfold PV.isF
    rw [c, h1, h2]
  rw [h1] at a d
  refine ⟨h1, h2, ?_, h4, h5, ?_, ?_, ?_, ?_, ?_, ?_, fun _ p hp => ?_⟩
  · show (rowS P P.parts).1 = (rowS Q Q.parts).1
    rw [h1, a]
  · show P.sv.num + 1 = Q.sv.num + 1
    rw [h6]
  · show (if P.isF = 0 then P.sv.flt else P.sv.flt + 1) = (if Q.isF = 0 then Q.sv.flt else Q.sv.flt + 1)
    rw [eF, h7]
  · show (if P.isF = 0 then P.sv.fs else FP.dadd P.sv.fs (rowS P P.parts).2.2.2) = (if Q.isF = 0 then Q.sv.fs else FP.dadd Q.sv.fs (rowS Q Q.parts).2.2.2)
    rw [eF, h8, h1, d]
  · show FP.dadd P.sv.sm (rowS P P.parts).2.2.2 = FP.dadd Q.sv.sm (rowS Q Q.parts).2.2.2
    rw [h9, h1, d]
  · show FP.dadd P.sv.sq (FP.dmul (rowS P P.parts).2.2.2 (rowS P P.parts).2.2.2) = FP.dadd Q.sv.sq (FP.dmul (rowS Q Q.parts).2.2.2 (rowS Q Q.parts).2.2.2)
    rw [h10, h1, d]
  · show (rowS P P.parts).2.2.2 = (rowS Q Q.parts).2.2.2
    rw [h1, d]
  · show (rowS P P.parts).2.1 p = (rowS Q Q.parts).2.1 p
    rw [b p hp, h1]
theorem eqv_draws (h : P.eqv Q) (hP : P.inv0) : ∀ i, P.sv.num + i ≤ 9999 → (drN P i).eqv (drN Q i)
  | 0, _ => h
  | i + 1, hi => by
    obtain ⟨a, b⟩ := hP.draws i (by omega)
    exact eqv_draw (eqv_draws h hP i (by omega)) a
theorem eqv_dfl (h : P.eqv Q) (hP : P.inv0) {i : Nat} (hi : P.sv.num + i ≤ 9999) : dfl P i = dfl Q i := by
  have e := (eqv_draws h hP i hi).2.2.2.2.2.2.1
  rw [dfl_flt, dfl_flt] at e
  have := h.2.2.2.2.2.2.1
  omega
end Eqv2
