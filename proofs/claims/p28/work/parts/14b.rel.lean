section Eqv2
variable {P Q : PV}
theorem eqv_wok (h : P.eqv Q) (hP : P.wok) (hw : ∀ p l, p < 6 → l < 6 → gt Q.wt p l ≤ 9) : Q.wok := by
  refine ⟨h.1 ▸ hP.1, hw, fun p hp => ?_⟩
  have hp' : p < P.parts := by rw [h.1]; exact hp
  obtain ⟨l, hl, hg⟩ := hP.2.2 p hp'
  exact ⟨l, hl, by rw [← h.2.2.2.1 p l hp' hl]; exact hg⟩
theorem SV.ok_eq {S T : SV} (h : S.ok) (h1 : S.num = T.num) (h2 : S.flt = T.flt) (h3 : S.fs = T.fs) (h4 : S.sm = T.sm) (h5 : S.sq = T.sq) (h6 : S.lc = T.lc) : T.ok := by
  unfold SV.ok at h ⊢
  rw [← h1, ← h2, ← h3, ← h4, ← h5, ← h6]
  exact h
theorem eqv_inv0 (h : P.eqv Q) (hP : P.inv0) (hw : ∀ p l, p < 6 → l < 6 → gt Q.wt p l ≤ 9) (ht : ∀ p l, p < 6 → l < 6 → gt Q.tl p l ≤ 99) : Q.inv0 := by
  obtain ⟨h1, h2, h3, h4, h5, h6, h7, h8, h9, h10, h11, -⟩ := id h
  refine ⟨eqv_wok h hP.1 hw, h2 ▸ hP.2.1, h3 ▸ hP.2.2.1, ht, fun p l hp hl => ?_, SV.ok_eq hP.2.2.2.2.2 h6 h7 h8 h9 h10 h11⟩
  have hp' : p < P.parts := by rw [h1]; exact hp
  rw [← h4 p l hp' hl, ← h5 p l hp' hl]
  exact hP.2.2.2.2.1 p l hp' hl
theorem PV.eqv.refl (P : PV) : P.eqv P := ⟨rfl, rfl, rfl, fun _ _ _ _ => rfl, fun _ _ _ _ => rfl, rfl, rfl, rfl, rfl, rfl, rfl, fun _ _ _ => rfl⟩
-- drawing
theorem eqv_row (h : P.eqv Q) (hP : P.inv0) : ∀ i, i ≤ P.parts → (rowS P i).1 = (rowS Q i).1 ∧ (∀ p, p < i → (rowS P i).2.1 p = (rowS Q i).2.1 p) ∧ (rowS P i).2.2.1 = (rowS Q i).2.2.1 ∧ (rowS P i).2.2.2 = (rowS Q i).2.2.2
  | 0, _ => ⟨h.2.2.1, fun p hp => absurd hp (Nat.not_lt_zero _), rfl, rfl⟩
  | i + 1, hi => by
    obtain ⟨a, b, c, d⟩ := eqv_row h hP i (by omega)
    have et : tot P.tl i = tot Q.tl i := tot_ext (fun l hl => h.2.2.2.2.1 i l (by omega) hl)
    have ed : dload P.tl i (nxt (rowS P i).1) = dload Q.tl i (nxt (rowS Q i).1) := by
      unfold dload
      rw [a, et]
      exact dl6_ext (fun l hl => h.2.2.2.2.1 i l (by omega) hl)
    have d6 := (dload_sp4 (tl := P.tl) (p := i) (s := nxt (rowS P i).1) (hP.tpos (by omega))).1
    refine ⟨?_, fun p hp => ?_, ?_, ?_⟩
    · show nxt (rowS P i).1 = nxt (rowS Q i).1
      rw [a]
    · show uN (rowS P i).2.1 i (dload P.tl i (nxt (rowS P i).1)) p = uN (rowS Q i).2.1 i (dload Q.tl i (nxt (rowS Q i).1)) p
      unfold uN
      by_cases q : p = i
      · rw [if_pos q, if_pos q, ed]
      · rw [if_neg q, if_neg q, b p (by omega)]
    · show (rowS P i).2.2.1 + dload P.tl i (nxt (rowS P i).1) = (rowS Q i).2.2.1 + dload Q.tl i (nxt (rowS Q i).1)
      rw [c, ed]
    · show P.cor (rowS P i).2.2.2 i (dload P.tl i (nxt (rowS P i).1)) = Q.cor (rowS Q i).2.2.2 i (dload Q.tl i (nxt (rowS Q i).1))
      rw [eqv_cor h (by omega) d6, d, ed]
theorem eqv_draw (h : P.eqv Q) (hP : P.inv0) : P.drawRow.eqv Q.drawRow := by
  obtain ⟨a, b, c, d⟩ := eqv_row h hP P.parts (Nat.le_refl _)
  obtain ⟨h1, h2, h3, h4, h5, h6, h7, h8, h9, h10, h11, -⟩ := id h
  have eF : P.isF = Q.isF := by
    unfold PV.isF
    rw [c, h1, h2]
  rw [h1] at a d
  refine ⟨h1, h2, ?_, h4, h5, ?_, ?_, ?_, ?_, ?_, ?_, fun _ p hp => ?_⟩
  · show (rowS P P.parts).1 = (rowS Q Q.parts).1
    rw [h1, a]
  · show P.sv.num + 1 = Q.sv.num + 1
    rw [h6]
  · show (if P.isF = 0 then P.sv.flt else P.sv.flt + 1) = (if Q.isF = 0 then Q.sv.flt else Q.sv.flt + 1)
    rw [eF, h7]
  · show (if P.isF = 0 then P.sv.fs else FP.dadd P.sv.fs (rowS P P.parts).2.2.2) = (if Q.isF = 0 then Q.sv.fs else FP.dadd Q.sv.fs (rowS Q Q.parts).2.2.2)
    rw [eF, h8, h1, d]
  · show FP.dadd P.sv.sm (rowS P P.parts).2.2.2 = FP.dadd Q.sv.sm (rowS Q Q.parts).2.2.2
    rw [h9, h1, d]
  · show FP.dadd P.sv.sq (FP.dmul (rowS P P.parts).2.2.2 (rowS P P.parts).2.2.2) = FP.dadd Q.sv.sq (FP.dmul (rowS Q Q.parts).2.2.2 (rowS Q Q.parts).2.2.2)
    rw [h10, h1, d]
  · show (rowS P P.parts).2.2.2 = (rowS Q Q.parts).2.2.2
    rw [h1, d]
  · show (rowS P P.parts).2.1 p = (rowS Q Q.parts).2.1 p
    rw [b p hp, h1]
theorem eqv_draws (h : P.eqv Q) (hP : P.inv0) : ∀ i, P.sv.num + i ≤ 9999 → (drN P i).eqv (drN Q i)
  | 0, _ => h
  | i + 1, hi => by
    obtain ⟨a, b⟩ := hP.draws i (by omega)
    exact eqv_draw (eqv_draws h hP i (by omega)) a
theorem eqv_dfl (h : P.eqv Q) (hP : P.inv0) {i : Nat} (hi : P.sv.num + i ≤ 9999) : dfl P i = dfl Q i := by
  have e := (eqv_draws h hP i hi).2.2.2.2.2.2.1
  rw [dfl_flt, dfl_flt] at e
  have := h.2.2.2.2.2.2.1
  omega
end Eqv2

