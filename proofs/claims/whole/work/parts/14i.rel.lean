/-- each part that was told has a weight -/
def TP (T : TV) : Prop := (∀ q, q < T.2.1 → ∃ l, l < 6 ∧ 0 < T.1 (6 * q + l)) ∧ (0 < T.2.2.2 → ∃ l, l < T.2.2.1 ∧ 0 < T.1 (6 * T.2.1 + l))
theorem tp_S {T : TV} (h : TP T) (h6 : T.2.2.1 ≤ 6) (c : Nat) : TP (mtS T c) := by
  by_cases a0 : mtA T c = 0
  · rw [mtS_0 a0]; exact h
  · by_cases q9 : c = 59
    · subst q9
      rw [mtS_n a0]
      have t0 : 0 < T.2.2.2 := Nat.pos_of_ne_zero fun x => a0 (by unfold mtA; rw [if_pos rfl, if_pos x])
      refine ⟨fun q hq => ?_, fun x => absurd x (Nat.lt_irrefl _)⟩
      have hq : q < T.2.1 + 1 := hq
      by_cases e : q = T.2.1
      · obtain ⟨l, hl, hg⟩ := h.2 t0
        refine ⟨l, by omega, ?_⟩
        show 0 < bgT T.1 (T.2.1 + 1) 6 (6 * q + l)
        rw [bgT_at 6 (Nat.le_refl _), if_neg (by omega), e]
        exact hg
      · obtain ⟨l, hl, hg⟩ := h.1 q (by omega)
        refine ⟨l, hl, ?_⟩
        show 0 < bgT T.1 (T.2.1 + 1) 6 (6 * q + l)
        rw [bgT_at 6 (Nat.le_refl _), if_neg (by omega)]
        exact hg
    · rw [mtS_d a0 q9]
      refine ⟨fun q hq => ?_, fun x => ?_⟩
      · have hq : q < T.2.1 := hq
        obtain ⟨l, hl, hg⟩ := h.1 q hq
        refine ⟨l, hl, ?_⟩
        show 0 < (if 6 * q + l = 6 * T.2.1 + T.2.2.1 then c - 48 else T.1 (6 * q + l))
        rw [if_neg (by omega)]
        exact hg
      · have x : 0 < T.2.2.2 + (c - 48) := x
        by_cases d0 : 0 < c - 48
        · exact ⟨T.2.2.1, Nat.lt_succ_self _, by show 0 < (if 6 * T.2.1 + T.2.2.1 = 6 * T.2.1 + T.2.2.1 then c - 48 else _); rw [if_pos rfl]; exact d0⟩
        · obtain ⟨l, hl, hg⟩ := h.2 (by omega)
          refine ⟨l, Nat.lt_succ_of_lt hl, ?_⟩
          show 0 < (if 6 * T.2.1 + l = 6 * T.2.1 + T.2.2.1 then c - 48 else T.1 (6 * T.2.1 + l))
          rw [if_neg (by omega)]
          exact hg
theorem tp_K (td tx : Nat → Nat) : ∀ i, TP (mtK td tx i)
  | 0 => ⟨fun q hq => absurd hq (Nat.not_lt_zero _), fun x => absurd x (Nat.lt_irrefl _)⟩
  | i + 1 => tp_S (tp_K td tx i) (mtK_inv td tx i).1 (tx i)
theorem aaL_gt {z td : Nat → Nat} {p : Nat} (h5 : z 0 < 6) : ∀ n, n ≤ 6 → ∀ a c, c < 6 → gt (wq (aaL z td p n)) a c = if a = z 0 ∧ c < n then td (6 * p + c) else gt (wq z) a c
  | 0, _, a, c, hc => by rw [if_neg (by omega)]; rfl
  | n + 1, hn, a, c, hc => by
    show gt (wq (uN (aaL z td p n) (11 + 6 * aaL z td p n 0 + n) (td (6 * p + n)))) a c = _
    rw [aaL_lo (by decide), wq_set, gt_uN (by omega) hc h5, aaL_gt h5 n (by omega) a c hc]
    by_cases q : a = z 0 ∧ c = n
    · rw [if_pos q, if_pos (show a = z 0 ∧ c < n + 1 by omega), q.2]
    · rw [if_neg q]
      by_cases x : a = z 0 ∧ c < n
      · rw [if_pos x, if_pos (show a = z 0 ∧ c < n + 1 by omega)]
      · rw [if_neg x, if_neg (show ¬ (a = z 0 ∧ c < n + 1) by omega)]
theorem aaL_hi {z td : Nat → Nat} {p j : Nat} (h5 : z 0 < 6) (hj : 47 ≤ j) : ∀ n, n ≤ 6 → aaL z td p n j = z j
  | 0, _ => rfl
  | n + 1, hn => by
    show (if j = 11 + 6 * aaL z td p n 0 + n then _ else aaL z td p n j) = z j
    rw [aaL_lo (by decide), if_neg (by omega)]
    exact aaL_hi h5 hj n (by omega)
theorem aaP_at {z td : Nat → Nat} : ∀ n, z 0 + n ≤ 6 → (∀ a c, c < 6 → gt (wq (aaP z td n)) a c = if z 0 ≤ a ∧ a < z 0 + n then td (6 * (a - z 0) + c) else gt (wq z) a c) ∧ (∀ a c, c < 6 → gt (tq (aaP z td n)) a c = if z 0 ≤ a ∧ a < z 0 + n then td (6 * (a - z 0) + c) else gt (tq z) a c) ∧ (∀ j, 0 < j → j < 11 → aaP z td n j = z j)
  | 0, _ => ⟨fun a c hc => by rw [if_neg (by omega)]; rfl, fun a c hc => by rw [if_neg (by omega)]; rfl, fun j _ _ => rfl⟩
  | n + 1, hn => by
    obtain ⟨i1, i2, i3⟩ := aaP_at (z := z) (td := td) n (by omega)
    have e0 : aaP z td n 0 = z 0 + n := aaP_0 n
    have f0 : aaL (aaP z td n) td n 6 0 = z 0 + n := (aaL_lo (by decide) 6).trans e0
    have h5 : aaP z td n 0 < 6 := by omega
    have gw : ∀ a c, c < 6 → gt (wq (aaL (aaP z td n) td n 6)) a c = if a = z 0 + n ∧ c < 6 then td (6 * n + c) else gt (wq (aaP z td n)) a c := fun a c hc => by
      rw [aaL_gt h5 6 (Nat.le_refl _) a c hc, e0]
    have tqa : tq (aaL (aaP z td n) td n 6) = tq (aaP z td n) := by
      funext k
      exact aaL_hi h5 (by omega) 6 (Nat.le_refl _)
    refine ⟨fun a c hc => ?_, fun a c hc => ?_, fun j h0 hj => ?_⟩
    · show gt (wq (uN (lpz (aaL (aaP z td n) td n 6) (aaL (aaP z td n) td n 6 0) 6) 0 _)) a c = _
      rw [wq_uN (by decide), gt_lo (z := aaL (aaP z td n) td n 6) (y := lpz (aaL (aaP z td n) td n 6) (aaL (aaP z td n) td n 6 0) 6) hc (fun j hj => lpz_lo hj 6), gw a c hc, i1 a c hc]
      by_cases q : a = z 0 + n
      · rw [if_pos ⟨q, hc⟩, if_pos (by omega), show 6 * (a - z 0) + c = 6 * n + c by omega]
      · rw [if_neg (fun x => q x.1)]
        by_cases x : z 0 ≤ a ∧ a < z 0 + n
        · rw [if_pos x, if_pos (by omega)]
        · rw [if_neg x, if_neg (by omega)]
    · show gt (tq (uN (lpz (aaL (aaP z td n) td n 6) (aaL (aaP z td n) td n 6 0) 6) 0 _)) a c = _
      rw [tq_uN (by decide), f0, lpz_tq (by omega) 6 (Nat.le_refl _) a c hc, tqa, i2 a c hc, show gt (wq (aaL (aaP z td n) td n 6)) (z 0 + n) c = td (6 * n + c) from (gw (z 0 + n) c hc).trans (if_pos ⟨rfl, hc⟩)]
      by_cases q : a = z 0 + n
      · rw [if_pos ⟨q, hc⟩, if_pos (by omega), show 6 * (a - z 0) + c = 6 * n + c by omega]
      · rw [if_neg (fun x => q x.1)]
        by_cases x : z 0 ≤ a ∧ a < z 0 + n
        · rw [if_pos x, if_pos (by omega)]
        · rw [if_neg x, if_neg (by omega)]
    · show (if j = 0 then _ else lpz (aaL (aaP z td n) td n 6) (aaL (aaP z td n) td n 6 0) 6 j) = z j
      rw [if_neg (by omega), lpz_lo (by omega), aaL_lo hj, i3 j h0 hj]
