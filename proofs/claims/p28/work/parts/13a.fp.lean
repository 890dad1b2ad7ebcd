/-! DOUBLES: rounding never swaps two numbers -/
theorem fq_nearest {A A' B : Nat} (hB : 0 < B) (h : A ≤ A') : FP.Core.nearest A B ≤ FP.Core.nearest A' B := by
  obtain ⟨a1, a2, a3⟩ := FP.Core.nearest_spec A B hB
  obtain ⟨b1, b2, b3⟩ := FP.Core.nearest_spec A' B hB
  refine Nat.le_of_not_lt fun hlt => ?_
  generalize FP.Core.nearest A B = m at *
  generalize FP.Core.nearest A' B = m' at *
  have e1 : (2 * m' + 1) * B = 2 * (m' * B) + B := by rw [Nat.add_mul, Nat.one_mul, Nat.mul_assoc]
  have e2 : 2 * m * B = 2 * (m * B) := Nat.mul_assoc _ _ _
  have h1 : (m' + 1) * B ≤ m * B := Nat.mul_le_mul_right B hlt
  rw [Nat.add_mul, Nat.one_mul] at h1
  rw [e1] at b1 b3
  rw [e2] at a2 a3
  have hm : m = m' + 1 := by
    refine Nat.le_antisymm (Nat.le_of_not_lt fun q => ?_) hlt
    have h2 : (m' + 2) * B ≤ m * B := Nat.mul_le_mul_right B q
    rw [Nat.add_mul] at h2
    omega
  have e3 : m * B = m' * B + B := by rw [hm, Nat.add_mul, Nat.one_mul]
  have h3 := a3 (Or.inr (by omega))
  have h4 := b3 (Or.inl (by omega))
  omega
theorem fq_quantum {f : FP.Core.Fmt} {A A' B : Nat} {e : Int} (hA : 0 < A) (hB : 0 < B) (h : A ≤ A') : FP.Core.quantum f A B e ≤ FP.Core.quantum f A' B e := by
  refine Int.not_lt.mp fun q => ?_
  have h1 := FP.Core.quantum_below (f := f) (Nat.lt_of_lt_of_le hA h) hB e
  have h2 := FP.Core.quantum_ge f A' B e
  rcases FP.Core.quantum_not_below (f := f) hA hB e with h3 | h3
  · omega
  · refine h3 (FP.Core.below_mono (a := FP.Core.quantum f A' B e - e + f.p) (by omega) ?_)
    unfold FP.Core.Below at h1 ⊢
    exact Nat.lt_of_le_of_lt (Nat.mul_le_mul_right _ h) h1
/-- a rounded magnitude in the format's least units, infinity being the next number -/
theorem fq_zmag {f : FP.Core.Fmt} (hf : FP.Core.Good f) {s : Bool} {A B : Nat} {e : Int} (hA : 0 < A) (hB : 0 < B) : FP.Core.zmag f (FP.Core.roundRatio f s A B e) = min (FP.Core.nearest (FP.Core.unitsNum A e (FP.Core.quantum f A B e)) (FP.Core.unitsDen B e (FP.Core.quantum f A B e)) * 2 ^ (FP.Core.quantum f A B e - f.qmin).toNat) (f.tails * 2 ^ (f.exps - 2)) := by
  have h0 := FP.Core.nearest_units_le (f := f) hA hB e
  have hq := FP.Core.quantum_ge f A B e
  have hn := FP.Core.quantum_not_below (f := f) hA hB e
  have h1 := FP.Core.two_tails hf
  have h2 := FP.Core.emax_exps hf
  have h3 := FP.Core.qmax_qmin f
  have h4 := FP.Core.emax_pos hf
  have hlow : FP.Core.quantum f A B e = f.qmin ∨ f.tails ≤ FP.Core.nearest (FP.Core.unitsNum A e (FP.Core.quantum f A B e)) (FP.Core.unitsDen B e (FP.Core.quantum f A B e)) := by
    rcases hn with h | h
    · exact Or.inl h
    · refine Or.inr (FP.Core.nearest_ge (FP.Core.unitsDen_pos hB ..) ?_)
      rw [show (f.p : Int) - 1 = ((f.p - 1 : Nat) : Int) by have := hf.2; omega, ← FP.Core.units_below] at h
      exact Nat.le_of_not_lt h
  unfold FP.Core.roundRatio
  rw [if_neg (by omega)]
  unfold FP.Core.roundAt
  generalize FP.Core.quantum f A B e = Q at *
  generalize FP.Core.nearest (FP.Core.unitsNum A e Q) (FP.Core.unitsDen B e Q) = c at *
  have htop : f.tails * 2 ^ (f.exps - 2) = 2 ^ f.p * 2 ^ (f.qmax - f.qmin).toNat := by
    rw [h1, show f.exps - 2 = (f.qmax - f.qmin).toNat + 1 by omega, Nat.pow_succ]
    ac_rfl
  unfold FP.Core.settle FP.Core.bound
  by_cases hc : c < 2 ^ f.p
  · rw [if_pos hc]
    by_cases hQ : Q ≤ f.qmax
    · rw [if_pos hQ]
      refine (Nat.min_eq_left ?_).symm
      rw [htop]
      exact Nat.mul_le_mul (Nat.le_of_lt hc) (Nat.pow_le_pow_right (by decide) (by omega))
    · rw [if_neg hQ]
      refine (Nat.min_eq_right ?_).symm
      have ht : f.tails ≤ c := hlow.resolve_left (by omega)
      refine Nat.mul_le_mul ht (Nat.pow_le_pow_right (by decide) (by omega))
  · rw [if_neg hc]
    have hce : c = 2 ^ f.p := by omega
    have e1 : c * 2 ^ (Q - f.qmin).toNat = f.tails * 2 ^ (Q + 1 - f.qmin).toNat := by
      rw [hce, h1, show (Q + 1 - f.qmin).toNat = (Q - f.qmin).toNat + 1 by omega, Nat.pow_succ]
      ac_rfl
    rw [e1]
    by_cases hQ : Q + 1 ≤ f.qmax
    · rw [if_pos hQ]
      refine (Nat.min_eq_left ?_).symm
      exact Nat.mul_le_mul_left _ (Nat.pow_le_pow_right (by decide) (by omega))
    · rw [if_neg hQ]
      refine (Nat.min_eq_right ?_).symm
      exact Nat.mul_le_mul_left _ (Nat.pow_le_pow_right (by decide) (by omega))
theorem fq_mono {f : FP.Core.Fmt} (hf : FP.Core.Good f) {s t : Bool} {A A' B : Nat} {e : Int} (hB : 0 < B) (h : A ≤ A') : FP.Core.zmag f (FP.Core.roundRatio f s A B e) ≤ FP.Core.zmag f (FP.Core.roundRatio f t A' B e) := by
  by_cases hA : A = 0
  · have e0 : FP.Core.zmag f (FP.Core.roundRatio f s A B e) = 0 := by
      unfold FP.Core.roundRatio
      rw [if_pos hA]
      exact Nat.zero_mul _
    rw [e0]
    exact Nat.zero_le _
  · have hA : 0 < A := Nat.pos_of_ne_zero hA
    have hA' : 0 < A' := Nat.lt_of_lt_of_le hA h
    rw [fq_zmag hf hA hB, fq_zmag hf hA' hB]
    have hq := fq_quantum (f := f) (e := e) hA hB h
    have h0 := FP.Core.nearest_units_le (f := f) hA hB e
    have hn := FP.Core.quantum_not_below (f := f) hA' hB e
    have hg := FP.Core.quantum_ge f A B e
    have h1 := FP.Core.two_tails hf
    have key : FP.Core.nearest (FP.Core.unitsNum A e (FP.Core.quantum f A B e)) (FP.Core.unitsDen B e (FP.Core.quantum f A B e)) * 2 ^ (FP.Core.quantum f A B e - f.qmin).toNat ≤ FP.Core.nearest (FP.Core.unitsNum A' e (FP.Core.quantum f A' B e)) (FP.Core.unitsDen B e (FP.Core.quantum f A' B e)) * 2 ^ (FP.Core.quantum f A' B e - f.qmin).toNat := by
      by_cases hqq : FP.Core.quantum f A B e = FP.Core.quantum f A' B e
      · rw [hqq]
        exact Nat.mul_le_mul_right _ (fq_nearest (FP.Core.unitsDen_pos hB ..) (Nat.mul_le_mul_right _ h))
      · have hlow : f.tails ≤ FP.Core.nearest (FP.Core.unitsNum A' e (FP.Core.quantum f A' B e)) (FP.Core.unitsDen B e (FP.Core.quantum f A' B e)) := by
          rcases hn with q | q
          · omega
          · refine FP.Core.nearest_ge (FP.Core.unitsDen_pos hB ..) ?_
            rw [show (f.p : Int) - 1 = ((f.p - 1 : Nat) : Int) by have := hf.2; omega, ← FP.Core.units_below] at q
            exact Nat.le_of_not_lt q
        generalize FP.Core.quantum f A B e = Q at *
        generalize FP.Core.quantum f A' B e = Q' at *
        refine Nat.le_trans (Nat.mul_le_mul_right _ h0) (Nat.le_trans ?_ (Nat.mul_le_mul_right _ hlow))
        rw [h1, show (Q' - f.qmin).toNat = ((Q' - f.qmin).toNat - ((Q - f.qmin).toNat + 1)) + ((Q - f.qmin).toNat + 1) by omega, Nat.pow_add, Nat.pow_succ]
        have : 2 * f.tails * 2 ^ (Q - f.qmin).toNat = f.tails * (1 * (2 ^ (Q - f.qmin).toNat * 2)) := by rw [Nat.one_mul]; ac_rfl
        rw [this]
        exact Nat.mul_le_mul_left _ (Nat.mul_le_mul_right _ (Nat.two_pow_pos _))
    omega
/-- a product, a quotient by the magnitudes -/
theorem fq_mul {x b : UInt64} {sx t : Bool} {cx d : Nat} {qx r : Int} (hx : FP.Core.val64 x = .fin sx cx qx) (hb : FP.Core.val64 b = .fin t d r) : FP.Core.val64 (FP.dmul x b) = FP.Core.roundRatio FP.Core.b64 (sx != t) (FP.Core.zmag FP.Core.b64 (FP.Core.val64 x) * d) 1 (FP.Core.b64.qmin + r) := by
  have hfit := FP.Core.val64_fits x
  rw [hx] at hfit
  have hq : FP.Core.b64.qmin ≤ qx := hfit.2.1
  show FP.Core.val64 (FP.Core.dmul x b) = _
  rw [FP.Core.val64_dmul, hx, hb]
  show FP.Core.roundRatio FP.Core.b64 (sx != t) (cx * d) 1 (qx + r) = _
  refine FP.Core.roundRatio_congr (by decide) (by decide) ?_
  show cx * d * 1 * 2 ^ (qx + r - (FP.Core.b64.qmin + r)).toNat = cx * 2 ^ (qx - FP.Core.b64.qmin).toNat * d * 1 * 2 ^ (FP.Core.b64.qmin + r - (qx + r)).toNat
  rw [show qx + r - (FP.Core.b64.qmin + r) = qx - FP.Core.b64.qmin by omega, show (FP.Core.b64.qmin + r - (qx + r)).toNat = 0 by omega, Nat.pow_zero]
  ac_rfl
theorem fq_div {x b : UInt64} {sx t : Bool} {cx d : Nat} {qx r : Int} (hx : FP.Core.val64 x = .fin sx cx qx) (hb : FP.Core.val64 b = .fin t d r) (hd : ¬ d = 0) : FP.Core.val64 (FP.ddiv x b) = FP.Core.roundRatio FP.Core.b64 (sx != t) (FP.Core.zmag FP.Core.b64 (FP.Core.val64 x)) d (FP.Core.b64.qmin - r) := by
  have hfit := FP.Core.val64_fits x
  rw [hx] at hfit
  have hq : FP.Core.b64.qmin ≤ qx := hfit.2.1
  show FP.Core.val64 (FP.Core.ddiv x b) = _
  rw [FP.Core.val64_ddiv, hx, hb]
  show (if d = 0 then (if cx = 0 then FP.Core.Datum.nan else FP.Core.Datum.inf (sx != t)) else FP.Core.roundRatio FP.Core.b64 (sx != t) cx d (qx - r)) = _
  rw [if_neg hd]
  refine FP.Core.roundRatio_congr (Nat.pos_of_ne_zero hd) (Nat.pos_of_ne_zero hd) ?_
  show cx * d * 2 ^ (qx - r - (FP.Core.b64.qmin - r)).toNat = cx * 2 ^ (qx - FP.Core.b64.qmin).toNat * d * 2 ^ (FP.Core.b64.qmin - r - (qx - r)).toNat
  rw [show qx - r - (FP.Core.b64.qmin - r) = qx - FP.Core.b64.qmin by omega, show (FP.Core.b64.qmin - r - (qx - r)).toNat = 0 by omega, Nat.pow_zero]
  ac_rfl
/-- positive (or +0) and finite -/
def dP (x : UInt64) : Prop := x.toNat < 9218868437227405312
theorem dP.fin {x : UInt64} (h : dP x) : ∃ c q, FP.Core.val64 x = .fin false c q := by
  unfold dP at h
  have hm : x.toNat % 2 ^ 63 = x.toNat := Nat.mod_eq_of_lt (by omega)
  obtain ⟨s, c, q, hv⟩ := (FP.Core.fin_bits x).mpr (by omega)
  have hs := FP.Core.sign_bits (a := x) (s := s) (Or.inl ⟨c, q, hv⟩)
  cases s with
  | false => exact ⟨c, q, hv⟩
  | true => exact absurd (hs.mp rfl) (by omega)
theorem dP.nn {x : UInt64} (h : dP x) : vf_n64 x := by
  unfold dP at h
  unfold vf_n64
  rw [UInt64.le_iff_toNat_le, UInt64.toNat_and]
  exact Nat.le_trans Nat.and_le_left (Nat.le_of_lt h)
theorem dP.zmag {x : UInt64} (h : dP x) : FP.Core.zmag FP.Core.b64 (FP.Core.val64 x) = FP.Core.unitsOf FP.Core.b64 x.toNat := by
  obtain ⟨c, q, hv⟩ := h.fin
  have e := FP.Core.zmag_bits (a := x) (by rw [hv]; exact FP.Core.Datum.noConfusion)
  unfold dP at h
  rwa [Nat.mod_eq_of_lt (show x.toNat < 2 ^ 63 by omega)] at e
/-- what comes of a rounded magnitude that is not negative: not less than 0, no NaN -/
theorem dP.of_rr {y : UInt64} {A B : Nat} {e : Int} (h : FP.Core.val64 y = FP.Core.roundRatio FP.Core.b64 false A B e) : y.toNat ≤ 9218868437227405312 ∧ FP.Core.zmag FP.Core.b64 (FP.Core.val64 y) = FP.Core.unitsOf FP.Core.b64 y.toNat := by
  have hn : FP.Core.val64 y ≠ .nan := by rw [h]; exact FP.Core.roundRatio_ne_nan _ _ _ _ _
  have h1 := (FP.Core.ne_nan y).mp hn
  have h2 := FP.Core.sgn_bits hn
  rw [h, FP.Core.sgn_roundRatio] at h2
  have h3 : ¬ 2 ^ 63 ≤ y.toNat := fun q => by rw [decide_eq_true q] at h2; cases h2
  have hm : y.toNat % 2 ^ 63 = y.toNat := Nat.mod_eq_of_lt (by omega)
  refine ⟨by omega, ?_⟩
  rw [FP.Core.zmag_bits hn, hm]
theorem dmul_mono {x y b : UInt64} (hx : dP x) (hy : dP y) (hb : dP b) (h : x.toNat ≤ y.toNat) : (FP.dmul x b).toNat ≤ (FP.dmul y b).toNat := by
  obtain ⟨cx, qx, vx⟩ := hx.fin
  obtain ⟨cy, qy, vy⟩ := hy.fin
  obtain ⟨d, r, vb⟩ := hb.fin
  have e1 := fq_mul vx vb
  have e2 := fq_mul vy vb
  obtain ⟨-, z1⟩ := dP.of_rr e1
  obtain ⟨-, z2⟩ := dP.of_rr e2
  have key := fq_mono FP.Core.good_b64 (s := false) (t := false) (A := FP.Core.zmag FP.Core.b64 (FP.Core.val64 x) * d) (A' := FP.Core.zmag FP.Core.b64 (FP.Core.val64 y) * d) (B := 1) (e := FP.Core.b64.qmin + r) (by decide) (Nat.mul_le_mul_right _ (by rw [hx.zmag, hy.zmag]; exact FP.Core.unitsOf_le_iff.mpr h))
  have k1 : FP.Core.zmag FP.Core.b64 (FP.Core.val64 (FP.dmul x b)) ≤ FP.Core.zmag FP.Core.b64 (FP.Core.val64 (FP.dmul y b)) := by rw [e1, e2]; exact key
  rw [z1, z2] at k1
  exact FP.Core.unitsOf_le_iff.mp k1
theorem ddiv_mono {x y b : UInt64} (hx : dP x) (hy : dP y) (hb : dP b) (h0 : 0 < b.toNat) (h : x.toNat ≤ y.toNat) : (FP.ddiv x b).toNat ≤ (FP.ddiv y b).toNat := by
  obtain ⟨cx, qx, vx⟩ := hx.fin
  obtain ⟨cy, qy, vy⟩ := hy.fin
  obtain ⟨d, r, vb⟩ := hb.fin
  have hd : ¬ d = 0 := by
    intro q
    have e := hb.zmag
    rw [vb, q] at e
    have e0 : FP.Core.unitsOf FP.Core.b64 b.toNat = 0 := e.symm.trans (Nat.zero_mul _)
    have := FP.Core.unitsOf_eq_zero.mp e0
    omega
  have e1 := fq_div vx vb hd
  have e2 := fq_div vy vb hd
  obtain ⟨-, z1⟩ := dP.of_rr e1
  obtain ⟨-, z2⟩ := dP.of_rr e2
  have key := fq_mono FP.Core.good_b64 (s := false) (t := false) (A := FP.Core.zmag FP.Core.b64 (FP.Core.val64 x)) (A' := FP.Core.zmag FP.Core.b64 (FP.Core.val64 y)) (B := d) (e := FP.Core.b64.qmin - r) (Nat.pos_of_ne_zero hd) (by rw [hx.zmag, hy.zmag]; exact FP.Core.unitsOf_le_iff.mpr h)
  have k1 : FP.Core.zmag FP.Core.b64 (FP.Core.val64 (FP.ddiv x b)) ≤ FP.Core.zmag FP.Core.b64 (FP.Core.val64 (FP.ddiv y b)) := by rw [e1, e2]; exact key
  rw [z1, z2] at k1
  exact FP.Core.unitsOf_le_iff.mp k1

