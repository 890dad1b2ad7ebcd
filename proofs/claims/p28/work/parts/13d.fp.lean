set_option maxRecDepth 100000 in
/-- the least quotient -/
theorem ddiv_lo {x b : UInt64} {lo Kb : Nat} (hx : dP x) (hb : dP b) (h0 : 0 < b.toNat) (hlo : lo * 4503599627370496 ≤ x.toNat) (hKb : b.toNat < Kb * 4503599627370496) (h1 : 1 ≤ lo) (hK : Kb ≤ lo + 1022) (hK2 : lo + 1023 - Kb ≤ 2047) : (lo + 1023 - Kb) * 4503599627370496 ≤ (FP.ddiv x b).toNat := by
  obtain ⟨cx, qx, vx⟩ := hx.fin
  obtain ⟨d, r, vb⟩ := hb.fin
  have hd := hb.ne0 h0 vb
  have e1 := fq_div vx vb hd
  have h4 := (dP.of_rr e1).1
  have fb := FP.Core.val64_fits b
  rw [vb] at fb
  have hr : FP.Core.b64.qmin ≤ r := fb.2.1
  have hq : FP.Core.b64.qmin = -1074 := FP.Core.qmin_b64
  have a1 : FP.Core.b64.qmin - (r - FP.Core.b64.qmin) ≤ FP.Core.b64.qmin := by omega
  have a2 : FP.Core.b64.qmin - (r - FP.Core.b64.qmin) ≤ FP.Core.b64.qmin - r := by omega
  have t1 : (FP.Core.b64.qmin - (FP.Core.b64.qmin - (r - FP.Core.b64.qmin))).toNat = (r - FP.Core.b64.qmin).toNat := by omega
  have t2 : (FP.Core.b64.qmin - r - (FP.Core.b64.qmin - (r - FP.Core.b64.qmin))).toNat = 1074 := by omega
  have a3 : lo + 1023 - Kb + 51 + (Kb + 51) ≤ lo + 51 + 1074 := by omega
  have a4 : 1 ≤ lo + 1023 - Kb := by omega
  have k1 : 1 ≤ Kb := by omega
  have hmod : (FP.ddiv x b).toNat % 2 ^ 63 = (FP.ddiv x b).toNat := Nat.mod_eq_of_lt (by omega)
  obtain ⟨M, hM⟩ : ∃ M, M = (lo + 1023 - Kb) * 4503599627370496 := ⟨_, rfl⟩
  have uM : FP.Core.unitsOf FP.Core.b64 M = 2 ^ (lo + 1023 - Kb + 51) := by rw [hM]; exact p2_units a4
  have hm : M ≤ FP.Core.infBits FP.Core.b64 := by
    rw [FP.Core.infBits_b64, hM]
    exact Nat.le_trans (Nat.mul_le_mul_right _ hK2) (by decide)
  rw [← hM]
  have zb := hb.zmag
  rw [vb] at zb
  have ub : FP.Core.unitsOf FP.Core.b64 b.toNat < 2 ^ (Kb + 51) := by
    have h := FP.Core.unitsOf_lt (f := FP.Core.b64) hKb
    rw [p2_units k1] at h
    exact h
  have ux : 2 ^ (lo + 51) ≤ FP.Core.unitsOf FP.Core.b64 x.toNat := by
    have h := FP.Core.unitsOf_le_iff (f := FP.Core.b64).mpr hlo
    rw [p2_units h1] at h
    exact h
  rw [← zb] at ub
  have ub : d * 2 ^ (r - FP.Core.b64.qmin).toNat < 2 ^ (Kb + 51) := ub
  have e2 : FP.Core.decode FP.Core.b64 (FP.ddiv x b).toNat = FP.Core.roundRatio FP.Core.b64 (false != false) (FP.Core.zmag FP.Core.b64 (FP.Core.val64 x)) d (FP.Core.b64.qmin - r) := e1
  have h5 := FP.Core.mag_ge FP.Core.good_b64 (m := M) e2 (Nat.pos_of_ne_zero hd) a1 a2 hm (by
    rw [uM, hx.zmag]
    show _ ≤ FP.Core.unitsOf FP.Core.b64 x.toNat * 2 ^ (FP.Core.b64.qmin - r - (FP.Core.b64.qmin - (r - FP.Core.b64.qmin))).toNat
    rw [t1, t2, Nat.mul_assoc, Nat.mul_comm (2 ^ (r - FP.Core.b64.qmin).toNat) d]
    refine Nat.le_trans (Nat.mul_le_mul_left _ (Nat.le_of_lt ub)) (Nat.le_trans ?_ (Nat.mul_le_mul_right _ ux))
    rw [← Nat.pow_add, ← Nat.pow_add]
    exact Nat.pow_le_pow_right (by decide) a3)
  rw [FP.Core.mag_toNat64, hmod] at h5
  exact h5
theorem ddiv_0 {x b : UInt64} (hx : x.toNat = 0) (hb : dP b) (h0 : 0 < b.toNat) : (FP.ddiv x b).toNat = 0 := by
  have px : dP x := by unfold dP; omega
  obtain ⟨cx, qx, vx⟩ := px.fin
  obtain ⟨d, r, vb⟩ := hb.fin
  have e1 := fq_div vx vb (hb.ne0 h0 vb)
  have z := (dP.of_rr e1).2
  have zx : FP.Core.zmag FP.Core.b64 (FP.Core.val64 x) = 0 := by rw [px.zmag, hx]; exact FP.Core.unitsOf_zero _
  rw [e1, zx] at z
  have e0 : FP.Core.zmag FP.Core.b64 (FP.Core.roundRatio FP.Core.b64 (false != false) 0 d (FP.Core.b64.qmin - r)) = 0 := by
    unfold FP.Core.roundRatio
    rw [if_pos rfl]
    exact Nat.zero_mul _
  have e2 : FP.Core.unitsOf FP.Core.b64 (FP.ddiv x b).toNat = 0 := z.symm.trans e0
  exact FP.Core.unitsOf_eq_zero.mp e2
/-- a whole number as a double -/
theorem i2d_B {n : Nat} (h0 : 0 < n) (hn : n < 16384) : dB 1023 1038 (FP.i2d (nI n)) := by
  have e : (nI n).toInt = (n : Int) := nI_toInt (by omega)
  have h1 := FP.Core.i2d_big (v := nI n) (by rw [e]; omega)
  have h2 := FP.Core.fromInt_mag (a := FP.Core.i2d (nI n)) (FP.Core.toNat_i2d (nI n)) (j := 14) (K := 1037) (by rw [e]; omega) (by decide) (by decide)
  have h3 : 0 ≤ (nI n).toInt := by rw [e]; omega
  have hs : (FP.i2d (nI n)).toNat < 2 ^ 63 := by
    have hv : FP.Core.val64 (FP.i2d (nI n)) = FP.Core.roundRatio FP.Core.b64 (decide ((nI n).toInt < 0)) (nI n).toInt.natAbs 1 0 := FP.Core.val64_i2d (nI n)
    rw [decide_eq_false (by omega)] at hv
    have := (dP.of_rr hv).1
    omega
  have hm : (FP.i2d (nI n)).toNat % 2 ^ 63 = (FP.i2d (nI n)).toNat := Nat.mod_eq_of_lt hs
  have h1a : 1023 * 2 ^ 52 ≤ (FP.i2d (nI n)).toNat % 2 ^ 63 := h1.1
  have h2a : (FP.i2d (nI n)).toNat % 2 ^ 63 ≤ 1037 * 2 ^ 52 := h2
  rw [hm] at h1a h2a
  exact ⟨by omega, by omega⟩
theorem l2d_B {n : Nat} (h0 : 0 < n) (hn : n < 34359738368) : dB 1023 1059 (FP.l2d (lN n)) := by
  have e : (lN n).toInt = (n : Int) := pk_lT (by omega)
  have h1 := FP.Core.l2d_big (v := lN n) (by rw [e]; omega)
  have h2 := FP.Core.fromInt_mag (a := FP.Core.l2d (lN n)) (FP.Core.toNat_l2d (lN n)) (j := 35) (K := 1058) (by rw [e]; omega) (by decide) (by decide)
  have h3 : 0 ≤ (lN n).toInt := by rw [e]; omega
  have hs : (FP.l2d (lN n)).toNat < 2 ^ 63 := by
    have hv : FP.Core.val64 (FP.l2d (lN n)) = FP.Core.roundRatio FP.Core.b64 (decide ((lN n).toInt < 0)) (lN n).toInt.natAbs 1 0 := FP.Core.val64_l2d (lN n)
    rw [decide_eq_false (by omega)] at hv
    have := (dP.of_rr hv).1
    omega
  have hm : (FP.l2d (lN n)).toNat % 2 ^ 63 = (FP.l2d (lN n)).toNat := Nat.mod_eq_of_lt hs
  have h1a : 1023 * 2 ^ 52 ≤ (FP.l2d (lN n)).toNat % 2 ^ 63 := h1.1
  have h2a : (FP.l2d (lN n)).toNat % 2 ^ 63 ≤ 1058 * 2 ^ 52 := h2
  rw [hm] at h1a h2a
  exact ⟨by omega, by omega⟩
/-- 0, or between two powers of two -/
def dZ (lo hi : Nat) (x : UInt64) : Prop := x.toNat = 0 ∨ dB lo hi x
theorem dZ.P {lo hi : Nat} {x : UInt64} (h : dZ lo hi x) (hh : hi ≤ 2047) : dP x := by
  rcases h with h | h
  · unfold dP; omega
  · exact h.P hh
theorem odds_Z {a b : Nat} (hb : 0 < b) (hb2 : b < 34359738368) (ha : a < 34359738368) : dZ 987 1060 (FP.ddiv (FP.l2d (lN a)) (FP.l2d (lN b))) := by
  have bb := l2d_B hb hb2
  have b0 : 0 < (FP.l2d (lN b)).toNat := by have := bb.1; omega
  by_cases h : a = 0
  · subst h
    refine Or.inl (ddiv_0 ?_ (bb.P (by decide)) b0)
    rw [show lN 0 = 0 from rfl, show FP.l2d 0 = 0 from FP.Core.l2d_zero]
    rfl
  · have ba := l2d_B (Nat.pos_of_ne_zero h) ha
    refine Or.inr ⟨ddiv_lo (lo := 1023) (Kb := 1059) (ba.P (by decide)) (bb.P (by decide)) b0 ba.1 bb.2 (by decide) (by decide) (by decide), ?_⟩
    have h := ddiv_hi ba bb (by decide) (by decide) (by decide)
    rw [show 1059 + (1074 - 52 - 1) - 1023 + 3 = 1060 from rfl] at h
    exact h

