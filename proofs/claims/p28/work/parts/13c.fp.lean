theorem dP.ne {x : UInt64} (h : dP x) : FP.Core.val64 x ≠ .nan := by
  obtain ⟨c, q, hv⟩ := h.fin
  rw [hv]
  exact FP.Core.Datum.noConfusion
theorem dP.lt63 {x : UInt64} (h : dP x) : x.toNat < 2 ^ 63 := by
  unfold dP at h
  omega
theorem cmp_l_le (o : Option Ordering) : Op.cmpValue o .l ≤ 0 ↔ ¬ o = some .gt := by
  rcases o with _ | (_ | _ | _) <;> decide
theorem dle {x y : UInt64} (hx : dP x) (hy : dP y) : Op.cmpValue (FP.dcmp y x) .l ≤ 0 ↔ y.toNat ≤ x.toNat := by
  rw [cmp_l_le]
  show ¬ FP.Core.dcmp y x = some .gt ↔ _
  rw [(FP.Core.mono_bits hy.ne hx.ne hy.lt63 hx.lt63).2.2]
  exact Nat.not_lt
/-- the greater one, by the bits -/
theorem dmx_eq {x y : UInt64} (hx : dP x) (hy : dP y) : dmx x y = if y.toNat ≤ x.toNat then x else y := by
  unfold dmx
  by_cases h : y.toNat ≤ x.toNat
  · rw [if_pos h, if_pos ((dle hx hy).mpr h)]
  · rw [if_neg h, if_neg (fun q => h ((dle hx hy).mp q))]
-- sums
theorem dadd_rr {x y : UInt64} (hx : dP x) (hy : dP y) : ∃ (n : Nat) (e : Int), FP.Core.b64.qmin ≤ e ∧ FP.Core.inUnits n e FP.Core.b64.qmin = FP.Core.unitsOf FP.Core.b64 x.toNat + FP.Core.unitsOf FP.Core.b64 y.toNat ∧ FP.Core.val64 (FP.dadd x y) = FP.Core.roundRatio FP.Core.b64 false n 1 e := by
  obtain ⟨c, q, vx⟩ := hx.fin
  obtain ⟨d, r, vy⟩ := hy.fin
  have fx := FP.Core.val64_fits x
  have fy := FP.Core.val64_fits y
  have zx := hx.zmag
  have zy := hy.zmag
  rw [vx] at fx zx
  rw [vy] at fy zy
  have hq := fx.2.1
  have hr := fy.2.1
  refine ⟨(FP.Core.sumUnits false c q false d r (min q r)).natAbs, min q r, by omega, ?_, ?_⟩
  · rw [← zx, ← zy]
    have e : FP.Core.sumUnits false c q false d r (min q r) = ((FP.Core.inUnits c q (min q r) + FP.Core.inUnits d r (min q r) : Nat) : Int) := rfl
    rw [e, Int.natAbs_natCast]
    show (FP.Core.inUnits c q (min q r) + FP.Core.inUnits d r (min q r)) * 2 ^ (min q r - FP.Core.b64.qmin).toNat = _
    rw [Nat.add_mul]
    rw [← FP.Core.inUnits_move c (q := q) (e := FP.Core.b64.qmin) (r := min q r) (by omega) (by omega), ← FP.Core.inUnits_move d (q := r) (e := FP.Core.b64.qmin) (r := min q r) (by omega) (by omega)]
    rfl
  · show FP.Core.val64 (FP.Core.dadd x y) = _
    rw [FP.Core.val64_dadd, vx, vy]
    show FP.Core.roundRatio FP.Core.b64 (FP.Core.sumSign false false (FP.Core.sumUnits false c q false d r (min q r))) (FP.Core.sumUnits false c q false d r (min q r)).natAbs 1 (min q r) = _
    have e : FP.Core.sumUnits false c q false d r (min q r) = ((FP.Core.inUnits c q (min q r) + FP.Core.inUnits d r (min q r) : Nat) : Int) := rfl
    have es : FP.Core.sumSign false false (FP.Core.sumUnits false c q false d r (min q r)) = false := by
      rw [e]
      unfold FP.Core.sumSign
      split
      · rfl
      · exact decide_eq_false (by omega)
    rw [es]
theorem dadd_le {x y : UInt64} {m : Nat} (hx : dP x) (hy : dP y) (h : FP.Core.unitsOf FP.Core.b64 x.toNat + FP.Core.unitsOf FP.Core.b64 y.toNat ≤ FP.Core.unitsOf FP.Core.b64 m) : (FP.dadd x y).toNat ≤ m := by
  obtain ⟨n, e, h1, h2, h3⟩ := dadd_rr hx hy
  have h4 := (dP.of_rr h3).1
  have h5 := FP.Core.mag_le FP.Core.good_b64 (n := (FP.dadd x y).toNat) (m := m) (e0 := FP.Core.b64.qmin) h3 (by decide) (by omega) h1 (by rw [h2, Int.sub_self, Int.toNat_zero, Nat.pow_zero, Nat.mul_one, Nat.mul_one]; exact h)
  rw [FP.Core.mag_toNat64, Nat.mod_eq_of_lt (by omega)] at h5
  exact h5
theorem dadd_ge {x y : UInt64} {m : Nat} (hx : dP x) (hy : dP y) (hm : m ≤ 9218868437227405312) (h : FP.Core.unitsOf FP.Core.b64 m ≤ FP.Core.unitsOf FP.Core.b64 x.toNat + FP.Core.unitsOf FP.Core.b64 y.toNat) : m ≤ (FP.dadd x y).toNat := by
  obtain ⟨n, e, h1, h2, h3⟩ := dadd_rr hx hy
  have h4 := (dP.of_rr h3).1
  have h5 := FP.Core.mag_ge FP.Core.good_b64 (n := (FP.dadd x y).toNat) (m := m) (e0 := FP.Core.b64.qmin) h3 (by decide) (by omega) h1 (by rw [FP.Core.infBits_b64]; exact hm) (by rw [h2, Int.sub_self, Int.toNat_zero, Nat.pow_zero, Nat.mul_one, Nat.mul_one]; exact h)
  rw [FP.Core.mag_toNat64, Nat.mod_eq_of_lt (by omega)] at h5
  exact h5
theorem dadd_ge_r {x y : UInt64} (hx : dP x) (hy : dP y) : y.toNat ≤ (FP.dadd x y).toNat := dadd_ge hx hy (by have := hy; unfold dP at this; omega) (Nat.le_add_left _ _)
/-- the bits of (2^14 + n) * 2^m least units -/
def bd (m n : Nat) : Nat := (m - 37) * 4503599627370496 + n * 274877906944
theorem bd_units {m n : Nat} (hm : 38 ≤ m) (hn : n < 16384) : FP.Core.unitsOf FP.Core.b64 (bd m n) = (16384 + n) * 2 ^ m := by
  unfold FP.Core.unitsOf bd
  rw [FP.Core.tails_b64, if_neg (by omega)]
  have h1 : ((m - 37) * 4503599627370496 + n * 274877906944) % 2 ^ 52 = n * 274877906944 := by omega
  have h2 : ((m - 37) * 4503599627370496 + n * 274877906944) / 2 ^ 52 = m - 37 := by omega
  rw [h1, h2, show m - 37 - 1 = m - 38 by omega]
  have e : 2 ^ m = 2 ^ 38 * 2 ^ (m - 38) := by rw [← Nat.pow_add]; congr 1; omega
  rw [e, ← Nat.mul_assoc]
  congr 1
  omega
theorem p2_units {k : Nat} (hk : 1 ≤ k) : FP.Core.unitsOf FP.Core.b64 (k * 4503599627370496) = 2 ^ (k + 51) := by
  have h := FP.Core.unitsOf_start (f := FP.Core.b64) hk
  rw [FP.Core.tails_b64] at h
  rw [show (4503599627370496 : Nat) = 2 ^ 52 from rfl, h, ← Nat.pow_add]
  congr 1
  omega
/-- one summand more -/
theorem dadd_bd {x y : UInt64} {k n : Nat} (hk : 1 ≤ k) (hk2 : k ≤ 2000) (hn : n + 1 < 16384) (hx : x.toNat ≤ bd (k + 51) n) (hy : y.toNat ≤ k * 4503599627370496) : (FP.dadd x y).toNat ≤ bd (k + 51) (n + 1) := by
  have px : dP x := by
    unfold dP
    unfold bd at hx
    omega
  have py : dP y := by
    unfold dP
    omega
  refine dadd_le px py ?_
  rw [bd_units (by omega) hn]
  have h1 := FP.Core.unitsOf_le_iff (f := FP.Core.b64).mpr hx
  have h2 := FP.Core.unitsOf_le_iff (f := FP.Core.b64).mpr hy
  rw [bd_units (by omega) (by omega)] at h1
  rw [p2_units hk] at h2
  have e : (16384 + (n + 1)) * 2 ^ (k + 51) = (16384 + n) * 2 ^ (k + 51) + 2 ^ (k + 51) := by rw [← Nat.add_assoc, Nat.add_mul (16384 + n) 1, Nat.one_mul]
  omega
theorem bd_P {k n : Nat} {x : UInt64} (hk : k ≤ 2000) (hn : n < 16384) (h : x.toNat ≤ bd (k + 51) n) : dB 0 (k + 15) x := by
  refine ⟨by rw [Nat.zero_mul]; exact Nat.zero_le _, ?_⟩
  unfold bd at h
  omega
