theorem v_two : FP.Core.val64 4611686018427387904 = .fin false 4503599627370496 (-51) := by decide +kernel
theorem v_one : FP.Core.val64 4607182418800017408 = .fin false 4503599627370496 (-52) := by decide +kernel
theorem v_p52 : FP.Core.val64 4841369599423283200 = .fin false 4503599627370496 0 := by decide +kernel
theorem nrm_units {E T : Nat} (h1 : 1 ≤ E) (hT : T < 4503599627370496) : FP.Core.unitsOf FP.Core.b64 (E * 4503599627370496 + T) = (4503599627370496 + T) * 2 ^ (E - 1) := by
  unfold FP.Core.unitsOf
  rw [FP.Core.tails_b64, if_neg (by omega)]
  have h2 : (E * 4503599627370496 + T) % 2 ^ 52 = T := by omega
  have h3 : (E * 4503599627370496 + T) / 2 ^ 52 = E := by omega
  rw [h2, h3]
/-- a rounded magnitude that is a number of the format -/
theorem rr_exact {y : UInt64} {A B m : Nat} {e e0 : Int} (hn : FP.Core.val64 y = FP.Core.roundRatio FP.Core.b64 false A B e) (hB : 0 < B) (h0 : e0 ≤ FP.Core.b64.qmin) (h0e : e0 ≤ e) (hm : m ≤ 9218868437227405312) (h : FP.Core.inUnits A e e0 = FP.Core.unitsOf FP.Core.b64 m * 2 ^ (FP.Core.b64.qmin - e0).toNat * B) : y.toNat = m := by
  have h4 := (dP.of_rr hn).1
  have h1 := FP.Core.mag_le FP.Core.good_b64 (n := y.toNat) (m := m) hn hB h0 h0e (Nat.le_of_eq h)
  have h2 := FP.Core.mag_ge FP.Core.good_b64 (n := y.toNat) (m := m) hn hB h0 h0e (by rw [FP.Core.infBits_b64]; exact hm) (Nat.le_of_eq h.symm)
  rw [FP.Core.mag_toNat64, Nat.mod_eq_of_lt (by omega)] at h1 h2
  exact Nat.le_antisymm h1 h2
theorem nrm_P {x : UInt64} {E T : Nat} (hx : x.toNat = E * 4503599627370496 + T) (hE : E < 2047) (hT : T < 4503599627370496) : dP x := by
  unfold dP
  omega
theorem ddiv_half {x : UInt64} {E T : Nat} (hx : x.toNat = E * 4503599627370496 + T) (h1 : 2 ≤ E) (hE : E < 2047) (hT : T < 4503599627370496) : (FP.ddiv x 4611686018427387904).toNat = (E - 1) * 4503599627370496 + T := by
  have px := nrm_P hx hE hT
  obtain ⟨c, q, vx⟩ := px.fin
  have e1 := fq_div vx v_two (by decide)
  have hq : FP.Core.b64.qmin = -1074 := FP.Core.qmin_b64
  have a1 : FP.Core.b64.qmin ≤ FP.Core.b64.qmin - -51 := by omega
  have a2 : (FP.Core.b64.qmin - -51 - FP.Core.b64.qmin).toNat = 51 := by omega
  have a3 : (FP.Core.b64.qmin - FP.Core.b64.qmin).toNat = 0 := by omega
  have a4 : (E - 1) * 4503599627370496 + T ≤ 9218868437227405312 := by omega
  refine rr_exact e1 (by decide) (Int.le_refl _) a1 a4 ?_
  rw [px.zmag, hx, nrm_units (by omega) hT, nrm_units (by omega) hT]
  show (4503599627370496 + T) * 2 ^ (E - 1) * 2 ^ (FP.Core.b64.qmin - -51 - FP.Core.b64.qmin).toNat = _
  rw [a2, a3, Nat.pow_zero, Nat.mul_one, show (4503599627370496 : Nat) = 2 ^ 52 from rfl, Nat.mul_assoc, Nat.mul_assoc, ← Nat.pow_add, ← Nat.pow_add, show E - 1 + 51 = E - 1 - 1 + 52 by omega]
theorem dmul_two {x : UInt64} {E T : Nat} (hx : x.toNat = E * 4503599627370496 + T) (h1 : 1 ≤ E) (hE : E < 2046) (hT : T < 4503599627370496) : (FP.dmul x 4611686018427387904).toNat = (E + 1) * 4503599627370496 + T := by
  have px := nrm_P hx (by omega) hT
  obtain ⟨c, q, vx⟩ := px.fin
  have e1 := fq_mul vx v_two
  have hq : FP.Core.b64.qmin = -1074 := FP.Core.qmin_b64
  have a1 : FP.Core.b64.qmin + -51 ≤ FP.Core.b64.qmin := by omega
  have a2 : (FP.Core.b64.qmin + -51 - (FP.Core.b64.qmin + -51)).toNat = 0 := by omega
  have a3 : (FP.Core.b64.qmin - (FP.Core.b64.qmin + -51)).toNat = 51 := by omega
  have a4 : (E + 1) * 4503599627370496 + T ≤ 9218868437227405312 := by omega
  refine rr_exact e1 (by decide) a1 (Int.le_refl _) a4 ?_
  rw [px.zmag, hx, nrm_units h1 hT, nrm_units (by omega) hT]
  show (4503599627370496 + T) * 2 ^ (E - 1) * 4503599627370496 * 2 ^ (FP.Core.b64.qmin + -51 - (FP.Core.b64.qmin + -51)).toNat = _
  rw [a2, a3, Nat.pow_zero, Nat.mul_one, Nat.mul_one, show (4503599627370496 : Nat) = 2 ^ 52 from rfl, Nat.mul_assoc, Nat.mul_assoc, ← Nat.pow_add, ← Nat.pow_add, show E - 1 + 52 = E + 1 - 1 + 51 by omega]
theorem hvS_n {x : UInt64} {E T : Nat} (hx : x.toNat = E * 4503599627370496 + T) (hE : E < 2047) (hT : T < 4503599627370496) : ∀ i, i < E → (hvS x i).toNat = (E - i) * 4503599627370496 + T
  | 0, _ => hx
  | i + 1, hi => by
    have h := hvS_n hx hE hT i (by omega)
    have k := ddiv_half (x := hvS x i) (E := E - i) h (by omega) (by omega) hT
    show (FP.ddiv (hvS x i) 4611686018427387904).toNat = _
    rw [k, show E - i - 1 = E - (i + 1) by omega]
theorem upS_n {x : UInt64} {E T : Nat} (hx : x.toNat = E * 4503599627370496 + T) (h1 : 1 ≤ E) (hT : T < 4503599627370496) : ∀ i, E + i < 2047 → (upS x i).toNat = (E + i) * 4503599627370496 + T
  | 0, _ => hx
  | i + 1, hi => by
    have h := upS_n hx h1 hT i (by omega)
    have k := dmul_two (x := upS x i) (E := E + i) h (by omega) (by omega) hT
    show (FP.dmul (upS x i) 4611686018427387904).toNat = _
    rw [k, show E + i + 1 = E + (i + 1) by omega]
theorem two_P : dP 4611686018427387904 := by unfold dP; decide
theorem two_nat : (4611686018427387904 : UInt64).toNat = 1024 * 4503599627370496 := rfl
theorem one_nat : FP.dconst1.toNat = 1023 * 4503599627370496 := rfl
theorem dc1_P : dP FP.dconst1 := by unfold dP; decide
