theorem repr_n {T k : Nat} (h0 : 0 < T) (hT : T < 4503599627370496) (hk : 52 ≤ k) (hk2 : k ≤ 1100) : ∃ m, FP.Core.unitsOf FP.Core.b64 m = T * 2 ^ k ∧ m < 9218868437227405312 := by
  have l1 := Nat.log2_self_le (n := T) (by omega)
  have l2 := Nat.lt_log2_self (n := T)
  have l3 : T.log2 < 52 := (Nat.log2_lt (by omega)).mpr hT
  generalize T.log2 = L at l1 l2 l3
  have p1 : 4503599627370496 ≤ T * 2 ^ (52 - L) := by
    have h := Nat.mul_le_mul_right (2 ^ (52 - L)) l1
    rw [← Nat.pow_add, show L + (52 - L) = 52 by omega] at h
    exact h
  have p2 : T * 2 ^ (52 - L) < 9007199254740992 := by
    have h := (Nat.mul_lt_mul_right (Nat.two_pow_pos (52 - L))).mpr l2
    rw [← Nat.pow_add, show L + 1 + (52 - L) = 53 by omega] at h
    exact h
  refine ⟨(k + L - 51) * 4503599627370496 + (T * 2 ^ (52 - L) - 4503599627370496), ?_, ?_⟩
  · rw [nrm_units (by omega) (by omega), show 4503599627370496 + (T * 2 ^ (52 - L) - 4503599627370496) = T * 2 ^ (52 - L) by omega, Nat.mul_assoc, ← Nat.pow_add, show 52 - L + (k + L - 51 - 1) = k by omega]
  · omega
/-- what lies behind the point, as a whole number -/
theorem frac_bits {x : UInt64} {T : Nat} (hx : x.toNat = 1023 * 4503599627370496 + T) (hT : T < 4503599627370496) : vf_n64 (FP.dsub x FP.dconst1) ∧ vf_n64 (FP.dmul (FP.dsub x FP.dconst1) 4841369599423283200) ∧ FP.d2l (FP.dmul (FP.dsub x FP.dconst1) 4841369599423283200) = lN T := by
  by_cases h0 : T = 0
  · subst h0
    have e : x = FP.dconst1 := UInt64.toNat_inj.mp (by rw [hx, one_nat])
    subst e
    exact ⟨nn_le (by decide +kernel), nn_le (by decide +kernel), by decide +kernel⟩
  · have hT0 : 0 < T := Nat.pos_of_ne_zero h0
    have px := nrm_P hx (by decide) hT
    obtain ⟨c, q, vx⟩ := px.fin
    have fx := FP.Core.val64_fits x
    have f1 := FP.Core.val64_fits 4607182418800017408
    rw [vx] at fx
    rw [v_one] at f1
    have fn : FP.Core.fits FP.Core.b64 (.fin true 4503599627370496 (-52)) := f1
    obtain ⟨sg, n, e, s1, s2, s3⟩ := FP.Core.sum_units fx fn
    have zx : FP.Core.zval FP.Core.b64 (.fin false c q) = (((4503599627370496 + T) * 2 ^ 1022 : Nat) : Int) := by
      have h := px.zmag
      rw [vx, hx, nrm_units (by decide) hT] at h
      show ((FP.Core.zmag FP.Core.b64 (.fin false c q) : Nat) : Int) = _
      rw [h]
    have z1 : FP.Core.zval FP.Core.b64 (.fin true 4503599627370496 (-52)) = -((4503599627370496 * 2 ^ 1022 : Nat) : Int) := by
      show -((4503599627370496 * 2 ^ ((-52 : Int) - FP.Core.b64.qmin).toNat : Nat) : Int) = _
      rw [FP.Core.qmin_b64, show ((-52 : Int) - -1074).toNat = 1022 from rfl]
    rw [zx, z1] at s3
    have pos : 0 < T * 2 ^ 1022 := Nat.mul_pos hT0 (Nat.two_pow_pos _)
    have s4 : FP.Core.signed sg (FP.Core.inUnits n e FP.Core.b64.qmin) = ((T * 2 ^ 1022 : Nat) : Int) := by
      rw [s3, Nat.add_mul]
      generalize 2 ^ 1022 = z
      omega
    have hsg : sg = false := by
      cases sg with
      | false => rfl
      | true =>
        have s4 : -((FP.Core.inUnits n e FP.Core.b64.qmin : Nat) : Int) = ((T * 2 ^ 1022 : Nat) : Int) := s4
        generalize T * 2 ^ 1022 = z at *
        omega
    subst hsg
    have s5 : FP.Core.inUnits n e FP.Core.b64.qmin = T * 2 ^ 1022 := Int.ofNat_inj.mp s4
    obtain ⟨m, um, hm⟩ := repr_n (k := 1022) hT0 hT (by decide) (by decide)
    obtain ⟨m2, um2, hm2⟩ := repr_n (k := 1074) hT0 hT (by decide) (by decide)
    have hw : FP.Core.val64 (FP.dsub x FP.dconst1) = FP.Core.roundRatio FP.Core.b64 false n 1 e := by
      show FP.Core.val64 (FP.Core.dsub x 4607182418800017408) = _
      rw [FP.Core.val64_dsub, vx, v_one]
      show FP.Core.round FP.Core.b64 (FP.Core.exactSum (.fin false c q) (.fin true 4503599627370496 (-52))) = _
      rw [s1]
      rfl
    have a3 : (FP.Core.b64.qmin - FP.Core.b64.qmin).toNat = 0 := by omega
    have ew : (FP.dsub x FP.dconst1).toNat = m := rr_exact hw (by decide) (Int.le_refl _) s2 (Nat.le_of_lt hm) (by rw [s5, um, a3, Nat.pow_zero, Nat.mul_one, Nat.mul_one])
    have pw : dP (FP.dsub x FP.dconst1) := by unfold dP; rw [ew]; exact hm
    obtain ⟨cw, qw, vw⟩ := pw.fin
    have ey := fq_mul vw v_p52
    have a4 : (FP.Core.b64.qmin + 0 - FP.Core.b64.qmin).toNat = 0 := by omega
    have hy : (FP.dmul (FP.dsub x FP.dconst1) 4841369599423283200).toNat = m2 := rr_exact ey (by decide) (Int.le_refl _) (by omega) (Nat.le_of_lt hm2) (by
      rw [pw.zmag, ew, um]
      show T * 2 ^ 1022 * 4503599627370496 * 2 ^ (FP.Core.b64.qmin + 0 - FP.Core.b64.qmin).toNat = _
      rw [a4, um2, a3, Nat.pow_zero, Nat.mul_one, Nat.mul_one, Nat.mul_one, show (4503599627370496 : Nat) = 2 ^ 52 from rfl, Nat.mul_assoc, ← Nat.pow_add])
    have py : dP (FP.dmul (FP.dsub x FP.dconst1) 4841369599423283200) := by unfold dP; rw [hy]; exact hm2
    refine ⟨pw.nn, py.nn, ?_⟩
    obtain ⟨cy, qy, vy⟩ := py.fin
    have zy := py.zmag
    rw [vy, hy, um2] at zy
    have zy : cy * 2 ^ (qy - FP.Core.b64.qmin).toNat = T * 2 ^ 1074 := zy
    have fy := FP.Core.val64_fits (FP.dmul (FP.dsub x FP.dconst1) 4841369599423283200)
    rw [vy] at fy
    have hqy := fy.2.1
    rw [FP.Core.qmin_b64] at zy hqy
    refine FP.Core.d2l_int (a := lN T) ?_
    show FP.Core.Whole (lN T).toInt (FP.Core.val64 (FP.dmul (FP.dsub x FP.dconst1) 4841369599423283200))
    rw [pk_lT (by omega), vy]
    show ((cy * 2 ^ qy.toNat : Nat) : Int) = (T : Int) * ((2 ^ (-qy).toNat : Nat) : Int)
    rw [← Int.natCast_mul]
    refine congrArg Nat.cast ?_
    by_cases hq : 0 ≤ qy
    · rw [show (qy - -1074).toNat = qy.toNat + 1074 by omega, Nat.pow_add, ← Nat.mul_assoc] at zy
      rw [show (-qy).toNat = 0 by omega, Nat.pow_zero, Nat.mul_one]
      exact Nat.eq_of_mul_eq_mul_right (Nat.two_pow_pos 1074) zy
    · have e1 : 1074 = (-qy).toNat + (qy - -1074).toNat := by omega
      rw [show T * 2 ^ 1074 = T * 2 ^ (-qy).toNat * 2 ^ (qy - -1074).toNat by rw [Nat.mul_assoc, ← Nat.pow_add, ← e1]] at zy
      rw [show qy.toNat = 0 by omega, Nat.pow_zero, Nat.mul_one]
      exact Nat.eq_of_mul_eq_mul_right (Nat.two_pow_pos _) zy
