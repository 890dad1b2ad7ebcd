theorem BO_mod {x : UInt64} (h1 : 4503599627370496 ≤ x.toNat % 9223372036854775808) (h2 : x.toNat % 9223372036854775808 < 2047 * 4503599627370496) : BO x x.toInt64 := by
  have h3 := x.toNat_lt
  by_cases q : x.toNat < 9223372036854775808
  · rw [Nat.mod_eq_of_lt q] at h1 h2
    exact BO_p (E := x.toNat / 4503599627370496) (T := x.toNat % 4503599627370496) (by omega) (by omega) (by omega) (by omega)
  · have e : x.toNat % 9223372036854775808 = x.toNat - 9223372036854775808 := by omega
    rw [e] at h1 h2
    exact BO_n (E := (x.toNat - 9223372036854775808) / 4503599627370496) (T := (x.toNat - 9223372036854775808) % 4503599627370496) (by omega) (by omega) (by omega) (by omega)
theorem dZ_mult {x : UInt64} (h : dZ 900 1200 x) : ∃ k, FP.Core.unitsOf FP.Core.b64 x.toNat = k * 2 ^ 899 := by
  rcases h with q | q
  · rw [q]
    exact ⟨0, by rw [FP.Core.unitsOf_zero, Nat.zero_mul]⟩
  · have a1 := q.1
    obtain ⟨E, T, hx, hT⟩ : ∃ E T, x.toNat = E * 4503599627370496 + T ∧ T < 4503599627370496 := ⟨x.toNat / 4503599627370496, x.toNat % 4503599627370496, by omega, by omega⟩
    have hE : 900 ≤ E := by omega
    refine ⟨(4503599627370496 + T) * 2 ^ (E - 900), ?_⟩
    rw [hx, nrm_units (by omega) hT, Nat.mul_assoc, ← Nat.pow_add, show E - 900 + 899 = E - 1 by omega]
theorem dsub_rr {x y : UInt64} (hx : dP x) (hy : dP y) : ∃ (v : Int) (e : Int), FP.Core.b64.qmin ≤ e ∧ v * ((2 ^ (e - FP.Core.b64.qmin).toNat : Nat) : Int) = ((FP.Core.unitsOf FP.Core.b64 x.toNat : Nat) : Int) - ((FP.Core.unitsOf FP.Core.b64 y.toNat : Nat) : Int) ∧ FP.Core.val64 (FP.dsub x y) = FP.Core.roundRatio FP.Core.b64 (decide (v < 0)) v.natAbs 1 e := by
  obtain ⟨c, q, vx⟩ := hx.fin
  obtain ⟨d, r, vy⟩ := hy.fin
  have fx := FP.Core.val64_fits x
  have fy := FP.Core.val64_fits y
  have zx := hx.zmag
  have zy := hy.zmag
  rw [vx] at fx zx
  rw [vy] at fy zy
  have hq := fx.2.1
  have hr := fy.2.1
  have e0 : FP.Core.sumUnits false c q true d r (min q r) = ((FP.Core.inUnits c q (min q r) : Nat) : Int) - ((FP.Core.inUnits d r (min q r) : Nat) : Int) := rfl
  refine ⟨FP.Core.sumUnits false c q true d r (min q r), min q r, by omega, ?_, ?_⟩
  · rw [e0, ← zx, ← zy, Int.sub_mul, ← Int.natCast_mul, ← Int.natCast_mul]
    rw [← FP.Core.inUnits_move c (q := q) (e := FP.Core.b64.qmin) (r := min q r) (by omega) (by omega), ← FP.Core.inUnits_move d (q := r) (e := FP.Core.b64.qmin) (r := min q r) (by omega) (by omega)]
    rfl
  · show FP.Core.val64 (FP.Core.dsub x y) = _
    rw [FP.Core.val64_dsub, vx, vy]
    show FP.Core.roundRatio FP.Core.b64 (FP.Core.sumSign false true (FP.Core.sumUnits false c q true d r (min q r))) (FP.Core.sumUnits false c q true d r (min q r)).natAbs 1 (min q r) = _
    generalize FP.Core.sumUnits false c q true d r (min q r) = v
    have es : FP.Core.sumSign false true v = decide (v < 0) := by
      unfold FP.Core.sumSign
      split
      · rename_i h
        rw [h]
        rfl
      · rfl
    rw [es]
theorem dsub_BO {x y : UInt64} (hx : dZ 900 1200 x) (hy : dZ 900 1200 y) : BO (FP.dsub x y) (FP.dsub x y).toInt64 := by
  have px := hx.P (by decide)
  have py := hy.P (by decide)
  obtain ⟨v, e, h1, h2, h3⟩ := dsub_rr px py
  obtain ⟨kx, ex⟩ := dZ_mult hx
  obtain ⟨ky, ey⟩ := dZ_mult hy
  by_cases h0 : v = 0
  · subst h0
    have h3 : FP.Core.val64 (FP.dsub x y) = FP.Core.roundRatio FP.Core.b64 false 0 1 e := h3
    have z := (dP.of_rr h3).2
    rw [h3] at z
    have z0 : FP.Core.zmag FP.Core.b64 (FP.Core.roundRatio FP.Core.b64 false 0 1 e) = 0 := by
      unfold FP.Core.roundRatio
      rw [if_pos rfl]
      exact Nat.zero_mul _
    exact BO_0 (FP.Core.unitsOf_eq_zero.mp (z.symm.trans z0))
  · have hN : FP.Core.inUnits v.natAbs e FP.Core.b64.qmin = (((FP.Core.unitsOf FP.Core.b64 x.toNat : Nat) : Int) - ((FP.Core.unitsOf FP.Core.b64 y.toNat : Nat) : Int)).natAbs := by
      rw [← h2, Int.natAbs_mul, Int.natAbs_natCast]
      rfl
    have hbig : 2 ^ 899 ≤ FP.Core.inUnits v.natAbs e FP.Core.b64.qmin := by
      have hpos : 0 < FP.Core.inUnits v.natAbs e FP.Core.b64.qmin := Nat.mul_pos (Int.natAbs_pos.mpr h0) (Nat.two_pow_pos _)
      rw [hN, ex, ey] at hpos ⊢
      have hd : ((kx * 2 ^ 899 : Nat) : Int) - ((ky * 2 ^ 899 : Nat) : Int) = ((kx : Int) - (ky : Int)) * ((2 ^ 899 : Nat) : Int) := by
        rw [Int.natCast_mul, Int.natCast_mul, Int.sub_mul]
      rw [hd, Int.natAbs_mul, Int.natAbs_natCast] at hpos ⊢
      have : 0 < ((kx : Int) - (ky : Int)).natAbs := Nat.pos_of_mul_pos_right hpos
      exact Nat.le_mul_of_pos_left _ this
    have a3 : (FP.Core.b64.qmin - FP.Core.b64.qmin).toNat = 0 := by omega
    have k1 := FP.Core.mag_ge FP.Core.good_b64 (n := (FP.dsub x y).toNat) (m := 848 * 4503599627370496) (e0 := FP.Core.b64.qmin) h3 (by decide) (Int.le_refl _) h1 (by rw [FP.Core.infBits_b64]; decide) (by rw [p2_units (by decide), a3, Nat.pow_zero, Nat.mul_one, Nat.mul_one]; exact hbig)
    have k2 := FP.Core.dsub_mag (a := x) (b := y) (K := 1200) (by rw [px.mod]; rcases hx with q | q; rw [q]; decide; exact q.2) (by rw [py.mod]; rcases hy with q | q; rw [q]; decide; exact q.2) (by decide)
    rw [FP.Core.mag_toNat64] at k1
    have k2 : (FP.dsub x y).toNat % 2 ^ 63 < (1200 + 2) * 2 ^ 52 := k2
    exact BO_mod (by omega) (by omega)
theorem share_Z9 {P : PV} (h : P.inv0) : dZ 900 1200 (P.sv.share P.sv.fs) := (h.2.2.2.2.2.share h.2.2.2.2.2.fsZ).2.wide (by decide) (by decide)
theorem vM_BO {P : PV} (h : P.inv0) : ∀ k, k ≤ 6 → BO (vM P k) (vM P k).toInt64 := by
  intro k hk
  by_cases q : k ≤ 5
  · exact BO_Z (vM_Z h k q) (by decide) (by decide)
  · rw [show k = 6 by omega]
    exact dsub_BO (share_Z9 h) ((vO_Z h.1 (-1) P.limit).wide (by decide) (by decide))
/-- what a digest asks for -/
theorem PV.inv0.d {P : PV} (h : P.inv0) : P.dOK :=
  ⟨h.m, h.cf, fun _ _ => cnt_OK h.1 _ _, cnt_OK h.1 _ _, fun x => cnt_le h.1 (-1) x, vM_BO h, BO_Z (vO_Z h.1 (-1) 5) (by decide) (by decide), BO_Z (great_Z h 1) (by decide) (by decide)⟩
/-- none of the doubles that are told is no number -/
theorem vM_nn {P : PV} (h : P.inv0) (k : Nat) (hk : k ≤ 6) : Op.cmpValue (FP.dcmp (vM P k) (vM P k)) .l = 0 := by
  by_cases q : k ≤ 5
  · exact deq0 ((vM_Z h k q).P (by decide)).ne
  · rw [show k = 6 by omega]
    refine deq0 ((FP.Core.notNaN_iff _).mp ?_)
    exact FP.Core.dsub_out ((share_Z9 h).P (by decide)).isNaN ((vO_Z h.1 (-1) P.limit).P (by decide)).dfin
