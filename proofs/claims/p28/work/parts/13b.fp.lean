/-- between two powers of two, by the exponents' numbers -/
def dB (lo hi : Nat) (x : UInt64) : Prop := lo * 4503599627370496 ≤ x.toNat ∧ x.toNat < hi * 4503599627370496
theorem dB.P {lo hi : Nat} {x : UInt64} (h : dB lo hi x) (hh : hi ≤ 2047) : dP x := by
  have h1 := h.2
  have h2 : hi * 4503599627370496 ≤ 2047 * 4503599627370496 := Nat.mul_le_mul_right _ hh
  unfold dP
  omega
theorem dB.nn {lo hi : Nat} {x : UInt64} (h : dB lo hi x) (hh : hi ≤ 2047) : vf_n64 x := (h.P hh).nn
theorem dB.wide {lo hi lo' hi' : Nat} {x : UInt64} (h : dB lo hi x) (h1 : lo' ≤ lo) (h2 : hi ≤ hi') : dB lo' hi' x :=
  ⟨Nat.le_trans (Nat.mul_le_mul_right _ h1) h.1, Nat.lt_of_lt_of_le h.2 (Nat.mul_le_mul_right _ h2)⟩
theorem dP.mod {x : UInt64} (h : dP x) : x.toNat % 2 ^ 63 = x.toNat := by
  unfold dP at h
  exact Nat.mod_eq_of_lt (by omega)
theorem dP.isNaN {x : UInt64} (h : dP x) : FP.Core.dIsNaN x = false := by
  obtain ⟨c, q, hv⟩ := h.fin
  exact (FP.Core.notNaN_iff x).mpr (by rw [hv]; exact FP.Core.Datum.noConfusion)
theorem dmul_lt {x b : UInt64} (hx : dP x) (hb : dP b) : (FP.dmul x b).toNat ≤ 9218868437227405312 := by
  obtain ⟨cx, qx, vx⟩ := hx.fin
  obtain ⟨d, r, vb⟩ := hb.fin
  exact (dP.of_rr (fq_mul vx vb)).1
theorem dP.ne0 {b : UInt64} {d : Nat} {r : Int} (hb : dP b) (h0 : 0 < b.toNat) (vb : FP.Core.val64 b = .fin false d r) : ¬ d = 0 := by
  intro q
  have e := hb.zmag
  rw [vb, q] at e
  have e0 : FP.Core.unitsOf FP.Core.b64 b.toNat = 0 := e.symm.trans (Nat.zero_mul _)
  have := FP.Core.unitsOf_eq_zero.mp e0
  omega
theorem ddiv_lt {x b : UInt64} (hx : dP x) (hb : dP b) (h0 : 0 < b.toNat) : (FP.ddiv x b).toNat ≤ 9218868437227405312 := by
  obtain ⟨cx, qx, vx⟩ := hx.fin
  obtain ⟨d, r, vb⟩ := hb.fin
  exact (dP.of_rr (fq_div vx vb (hb.ne0 h0 vb))).1
theorem dmul_hi {x b : UInt64} {lo lb K Kb : Nat} (hx : dB lo K x) (hb : dB lb Kb b) (hK : K ≤ 2047) (hKb : Kb ≤ 2047) : (FP.dmul x b).toNat < (K + Kb - 1025 + 3) * 4503599627370496 := by
  have h1 := dmul_lt (hx.P hK) (hb.P hKb)
  have h2 := FP.Core.dmul_mag (a := x) (b := b) (Ka := K) (Kb := Kb) (by rw [(hx.P hK).mod]; exact hx.2) (by rw [(hb.P hKb).mod]; exact hb.2) hK hKb
  have h3 : (FP.dmul x b).toNat % 2 ^ 63 = (FP.dmul x b).toNat := Nat.mod_eq_of_lt (by omega)
  rw [← h3]
  exact h2
theorem ddiv_hi {x b : UInt64} {lo L K Kb : Nat} (hx : dB lo K x) (hb : dB L Kb b) (hK : K ≤ 2047) (hKb : Kb ≤ 2047) (hL : 1 ≤ L) : (FP.ddiv x b).toNat < (K + (1074 - 52 - 1) - L + 3) * 4503599627370496 := by
  have h0 : 0 < b.toNat := by have := hb.1; omega
  have h1 := ddiv_lt (hx.P hK) (hb.P hKb) h0
  have h2 := FP.Core.ddiv_mag (a := x) (b := b) (K := K) (L := L) (by rw [(hx.P hK).mod]; exact hx.2) (by rw [(hb.P hKb).mod]; exact hb.1) (by rw [(hb.P hKb).mod]; exact (hb.wide (Nat.le_refl _) hKb).2) hK hL
  have h3 : (FP.ddiv x b).toNat % 2 ^ 63 = (FP.ddiv x b).toNat := Nat.mod_eq_of_lt (by omega)
  rw [← h3]
  exact h2
theorem one_toNat : (4607182418800017408 : UInt64).toNat = 4607182418800017408 := rfl
theorem one_P : dP 4607182418800017408 := by unfold dP; rw [one_toNat]; omega
/-- a product by what is at least 1 -/
theorem dmul_ge {x b : UInt64} (hx : dP x) (hb : dP b) (h1 : 1023 * 4503599627370496 ≤ b.toNat) : x.toNat ≤ (FP.dmul x b).toNat := by
  have h2 := dmul_mono (x := 4607182418800017408) (y := b) (b := x) one_P hb hx (by rw [one_toNat]; omega)
  rw [show FP.dmul 4607182418800017408 x = x from FP.Core.one_dmul hx.isNaN, show FP.dmul b x = FP.dmul x b from FP.Core.dmul_comm b x] at h2
  exact h2
theorem dmul_B {x b : UInt64} {lo K Kb : Nat} (hx : dB lo K x) (hb : dB 1023 Kb b) (hK : K ≤ 2047) (hKb : Kb ≤ 2047) : dB lo (K + Kb - 1025 + 3) (FP.dmul x b) :=
  ⟨Nat.le_trans hx.1 (dmul_ge (hx.P hK) (hb.P hKb) hb.1), dmul_hi hx hb hK hKb⟩
def p2 (k : Nat) : UInt64 := UInt64.ofNat (k * 4503599627370496)
theorem p2_toNat {k : Nat} (h : k ≤ 2047) : (p2 k).toNat = k * 4503599627370496 := by
  unfold p2
  rw [UInt64.toNat_ofNat']
  exact Nat.mod_eq_of_lt (by omega)
theorem p2_P {k : Nat} (h : k < 2047) : dP (p2 k) := by
  unfold dP
  rw [p2_toNat (by omega)]
  omega
theorem i2d_9 : ∀ k, k < 10 → 0 < k → 1023 * 4503599627370496 ≤ (FP.i2d (nI k)).toNat ∧ (FP.i2d (nI k)).toNat < 1027 * 4503599627370496 := by decide +kernel
theorem i2d_594 : ∀ k, k < 595 → 0 < k → 1023 * 4503599627370496 ≤ (FP.i2d (nI k)).toNat ∧ (FP.i2d (nI k)).toNat < 1033 * 4503599627370496 := by decide +kernel
theorem div_t : ∀ i, i < 6 → ∀ t, t < 55 → 0 < t → (1023 - 13 * i - 6) * 4503599627370496 ≤ (FP.ddiv (p2 (1023 - 13 * i)) (FP.i2d (nI t))).toNat := by decide +kernel
theorem div_u : ∀ i, i < 6 → ∀ u, u < 100 → 0 < u → (1023 - 13 * i - 13) * 4503599627370496 ≤ (FP.ddiv (p2 (1023 - 13 * i - 6)) (FP.i2d (nI u))).toNat := by decide +kernel
theorem ddiv_ge {x b : UInt64} {lo K Kb lo' : Nat} (hx : dB lo K x) (hb : dB 1023 Kb b) (hK : K ≤ 2047) (hKb : Kb ≤ 2047) (hlo : lo < 2047) (hp : lo' * 4503599627370496 ≤ (FP.ddiv (p2 lo) b).toNat) : dB lo' (K + (1074 - 52 - 1) - 1023 + 3) (FP.ddiv x b) := by
  refine ⟨Nat.le_trans hp (ddiv_mono (p2_P hlo) (hx.P hK) (hb.P hKb) ?_ ?_), ddiv_hi hx hb hK hKb (by decide)⟩
  · have := hb.1; omega
  · rw [p2_toNat (by omega)]; exact hx.1
/-- one part more: the bounds of a correction, and none of the four is no number -/
theorem corr_B {c : UInt64} {i w v t u : Nat} (hi : i < 6) (hc : dB (1023 - 13 * i) (1024 + 18 * i) c) (hw : 0 < w ∧ w < 10) (hv : 0 < v ∧ v < 595) (ht : 0 < t ∧ t < 55) (hu : 0 < u ∧ u < 100) : corrOK c w v t u ∧ dB (1023 - 13 * (i + 1)) (1024 + 18 * (i + 1)) (corr c w v t u) := by
  have bw : dB 1023 1027 (FP.i2d (nI w)) := i2d_9 w hw.2 hw.1
  have bv : dB 1023 1033 (FP.i2d (nI v)) := i2d_594 v hv.2 hv.1
  have bt : dB 1023 1033 (FP.i2d (nI t)) := i2d_594 t (by omega) ht.1
  have bu : dB 1023 1033 (FP.i2d (nI u)) := i2d_594 u (by omega) hu.1
  have c1 := dmul_B hc bw (by omega) (by omega)
  have c2 := dmul_B c1 bv (by omega) (by omega)
  have c3 := ddiv_ge c2 bt (by omega) (by omega) (by omega) (div_t i hi t ht.2 ht.1)
  have c4 := ddiv_ge c3 bu (by omega) (by omega) (by omega) (div_u i hi u hu.2 hu.1)
  exact ⟨⟨c1.nn (by omega), c2.nn (by omega), c3.nn (by omega), c4.nn (by omega)⟩, c4.wide (by omega) (by omega)⟩
