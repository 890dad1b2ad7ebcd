theorem bOK_n {s : UInt64} {E T : Nat} (hs : s.toNat = E * 4503599627370496 + T) (h1 : 1 ≤ E) (hE : E < 2047) (hT : T < 4503599627370496) : bOK s (E - 1023) (1023 - E) ∧ FP.d2l (FP.dmul (FP.dsub (upS (hvS s (E - 1023)) (1023 - E)) FP.dconst1) 4841369599423283200) = lN T := by
  have hh : ∀ i, i < E → (hvS s i).toNat = (E - i) * 4503599627370496 + T := hvS_n hs hE hT
  have hp : ∀ i, i < E → dP (hvS s i) := fun i hi => nrm_P (hh i hi) (by omega) hT
  have ha : (hvS s (E - 1023)).toNat = (E - (E - 1023)) * 4503599627370496 + T := hh _ (by omega)
  have hu : ∀ i, i ≤ 1023 - E → (upS (hvS s (E - 1023)) i).toNat = (E - (E - 1023) + i) * 4503599627370496 + T := fun i hi => upS_n ha (by omega) hT i (by omega)
  have hf : (upS (hvS s (E - 1023)) (1023 - E)).toNat = 1023 * 4503599627370496 + T := by
    rw [hu _ (Nat.le_refl _), show E - (E - 1023) + (1023 - E) = 1023 by omega]
  have fP := nrm_P hf (by decide) hT
  obtain ⟨f1, f2, f3⟩ := frac_bits hf hT
  refine ⟨⟨by omega, by omega, fun i hi => ⟨?_, ?_⟩, ?_, fun i hi => ⟨?_, ?_⟩, ?_, f1, f2⟩, f3⟩
  · rw [dlt (hp i (by omega)) two_P, hh i (by omega), two_nat]
    omega
  · have k := ddiv_half (hh i (by omega)) (by omega) (by omega) hT
    exact (nrm_P k (by omega) hT).nn
  · rw [dlt (hp _ (by omega)) two_P, ha, two_nat]
    omega
  · have uP := nrm_P (hu i (by omega)) (by omega) hT
    rw [dge uP dc1_P, hu i (by omega), one_nat]
    omega
  · have k := dmul_two (hu i (by omega)) (by omega) (by omega) hT
    exact (nrm_P k (by omega) hT).nn
  · rw [dge fP dc1_P, hf, one_nat]
    omega
theorem nI_up (n : Nat) : nI n + nI 1 = nI (n + 1) := by
  show Int32.ofNat n + Int32.ofNat 1 = Int32.ofNat (n + 1)
  rw [Int32.ofNat_add]
theorem exD_n (a : Nat) : ∀ i, exD (nI a) i + nI i = nI a
  | 0 => by
    show nI a + nI 0 = nI a
    rw [nI_0]
    exact Int32.add_zero _
  | i + 1 => by
    have h := exD_n a i
    show exD (nI a) i + (-1) + nI (i + 1) = nI a
    rw [← nI_up, Int32.add_comm (nI i) (nI 1), ← Int32.add_assoc, Int32.add_assoc (exD (nI a) i) (-1) (nI 1), show (-1 : Int32) + nI 1 = 0 from by decide, Int32.add_zero]
    exact h
theorem exD_E {E : Nat} : exD (nI (E - 1023)) (1023 - E) + nI 1023 = nI E := by
  have h := exD_n (E - 1023) (1023 - E)
  by_cases q : E ≤ 1023
  · have e : nI 1023 = nI (1023 - E) + nI E := by
      show Int32.ofNat 1023 = Int32.ofNat (1023 - E) + Int32.ofNat E
      rw [← Int32.ofNat_add, show 1023 - E + E = 1023 by omega]
    rw [e, ← Int32.add_assoc, h, show E - 1023 = 0 by omega, nI_0, Int32.zero_add]
  · rw [show 1023 - E = 0 by omega]
    show nI (E - 1023) + nI 1023 = nI E
    show Int32.ofNat (E - 1023) + Int32.ofNat 1023 = Int32.ofNat E
    rw [← Int32.ofNat_add, show E - 1023 + 1023 = E by omega]
theorem lN_toNat {n : Nat} (h : n < 2 ^ 64) : (lN n).toBitVec.toNat = n := by
  show (Int64.ofNat n).toBitVec.toNat = n
  rw [Int64.toBitVec_ofNat', BitVec.toNat_ofNat]
  exact Nat.mod_eq_of_lt h
theorem sh_bits {E : Nat} (hE : E < 2048) : lN E <<< ((nI 52).toInt64 &&& 63) = lN (E * 4503599627370496) := by
  rw [show (nI 52).toInt64 &&& 63 = 52 from by decide]
  refine Int64.toBitVec_inj.mp (BitVec.eq_of_toNat_eq ?_)
  rw [Int64.toBitVec_shiftLeft, show (Int64.toBitVec 52).smod 64 = 52#64 from by decide, BitVec.shiftLeft_eq', show (52#64).toNat = 52 from rfl, BitVec.toNat_shiftLeft, lN_toNat (by omega), lN_toNat (by omega), Nat.shiftLeft_eq]
  exact Nat.mod_eq_of_lt (by omega)
theorem or_bits {E T : Nat} (hE : E < 2048) (hT : T < 4503599627370496) : lN (E * 4503599627370496) ||| lN T = lN (E * 4503599627370496 + T) := by
  refine Int64.toBitVec_inj.mp (BitVec.eq_of_toNat_eq ?_)
  rw [Int64.toBitVec_or, BitVec.toNat_or, lN_toNat (by omega), lN_toNat (by omega), lN_toNat (by omega)]
  have h := Nat.two_pow_add_eq_or_of_lt (i := 52) (b := T) hT E
  rw [show (2 : Nat) ^ 52 = 4503599627370496 from rfl, Nat.mul_comm] at h
  exact h.symm
theorem toI64 (x : UInt64) : x.toInt64 = lN x.toNat := by
  refine Int64.toBitVec_inj.mp (BitVec.eq_of_toNat_eq ?_)
  rw [lN_toNat x.toNat_lt]
  rfl
theorem nI_long {n : Nat} (h : n < 2 ^ 31) : (nI n).toInt64 = lN n := by
  refine Int64.toInt_inj.mp ?_
  rw [Int32.toInt_toInt64, nI_toInt h, pk_lT (by omega)]
theorem dcmp0 {x : UInt64} (hx : dP x) : FP.dcmp x FP.dconst0 = some .eq ↔ x.toNat = 0 := by
  have h := (FP.Core.mono_bits hx.ne d0_P.ne hx.lt63 d0_P.lt63).2.1
  rw [d0_nat] at h
  exact h
theorem BO_0 {x : UInt64} (h : x.toNat = 0) : BO x x.toInt64 := by
  have hx : dP x := by unfold dP; omega
  refine Or.inl ⟨(cmp_l_0 _).mpr ((dcmp0 hx).mpr h), ?_⟩
  rw [toI64, h]
theorem bVal_n {s : UInt64} {E T : Nat} (hs : s.toNat = E * 4503599627370496 + T) (h1 : 1 ≤ E) (hE : E < 2047) (hT : T < 4503599627370496) (sgn : Int64) : bVal sgn s (E - 1023) (1023 - E) = sgn ||| lN (E * 4503599627370496) ||| lN T := by
  unfold bVal
  rw [exD_E, (bOK_n hs h1 hE hT).2, nI_long (by omega), sh_bits (by omega)]
theorem BO_p {x : UInt64} {E T : Nat} (hx : x.toNat = E * 4503599627370496 + T) (h1 : 1 ≤ E) (hE : E < 2047) (hT : T < 4503599627370496) : BO x x.toInt64 := by
  have px := nrm_P hx hE hT
  refine Or.inr ⟨fun q => ?_, x, E - 1023, 1023 - E, lN 0, Or.inl ⟨?_, rfl, rfl⟩, (bOK_n hx h1 hE hT).1, ?_⟩
  · have := (dcmp0 px).mp ((cmp_l_0 _).mp q)
    omega
  · rw [dge px d0_P, d0_nat]
    exact Nat.zero_le _
  · rw [bVal_n hx h1 hE hT, show lN 0 = 0 from rfl, Int64.zero_or, or_bits (by omega) hT, toI64, hx]
theorem min_lN : (-9223372036854775808 : Int64) = lN 9223372036854775808 := by decide +kernel
theorem or_sign {E T : Nat} (hE : E < 2048) (hT : T < 4503599627370496) : (-9223372036854775808 : Int64) ||| lN (E * 4503599627370496) ||| lN T = lN (9223372036854775808 + (E * 4503599627370496 + T)) := by
  rw [Int64.or_assoc, or_bits hE hT, min_lN]
  refine Int64.toBitVec_inj.mp (BitVec.eq_of_toNat_eq ?_)
  rw [Int64.toBitVec_or, BitVec.toNat_or, lN_toNat (by omega), lN_toNat (by omega), lN_toNat (by omega)]
  have h := Nat.two_pow_add_eq_or_of_lt (i := 63) (b := E * 4503599627370496 + T) (by omega) 1
  rw [show (2 : Nat) ^ 63 = 9223372036854775808 from rfl, Nat.mul_one] at h
  exact h.symm
theorem dneg_nat {x : UInt64} {n : Nat} (hx : x.toNat = 9223372036854775808 + n) (hn : n < 9223372036854775808) : (FP.dneg x).toNat = n := by
  rw [FP.dneg_xor, UInt64.toNat_xor, hx]
  have h := Nat.two_pow_add_eq_or_of_lt (i := 63) (b := n) hn 1
  rw [show (2 : Nat) ^ 63 = 9223372036854775808 from rfl, Nat.mul_one] at h
  rw [h, show (9223372036854775808 : UInt64).toNat = 2 ^ 63 * 1 from rfl]
  refine Nat.eq_of_testBit_eq fun i => ?_
  rw [Nat.testBit_xor, Nat.testBit_or, Nat.mul_one, show (9223372036854775808 : Nat) = 2 ^ 63 from rfl, Nat.testBit_two_pow]
  by_cases q : 63 = i
  · subst q
    rw [Nat.testBit_lt_two_pow hn]
    decide
  · rw [decide_eq_false q]
    simp
theorem BO_n {x : UInt64} {E T : Nat} (hx : x.toNat = 9223372036854775808 + (E * 4503599627370496 + T)) (h1 : 1 ≤ E) (hE : E < 2047) (hT : T < 4503599627370496) : BO x x.toInt64 := by
  have hd := dneg_nat hx (by omega)
  have nx : FP.Core.val64 x ≠ .nan := (FP.Core.ne_nan x).mpr (by omega)
  have hl : FP.Core.dcmp x FP.dconst0 = some .lt := by
    rw [FP.Core.dcmp_lt_key nx d0_P.ne]
    unfold FP.Core.dkey
    rw [d0_nat, if_pos (by omega), if_neg (by decide)]
    omega
  refine Or.inr ⟨fun q => ?_, FP.dneg x, E - 1023, 1023 - E, -9223372036854775808, Or.inr ⟨?_, rfl, rfl⟩, (bOK_n hd h1 hE hT).1, ?_⟩
  · have q2 : FP.Core.dcmp x FP.dconst0 = some .eq := (cmp_l_0 _).mp q
    rw [hl] at q2
    cases q2
  · rw [cmp_g_ge]
    exact fun q => q hl
  · rw [bVal_n hd h1 hE hT, or_sign (by omega) hT, toI64, hx]
theorem BO_Z {x : UInt64} {lo hi : Nat} (h : dZ lo hi x) (h1 : 1 ≤ lo) (hh : hi ≤ 2047) : BO x x.toInt64 := by
  rcases h with q | q
  · exact BO_0 q
  · have a1 := q.1
    have a2 := q.2
    have b1 : 1 * 4503599627370496 ≤ x.toNat := Nat.le_trans (Nat.mul_le_mul_right _ h1) a1
    have b2 : x.toNat < 2047 * 4503599627370496 := Nat.lt_of_lt_of_le a2 (Nat.mul_le_mul_right _ hh)
    exact BO_p (E := x.toNat / 4503599627370496) (T := x.toNat % 4503599627370496) (by omega) (by omega) (by omega) (by omega)
