theorem dZ.wide {lo hi lo' hi' : Nat} {x : UInt64} (h : dZ lo hi x) (h1 : lo' ≤ lo) (h2 : hi ≤ hi') : dZ lo' hi' x := h.imp id (fun q => q.wide h1 h2)
theorem d0_P : dP FP.dconst0 := by unfold dP; rw [d0_nat]; decide
theorem flt_Z {n : Nat} (hn : n < 16384) : dZ 945 1147 (FP.i2d (nI n)) := by
  by_cases h : n = 0
  · subst h
    exact Or.inl rfl
  · exact Or.inr ((i2d_B (Nat.pos_of_ne_zero h) hn).wide (by decide) (by decide))
theorem SV.ok.fsZ {S : SV} (h : S.ok) : dZ 945 1147 S.fs := by
  rcases h.2.2.2.2.2.2.2 with q | q
  · exact Or.inl q
  · exact Or.inr ⟨q, h.P1.2⟩
theorem SV.ok.smZ {S : SV} (h : S.ok) : dZ 945 1147 S.sm := by
  by_cases q : S.num = 0
  · rw [(h.2.2.2.2.2.1 q).2.1]; exact Or.inl d0_nat
  · exact Or.inr ⟨(h.2.2.2.2.2.2.1 q).2.1, h.P2.2⟩
theorem SV.ok.share {S : SV} (h : S.ok) {x : UInt64} (hx : dZ 945 1147 x) : S.shOK x ∧ dZ 930 1148 (S.share x) := by
  by_cases q : S.num = 0
  · refine ⟨fun y => absurd q y, ?_⟩
    rw [show S.share x = FP.dconst0 from if_pos q]
    exact Or.inl d0_nat
  · have hb := i2d_B (n := S.num) (Nat.pos_of_ne_zero q) (by have := h.1; omega)
    have hbP := hb.P (by decide)
    have b0 : 0 < (FP.i2d (nI S.num)).toNat := by have := hb.1; omega
    have hl := ddiv_lt (hx.P (by decide)) hbP b0
    refine ⟨fun _ => nn_le hl, ?_⟩
    rw [show S.share x = FP.ddiv x (FP.i2d (nI S.num)) from if_neg q]
    rcases hx with z | z
    · exact Or.inl (ddiv_0 z hbP b0)
    · refine Or.inr ⟨ddiv_lo (lo := 945) (Kb := 1038) (z.P (by decide)) hbP b0 z.1 hb.2 (by decide) (by decide) (by decide), ?_⟩
      have k := ddiv_hi z hb (by decide) (by decide) (by decide)
      rw [show 1147 + (1074 - 52 - 1) - 1023 + 3 = 1148 from rfl] at k
      exact k
theorem SV.ok.sq0 {S : SV} (h : S.ok) : (S.num = 0 → Op.cmpValue (FP.dcmp S.sq FP.dconst0) .l ≤ 0) ∧ (¬ S.num = 0 → ¬ Op.cmpValue (FP.dcmp S.sq FP.dconst0) .l ≤ 0) := by
  have hq := h.P3.P (by decide)
  rw [dle d0_P hq, d0_nat]
  refine ⟨fun q => ?_, fun q => ?_⟩
  · rw [(h.2.2.2.2.2.1 q).2.2.1, d0_nat]; exact Nat.le_refl _
  · have := (h.2.2.2.2.2.2.1 q).1
    omega
theorem sm2_B {x : UInt64} (h : dB 945 1147 x) : dB 867 1272 (FP.dmul x x) := by
  have hp := h.P (by decide)
  have p9 : dP (p2 945) := p2_P (by decide)
  have e9 : (p2 945).toNat ≤ x.toNat := by rw [p2_toNat (by decide)]; exact h.1
  have h1 := dmul_mono p9 hp p9 e9
  have h2 := dmul_mono p9 hp hp e9
  rw [show FP.dmul (p2 945) x = FP.dmul x (p2 945) from FP.Core.dmul_comm _ _] at h2
  refine ⟨Nat.le_trans sq_low (Nat.le_trans h1 h2), ?_⟩
  have h3 := dmul_hi h h (by decide) (by decide)
  rw [show 1147 + 1147 - 1025 + 3 = 1272 from rfl] at h3
  exact h3
theorem SV.ok.ef {S : SV} (h : S.ok) : S.efOK ∧ dZ 633 1429 S.eff := by
  by_cases q : S.num = 0
  · have k := h.sq0.1 q
    refine ⟨⟨fun y => absurd k y, fun y => absurd k y⟩, ?_⟩
    rw [show S.eff = FP.dconst0 from if_pos k]
    exact Or.inl d0_nat
  · have k := h.sq0.2 q
    obtain ⟨q1, q2, -⟩ := h.2.2.2.2.2.2.1 q
    have hs : dB 945 1147 S.sm := ⟨q2, h.P2.2⟩
    have hm := sm2_B hs
    have hq : dB 867 1257 S.sq := ⟨q1, h.P3.2⟩
    have s0 : 0 < S.sq.toNat := by omega
    refine ⟨⟨fun _ => hm.nn (by decide), fun _ => nn_le (ddiv_lt (hm.P (by decide)) (hq.P (by decide)) s0)⟩, ?_⟩
    rw [show S.eff = FP.ddiv (FP.dmul S.sm S.sm) S.sq from if_neg k]
    refine Or.inr ⟨ddiv_lo (lo := 867) (Kb := 1257) (hm.P (by decide)) (hq.P (by decide)) s0 hm.1 hq.2 (by decide) (by decide) (by decide), ?_⟩
    have e := ddiv_hi hm hq (by decide) (by decide) (by decide)
    rw [show 1272 + (1074 - 52 - 1) - 867 + 3 = 1429 from rfl] at e
    exact e
theorem nn_iff {x : UInt64} (h : FP.Core.dIsNaN x = false) : vf_n64 x := by
  have h1 := (FP.Core.ne_nan x).mp ((FP.Core.notNaN_iff x).mp h)
  unfold vf_n64
  rw [UInt64.le_iff_toNat_le, UInt64.toNat_and]
  have e : (0x7fffffffffffffff : UInt64).toNat = 2 ^ 63 - 1 := rfl
  rw [e, Nat.and_two_pow_sub_one_eq_mod]
  exact h1
theorem dP.dfin {x : UInt64} (h : dP x) : FP.Core.DFin x := by
  obtain ⟨c, q, hv⟩ := h.fin
  exact ⟨false, c, q, hv⟩
theorem dsub_nn {x y : UInt64} (hx : dP x) (hy : dP y) : vf_n64 (FP.dsub x y) := nn_iff (FP.Core.dsub_out hx.isNaN hy.dfin)
theorem PV.inv0.m {P : PV} (h : P.inv0) : P.mOK := by
  have ok := h.2.2.2.2.2
  have s1 := ok.share ok.fsZ
  refine ⟨cnt_OK h.1 (-1) P.limit, s1.1, (ok.share (flt_Z (by have := ok.1; have := ok.2.1; omega))).1, (ok.share ok.smZ).1, ok.ef.1, ?_⟩
  exact dsub_nn (s1.2.P (by decide)) ((vO_Z h.1 _ _).P (by decide))
