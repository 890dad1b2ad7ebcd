theorem nn_le {x : UInt64} (h : x.toNat ≤ 9218868437227405312) : vf_n64 x := by
  unfold vf_n64
  rw [UInt64.le_iff_toNat_le, UInt64.toNat_and]
  exact Nat.le_trans Nat.and_le_left h
theorem corr_0 {c : UInt64} {w v t u : Nat} (hc : c.toNat = 0) (hw : 0 < w ∧ w < 10) (hv : 0 < v ∧ v < 595) (ht : 0 < t ∧ t < 55) (hu : 0 < u ∧ u < 100) : corrOK c w v t u ∧ (corr c w v t u).toNat = 0 := by
  have bw : dB 1023 1027 (FP.i2d (nI w)) := i2d_9 w hw.2 hw.1
  have bv : dB 1023 1033 (FP.i2d (nI v)) := i2d_594 v hv.2 hv.1
  have bt : dB 1023 1033 (FP.i2d (nI t)) := i2d_594 t (by omega) ht.1
  have bu : dB 1023 1033 (FP.i2d (nI u)) := i2d_594 u (by omega) hu.1
  have t0 : 0 < (FP.i2d (nI t)).toNat := by have := bt.1; omega
  have u0 : 0 < (FP.i2d (nI u)).toNat := by have := bu.1; omega
  have m0 : ∀ (x b : UInt64), x.toNat = 0 → dP b → (FP.dmul x b).toNat = 0 := by
    intro x b hx hb
    have px : dP x := by unfold dP; omega
    obtain ⟨cx, qx, vx⟩ := px.fin
    obtain ⟨d, q, vb⟩ := hb.fin
    have e1 := fq_mul vx vb
    have z := (dP.of_rr e1).2
    have zx : FP.Core.zmag FP.Core.b64 (FP.Core.val64 x) = 0 := by rw [px.zmag, hx]; exact FP.Core.unitsOf_zero _
    rw [e1, zx, Nat.zero_mul] at z
    have e0 : FP.Core.zmag FP.Core.b64 (FP.Core.roundRatio FP.Core.b64 (false != false) 0 1 (FP.Core.b64.qmin + q)) = 0 := by
      unfold FP.Core.roundRatio
      rw [if_pos rfl]
      exact Nat.zero_mul _
    have e2 : FP.Core.unitsOf FP.Core.b64 (FP.dmul x b).toNat = 0 := z.symm.trans e0
    exact FP.Core.unitsOf_eq_zero.mp e2
  have c1 := m0 _ _ hc (bw.P (by decide))
  have c2 := m0 _ _ c1 (bv.P (by decide))
  have c3 := ddiv_0 c2 (bt.P (by decide)) t0
  have c4 := ddiv_0 c3 (bu.P (by decide)) u0
  have k1 : vf_n64 (FP.dmul c (FP.i2d (nI w))) := nn_le (by rw [c1]; exact Nat.zero_le _)
  have k2 : vf_n64 (FP.dmul (FP.dmul c (FP.i2d (nI w))) (FP.i2d (nI v))) := nn_le (by rw [c2]; exact Nat.zero_le _)
  have k3 : vf_n64 (FP.ddiv (FP.dmul (FP.dmul c (FP.i2d (nI w))) (FP.i2d (nI v))) (FP.i2d (nI t))) := nn_le (by rw [c3]; exact Nat.zero_le _)
  exact ⟨⟨k1, k2, k3, nn_le (by rw [show (corr c w v t u).toNat = 0 from c4]; exact Nat.zero_le _)⟩, c4⟩
theorem PV.inv0.stepZ {P : PV} (h : P.inv0) {p l : Nat} (hp : p < P.parts) (hl : l < 6) (hg : 0 < gt P.tl p l) {c : UInt64} (hc : dZ (1023 - 13 * p) (1024 + 18 * p) c) : corrOK c (gt P.wt p l) (tot P.tl p) (tot P.wt p) (gt P.tl p l) ∧ dZ (1023 - 13 * (p + 1)) (1024 + 18 * (p + 1)) (corr c (gt P.wt p l) (tot P.tl p) (tot P.wt p) (gt P.tl p l)) := by
  rcases hc with hc | hc
  · have h6 := h.1.1
    have k := corr_0 hc ⟨(h.2.2.2.2.1 p l hp hl).mpr hg, Nat.lt_succ_of_le (h.1.2.1 p l (by omega) hl)⟩ (h.tt hp) (h.wt hp) ⟨hg, Nat.lt_succ_of_le (h.2.2.2.1 p l (by omega) hl)⟩
    exact ⟨k.1, Or.inl k.2⟩
  · have k := h.step hp hl hg hc
    exact ⟨k.1, Or.inr k.2⟩
theorem cor_Z {P : PV} (h : P.inv0) {p l : Nat} (hp : p < P.parts) (hl : l < 6) {c : UInt64} (hc : dZ (1023 - 13 * p) (1024 + 18 * p) c) : dZ (1023 - 13 * (p + 1)) (1024 + 18 * (p + 1)) (P.cor c p l) := by
  unfold PV.cor
  by_cases q : tot P.wt p = 0 ∨ gt P.tl p l = 0
  · rw [if_pos q]; exact Or.inl d0_nat
  · rw [if_neg q]; exact (h.stepZ hp hl (by omega) hc).2
theorem mxD_Z {f : Nat → UInt64} {lo hi : Nat} (hh : hi ≤ 2047) : ∀ n, (∀ l, l < n → dZ lo hi (f l)) → dZ lo hi (mxD f n) ∧ (∀ l, l < n → (f l).toNat ≤ (mxD f n).toNat) ∧ (mxD f n = FP.dconst0 ∨ ∃ l, l < n ∧ mxD f n = f l)
  | 0, _ => ⟨Or.inl d0_nat, fun l hl => absurd hl (Nat.not_lt_zero _), Or.inl rfl⟩
  | n + 1, h => by
    obtain ⟨a, b, c⟩ := mxD_Z hh n (fun l hl => h l (Nat.lt_succ_of_lt hl))
    have hn := h n (Nat.lt_succ_self n)
    have e : mxD f (n + 1) = if (f n).toNat ≤ (mxD f n).toNat then mxD f n else f n := dmx_eq (a.P hh) (hn.P hh)
    rw [e]
    by_cases q : (f n).toNat ≤ (mxD f n).toNat
    · rw [if_pos q]
      refine ⟨a, fun l hl => ?_, ?_⟩
      · rcases Nat.lt_or_ge l n with x | x
        · exact b l x
        · rw [show l = n by omega]; exact q
      · rcases c with c | ⟨l, hl, c⟩
        · exact Or.inl c
        · exact Or.inr ⟨l, Nat.lt_succ_of_lt hl, c⟩
    · rw [if_neg q]
      refine ⟨hn, fun l hl => ?_, Or.inr ⟨n, Nat.lt_succ_self n, rfl⟩⟩
      rcases Nat.lt_or_ge l n with x | x
      · have := b l x; omega
      · rw [show l = n by omega]; exact Nat.le_refl _
theorem caP_lt {P : PV} {p j : Nat} {g : Nat → UInt64} (h : j < 31) : caP P p g j = caS P p g j := if_neg (by omega)
theorem cf_Z {P : PV} (h : P.inv0) : ∀ n, n ≤ P.parts → ∀ j, j < 31 → dZ (1023 - 13 * n) (1024 + 18 * n) (cfF P zD n j)
  | 0, _, j, hj => by
    rw [show cfF P zD 0 j = (if j = 0 then FP.dconst1 else FP.dconst0) from if_pos hj]
    split
    · exact Or.inr one_B
    · exact Or.inl d0_nat
  | n + 1, hn, j, hj => by
    have h6 := h.1.1
    have ih := cf_Z h n (by omega)
    rw [show cfF P zD (n + 1) j = caS P n (cfF P zD n) j from caP_lt hj]
    refine (mxD_Z (by omega) 6 (fun l hl => cor_Z h (by omega) hl ?_)).1
    unfold rd
    split
    · exact ih _ (by omega)
    · exact Or.inl d0_nat
theorem rd_Z {P : PV} (h : P.inv0) {p j l : Nat} (hp : p < P.parts) (hj : j < 31) : dZ (1023 - 13 * p) (1024 + 18 * p) (rd (cfz P p) j l) := by
  unfold rd
  split
  · exact cf_Z h p (by omega) _ (by omega)
  · exact Or.inl d0_nat
theorem PV.inv0.cf {P : PV} (h : P.inv0) : P.cfOK := by
  intro p j l hp hj hl q
  exact (h.stepZ hp hl (by omega) (rd_Z h hp hj)).1
/-- a row's parts have ways -/
def rowW (P : PV) (v : Nat → Nat) (n : Nat) : Prop := ∀ i, i < n → v i < 6 ∧ 0 < gt P.wt i (v i)
theorem crS_B {P : PV} (h : P.inv0) {v : Nat → Nat} : ∀ n, n ≤ P.parts → rowW P v n → dB (1023 - 13 * n) (1024 + 18 * n) (crS P v n).2
  | 0, _, _ => one_B
  | n + 1, hn, hv => by
    have h1 := crS_B h n (by omega) (fun i hi => hv i (by omega))
    obtain ⟨a, b⟩ := hv n (by omega)
    exact (h.step (p := n) (by omega) a ((h.2.2.2.2.1 n (v n) (by omega) a).mp b) h1).2
theorem PV.inv0.cr {P : PV} (h : P.inv0) : P.crOK := by
  intro v i hi h1 h2
  have hv : rowW P v (i + 1) := fun j hj => ⟨h1 j (by omega), Nat.pos_of_ne_zero (h2 j (by omega))⟩
  have hb := crS_B h i (by omega) (fun j hj => hv j (by omega))
  obtain ⟨a, b⟩ := hv i (by omega)
  exact (h.step hi a ((h.2.2.2.2.1 i (v i) hi a).mp b) hb).1
