/-- what holds of the samples that are kept -/
def SV.ok (S : SV) : Prop := S.num ≤ 9999 ∧ S.flt ≤ S.num ∧ S.fs.toNat ≤ bd 1183 S.num ∧ S.sm.toNat ≤ bd 1183 S.num ∧ S.sq.toNat ≤ bd 1293 S.num ∧ (S.num = 0 → S.fs = FP.dconst0 ∧ S.sm = FP.dconst0 ∧ S.sq = FP.dconst0 ∧ S.lc = FP.dconst0) ∧ (¬ S.num = 0 → 867 * 4503599627370496 ≤ S.sq.toNat ∧ 945 * 4503599627370496 ≤ S.sm.toNat ∧ dB 945 1132 S.lc) ∧ (S.fs.toNat = 0 ∨ 945 * 4503599627370496 ≤ S.fs.toNat)
theorem d0_nat : FP.dconst0.toNat = 0 := rfl
theorem SV.ok0 {S : SV} (h1 : S.num = 0) (h2 : S.flt = 0) (h3 : S.fs = FP.dconst0) (h4 : S.sm = FP.dconst0) (h5 : S.sq = FP.dconst0) (h6 : S.lc = FP.dconst0) : S.ok := by
  refine ⟨by omega, by omega, ?_, ?_, ?_, fun _ => ⟨h3, h4, h5, h6⟩, fun q => absurd h1 q, Or.inl ?_⟩
  · rw [h3, d0_nat]; exact Nat.zero_le _
  · rw [h4, d0_nat]; exact Nat.zero_le _
  · rw [h5, d0_nat]; exact Nat.zero_le _
  · rw [h3]; exact d0_nat
theorem SV.ok_clr (S : SV) : S.clr.ok := SV.ok0 rfl rfl rfl rfl rfl rfl
theorem sq_low : 867 * 4503599627370496 ≤ (FP.dmul (p2 945) (p2 945)).toNat := by decide +kernel
theorem sq_B {c : UInt64} (h : dB 945 1132 c) : dB 867 1242 (FP.dmul c c) := by
  have hp := h.P (by decide)
  have p9 : dP (p2 945) := p2_P (by decide)
  have e9 : (p2 945).toNat ≤ c.toNat := by rw [p2_toNat (by decide)]; exact h.1
  have h1 := dmul_mono p9 hp p9 e9
  have h2 := dmul_mono p9 hp hp e9
  rw [show FP.dmul (p2 945) c = FP.dmul c (p2 945) from FP.Core.dmul_comm _ _] at h2
  refine ⟨Nat.le_trans sq_low (Nat.le_trans h1 h2), ?_⟩
  have h3 := dmul_hi h h (by decide) (by decide)
  rw [show 1132 + 1132 - 1025 + 3 = 1242 from rfl] at h3
  exact h3
theorem SV.ok.P1 {S : SV} (h : S.ok) : dB 0 1147 S.fs := bd_P (k := 1132) (by decide) (by have := h.1; omega) h.2.2.1
theorem SV.ok.P2 {S : SV} (h : S.ok) : dB 0 1147 S.sm := bd_P (k := 1132) (by decide) (by have := h.1; omega) h.2.2.2.1
theorem SV.ok.P3 {S : SV} (h : S.ok) : dB 0 1257 S.sq := bd_P (k := 1242) (by decide) (by have := h.1; omega) h.2.2.2.2.1
theorem bd_up (m n : Nat) : bd m n ≤ bd m (n + 1) := Nat.add_le_add_left (Nat.mul_le_mul_right _ (Nat.le_succ n)) _
theorem SV.ok_add {S : SV} (h : S.ok) {c : UInt64} (hc : dB 945 1132 c) {b : Nat} (hn : S.num + 1 ≤ 9999) : (S.add c b).ok ∧ (vf_n64 (FP.dadd S.sm c) ∧ vf_n64 (FP.dmul c c) ∧ vf_n64 (FP.dadd S.sq (FP.dmul c c)) ∧ vf_n64 (FP.dadd S.fs c)) := by
  have f1 := h.P1
  have f2 := h.P2
  have f3 := h.P3
  have hq := sq_B hc
  have cP := hc.P (by decide)
  have qP := hq.P (by decide)
  have s1 := dadd_bd (k := 1132) (n := S.num) (by decide) (by decide) (by omega) h.2.2.1 (Nat.le_of_lt hc.2)
  have s2 := dadd_bd (k := 1132) (n := S.num) (by decide) (by decide) (by omega) h.2.2.2.1 (Nat.le_of_lt hc.2)
  have s3 := dadd_bd (k := 1242) (n := S.num) (by decide) (by decide) (by omega) h.2.2.2.2.1 (Nat.le_of_lt hq.2)
  have g1 := dadd_ge_r (f1.P (by decide)) cP
  have g2 := dadd_ge_r (f2.P (by decide)) cP
  have g3 := dadd_ge_r (f3.P (by decide)) qP
  have l1 : 945 * 4503599627370496 ≤ c.toNat := hc.1
  have l3 : 867 * 4503599627370496 ≤ (FP.dmul c c).toNat := hq.1
  refine ⟨⟨hn, ?_, ?_, s2, s3, fun q => absurd q (Nat.succ_ne_zero _), fun _ => ⟨Nat.le_trans l3 g3, Nat.le_trans l1 g2, hc⟩, ?_⟩, (bd_P (k := 1132) (by decide) (by omega) s2).nn (by decide), hq.nn (by decide), (bd_P (k := 1242) (by decide) (by omega) s3).nn (by decide), (bd_P (k := 1132) (by decide) (by omega) s1).nn (by decide)⟩
  · show (if b = 0 then S.flt else S.flt + 1) ≤ S.num + 1
    have := h.2.1
    split <;> omega
  · show (if b = 0 then S.fs else FP.dadd S.fs c).toNat ≤ bd 1183 (S.num + 1)
    split
    · exact Nat.le_trans h.2.2.1 (bd_up _ _)
    · exact s1
  · show (if b = 0 then S.fs else FP.dadd S.fs c).toNat = 0 ∨ 945 * 4503599627370496 ≤ (if b = 0 then S.fs else FP.dadd S.fs c).toNat
    split
    · exact h.2.2.2.2.2.2.2
    · exact Or.inr (Nat.le_trans l1 g1)
/-- what holds of a plant, as far as its parts show it -/
def PV.inv0 (P : PV) : Prop := P.wok ∧ P.limit ≤ 99 ∧ P.seed < 2147483648 ∧ (∀ p l, p < 6 → l < 6 → gt P.tl p l ≤ 99) ∧ (∀ p l, p < P.parts → l < 6 → (0 < gt P.wt p l ↔ 0 < gt P.tl p l)) ∧ P.sv.ok
theorem PV.inv0.wt {P : PV} (h : P.inv0) {p : Nat} (hp : p < P.parts) : 0 < tot P.wt p ∧ tot P.wt p < 55 := by
  obtain ⟨l, hl, hg⟩ := h.1.2.2 p hp
  exact ⟨sumN_pos (f := fun l => gt P.wt p l) hl hg, Nat.lt_succ_of_le (h.1.t54 (by have := h.1.1; omega))⟩
theorem PV.inv0.tpos {P : PV} (h : P.inv0) {p : Nat} (hp : p < P.parts) : ∃ l, l < 6 ∧ 0 < gt P.tl p l := by
  obtain ⟨l, hl, hg⟩ := h.1.2.2 p hp
  exact ⟨l, hl, (h.2.2.2.2.1 p l hp hl).mp hg⟩
theorem PV.inv0.tt {P : PV} (h : P.inv0) {p : Nat} (hp : p < P.parts) : 0 < tot P.tl p ∧ tot P.tl p < 595 := by
  obtain ⟨l, hl, hg⟩ := h.tpos hp
  exact ⟨sumN_pos (f := fun l => gt P.tl p l) hl hg, Nat.lt_succ_of_le (sumN_leN 6 (fun l hl => h.2.2.2.1 p l (by have := h.1.1; omega) hl))⟩
theorem PV.inv0.step {P : PV} (h : P.inv0) {p l : Nat} (hp : p < P.parts) (hl : l < 6) (hg : 0 < gt P.tl p l) {c : UInt64} (hc : dB (1023 - 13 * p) (1024 + 18 * p) c) : corrOK c (gt P.wt p l) (tot P.tl p) (tot P.wt p) (gt P.tl p l) ∧ dB (1023 - 13 * (p + 1)) (1024 + 18 * (p + 1)) (corr c (gt P.wt p l) (tot P.tl p) (tot P.wt p) (gt P.tl p l)) := by
  have h6 := h.1.1
  exact corr_B (by omega) hc ⟨(h.2.2.2.2.1 p l hp hl).mpr hg, Nat.lt_succ_of_le (h.1.2.1 p l (by omega) hl)⟩ (h.tt hp) (h.wt hp) ⟨hg, Nat.lt_succ_of_le (h.2.2.2.1 p l (by omega) hl)⟩
theorem one_B : dB 1023 1024 FP.dconst1 := by
  constructor <;> decide +kernel
theorem PV.inv0.row {P : PV} (h : P.inv0) : ∀ i, i ≤ P.parts → dB (1023 - 13 * i) (1024 + 18 * i) (rowS P i).2.2.2 ∧ (∀ m, m < i → P.corOK (rowS P m).2.2.2 m (dload P.tl m (nxt (rowS P m).1)))
  | 0, _ => ⟨one_B, fun m hm => absurd hm (Nat.not_lt_zero _)⟩
  | i + 1, hi => by
    obtain ⟨b, k⟩ := PV.inv0.row h i (by omega)
    obtain ⟨d6, -, -, dp⟩ := dload_sp4 (tl := P.tl) (p := i) (s := nxt (rowS P i).1) (h.tpos (by omega))
    have hs := h.step (p := i) (by omega) d6 dp b
    have h0 : ¬ (tot P.wt i = 0 ∨ gt P.tl i (dload P.tl i (nxt (rowS P i).1)) = 0) := by
      have := (h.wt (p := i) (by omega)).1
      omega
    refine ⟨?_, fun m hm => ?_⟩
    · show dB _ _ (P.cor (rowS P i).2.2.2 i (dload P.tl i (nxt (rowS P i).1)))
      rw [show P.cor (rowS P i).2.2.2 i (dload P.tl i (nxt (rowS P i).1)) = corr _ _ _ _ _ from if_neg h0]
      exact hs.2
    · rcases Nat.lt_or_ge m i with q | q
      · exact k m q
      · rw [show m = i by omega]
        exact fun _ => hs.1
theorem PV.inv0.rowc {P : PV} (h : P.inv0) : dB 945 1132 (rowS P P.parts).2.2.2 := by
  have h6 := h.1.1
  exact (h.row P.parts (Nat.le_refl _)).1.wide (by omega) (by omega)
theorem PV.inv0.ok2 {P : PV} (h : P.inv0) (ht : ∀ j, P.tl j ≤ 99) (hn : P.sv.num + 1 ≤ 9999) : P.rowOK2 :=
  ⟨h.1.1, h.2.1, trivial, ht, fun p hp => h.tpos hp, h.2.2.1, (h.row P.parts (Nat.le_refl _)).2, (SV.ok_add h.2.2.2.2.2 h.rowc (b := 0) hn).2⟩
theorem PV.inv0.ok1 {P : PV} (h : P.inv0) (hw : ∀ j, P.wt j ≤ 9) (ht : ∀ j, P.tl j ≤ 99) (hn : P.sv.num + 1 ≤ 9999) : P.rowOK := by
  obtain ⟨a, b, -, d, e, f, g, k⟩ := h.ok2 ht hn
  exact ⟨a, b, hw, d, e, f, g, k⟩
theorem PV.inv0.draw {P : PV} (h : P.inv0) (hn : P.sv.num + 1 ≤ 9999) : P.drawRow.inv0 := by
  refine ⟨h.1, h.2.1, rowS_sd h.2.2.1 P.parts, h.2.2.2.1, h.2.2.2.2.1, ?_⟩
  have hs : (P.rowP P.parts).sv.ok := h.2.2.2.2.2
  exact (SV.ok_add hs h.rowc (b := P.isF) hn).1
theorem PV.inv0.draws {P : PV} (h : P.inv0) : ∀ i, P.sv.num + i ≤ 9999 → (drN P i).inv0 ∧ (drN P i).sv.num = P.sv.num + i
  | 0, _ => ⟨h, rfl⟩
  | i + 1, hi => by
    obtain ⟨a, b⟩ := PV.inv0.draws h i (by omega)
    refine ⟨a.draw (by omega), ?_⟩
    show (drN P i).sv.num + 1 = _
    omega

