theorem crV_row {P : PV} {v : Nat → Nat} {b : Nat} (hv : rowW P v P.parts) (hb : ¬ (b = 1 ∧ (crS P v P.parts).1 < P.limit)) : crV P v b = (crS P v P.parts).2 := by
  obtain ⟨-, a, c, -⟩ := lfr_spec (fun i => gt P.wt i (v i) = 0) P.parts 0
  unfold crV
  rw [if_neg, if_neg hb]
  intro q
  have q : lfr (fun i => gt P.wt i (v i) = 0) P.parts 0 < P.parts := q
  have h1 := c (by omega)
  have h2 := (hv _ q).2
  omega
theorem crV_cases {P : PV} {v : Nat → Nat} {b : Nat} (h6 : ∀ i, i < P.parts → v i < 6) : crV P v b = FP.dconst0 ∨ (rowW P v P.parts ∧ ¬ (b = 1 ∧ (crS P v P.parts).1 < P.limit) ∧ crV P v b = (crS P v P.parts).2) := by
  obtain ⟨-, a, -, d⟩ := lfr_spec (fun i => gt P.wt i (v i) = 0) P.parts 0
  by_cases q : crF P v < P.parts
  · exact Or.inl (if_pos q)
  · by_cases hb : b = 1 ∧ (crS P v P.parts).1 < P.limit
    · refine Or.inl ?_
      unfold crV
      rw [if_neg q, if_pos hb]
    · refine Or.inr ⟨fun i hi => ⟨h6 i hi, ?_⟩, hb, ?_⟩
      · have q : ¬ lfr (fun i => gt P.wt i (v i) = 0) P.parts 0 < P.parts := q
        exact Nat.pos_of_ne_zero (d i (Nat.zero_le _) (by omega))
      · unfold crV
        rw [if_neg q, if_neg hb]
def encR (v : Nat → Nat) : Nat → Nat
  | 0 => 0
  | m + 1 => encR v m * 6 + v m
theorem encR_lt {v : Nat → Nat} : ∀ n, (∀ i, i < n → v i < 6) → encR v n < 6 ^ n
  | 0, _ => (Nat.zero_lt_one : 0 < 1)
  | n + 1, h => by
    have h1 := encR_lt n (fun i hi => h i (by omega))
    have h2 := h n (by omega)
    show encR v n * 6 + v n < 6 ^ (n + 1)
    rw [Nat.pow_succ]
    omega
theorem encR_dig {v : Nat → Nat} : ∀ n, (∀ i, i < n → v i < 6) → ∀ t, t < n → dig (encR v n) t = v (n - 1 - t)
  | 0, _, t, ht => absurd ht (Nat.not_lt_zero _)
  | n + 1, h, t, ht => by
    have h2 := h n (by omega)
    rcases t with _ | t
    · show (encR v n * 6 + v n) % 6 = v (n + 1 - 1 - 0)
      rw [show n + 1 - 1 - 0 = n by omega]
      omega
    · show dig ((encR v n * 6 + v n) / 6) t = v (n + 1 - 1 - (t + 1))
      rw [show (encR v n * 6 + v n) / 6 = encR v n by omega, encR_dig n (fun i hi => h i (by omega)) t (by omega), show n + 1 - 1 - (t + 1) = n - 1 - t by omega]
theorem mxR_spec {P : PV} {b : Nat} (hP : ∀ k, dP (crV P (RWf P.parts k zN) b)) : ∀ m, dP (mxR P b m) ∧ (∀ k, k ≤ m → (crV P (RWf P.parts k zN) b).toNat ≤ (mxR P b m).toNat) ∧ ∃ k, k ≤ m ∧ mxR P b m = crV P (RWf P.parts k zN) b
  | 0 => ⟨hP 0, fun k hk => by rw [show k = 0 by omega]; exact Nat.le_refl _, 0, Nat.le_refl _, rfl⟩
  | m + 1 => by
    obtain ⟨a, c, k, hk, d⟩ := mxR_spec hP m
    have e : mxR P b (m + 1) = if (crV P (RWf P.parts (m + 1) zN) b).toNat ≤ (mxR P b m).toNat then mxR P b m else crV P (RWf P.parts (m + 1) zN) b := dmx_eq a (hP (m + 1))
    rw [e]
    by_cases q : (crV P (RWf P.parts (m + 1) zN) b).toNat ≤ (mxR P b m).toNat
    · rw [if_pos q]
      refine ⟨a, fun i hi => ?_, k, by omega, d⟩
      rcases Nat.lt_or_ge m i with x | x
      · rw [show i = m + 1 by omega]; exact q
      · exact c i x
    · rw [if_neg q]
      refine ⟨hP (m + 1), fun i hi => ?_, m + 1, Nat.le_refl _, rfl⟩
      rcases Nat.lt_or_ge m i with x | x
      · rw [show i = m + 1 by omega]; exact Nat.le_refl _
      · have := c i x; omega
theorem gfrom_spec {P : PV} (h : P.inv0) (lim : Nat) : dZ 945 1132 (gfrom (cfz P P.parts) lim) ∧ (∀ j, lim ≤ j → j < 31 → (cfF P zD P.parts j).toNat ≤ (gfrom (cfz P P.parts) lim).toNat) ∧ (gfrom (cfz P P.parts) lim = FP.dconst0 ∨ ∃ j, lim ≤ j ∧ j < 31 ∧ gfrom (cfz P P.parts) lim = cfF P zD P.parts j) := by
  have h6 := h.1.1
  have hz : ∀ t, t < 31 - lim → dZ 945 1132 (cfz P P.parts (lim + t)) := fun t ht => by
    rcases cf_Z h P.parts (Nat.le_refl _) (lim + t) (by omega) with q | q
    · exact Or.inl q
    · exact Or.inr (q.wide (by omega) (by omega))
  obtain ⟨a, b, c⟩ := mxD_Z (by decide) (31 - lim) hz
  refine ⟨a, fun j h1 h2 => ?_, ?_⟩
  · have := b (j - lim) (by omega)
    rw [show lim + (j - lim) = j by omega] at this
    exact this
  · rcases c with c | ⟨t, ht, c⟩
    · exact Or.inl c
    · exact Or.inr ⟨lim + t, by omega, by omega, c⟩
theorem great_Z {P : PV} (h : P.inv0) (b : Nat) : dZ 945 1132 (vG P b) := (gfrom_spec h _).1
theorem RWf_6 {n k i : Nat} (h : i < n) : RWf n k zN i < 6 := RWf_lt h
/-- going through all rows and going part by part find the same -/
theorem great_eq {P : PV} (h : P.inv0) {b : Nat} (hb : b ≤ 1) : mxR P b (6 ^ P.parts - 1) = vG P b := by
  have h6 := h.1.1
  have cb : ∀ v, rowW P v P.parts → dP (crS P v P.parts).2 := fun v hv => (crS_B h P.parts (Nat.le_refl _) hv).P (by omega)
  have hP : ∀ k, dP (crV P (RWf P.parts k zN) b) := fun k => by
    rcases crV_cases (P := P) (v := RWf P.parts k zN) (b := b) (fun i hi => RWf_6 hi) with q | ⟨q1, -, q3⟩
    · rw [q]; unfold dP; rw [d0_nat]; decide
    · rw [q3]; exact cb _ q1
  obtain ⟨m1, m2, k, hk, m3⟩ := mxR_spec hP (6 ^ P.parts - 1)
  obtain ⟨g1, g2, g3⟩ := gfrom_spec h (if b = 0 then 0 else P.limit)
  have gP : dP (vG P b) := g1.P (by decide)
  refine UInt64.toNat_inj.mp (Nat.le_antisymm ?_ ?_)
  · rw [m3]
    rcases crV_cases (P := P) (v := RWf P.parts k zN) (b := b) (fun i hi => RWf_6 hi) with q | ⟨q1, q2, q3⟩
    · rw [q, d0_nat]; exact Nat.zero_le _
    · rw [q3]
      obtain ⟨u1, u2⟩ := cf_up h P.parts (Nat.le_refl _) q1
      refine Nat.le_trans u2 (g2 _ ?_ (by omega))
      by_cases b0 : b = 0
      · rw [if_pos b0]; exact Nat.zero_le _
      · rw [if_neg b0]
        exact Nat.le_of_not_lt (fun x => q2 ⟨by omega, x⟩)
  · have p0 : 0 < 6 ^ P.parts := Nat.pow_pos (by decide)
    show (gfrom (cfz P P.parts) (if b = 0 then 0 else P.limit)).toNat ≤ _
    rcases g3 with q | ⟨j, j1, j2, q⟩
    · rw [q, d0_nat]; exact Nat.zero_le _
    · rw [q]
      rcases cf_ex h P.parts (Nat.le_refl _) j j2 with z | ⟨v, hv, e1, e2⟩
      · rw [z]; exact Nat.zero_le _
      · have hl := encR_lt (v := v) P.parts (fun i hi => (hv i hi).1)
        have hd := encR_dig (v := v) P.parts (fun i hi => (hv i hi).1)
        have ev : crV P (RWf P.parts (encR v P.parts) zN) b = crV P v b := crV_ext (fun i hi => by
          unfold RWf
          rw [if_pos hi, hd _ (by omega), show P.parts - 1 - (P.parts - 1 - i) = i by omega])
        have hx := m2 (encR v P.parts) (by omega)
        rw [ev, crV_row hv, e2] at hx
        · exact hx
        · intro ⟨x1, x2⟩
          rw [e1] at x2
          rw [if_neg (by omega)] at j1
          omega
