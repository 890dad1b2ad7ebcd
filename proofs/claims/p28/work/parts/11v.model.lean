theorem ZP_zP {z : Nat → Nat} {sf : Nat → UInt64} {P : PV} (hw : P.wt = wq z) (ht : P.tl = tq z) (hl : ∀ p, 6 ≤ p → P.sv.ll p = z (5 + p)) : ZP (zP z P) (sfP sf P) = P := by
  have e1 : wq (zP z P) = P.wt := by
    rw [hw]; funext k
    show zP z P (11 + k) = z (11 + k)
    unfold zP
    repeat rw [if_neg (by omega)]
  have e2 : tq (zP z P) = P.tl := by
    rw [ht]; funext k
    show zP z P (47 + k) = z (47 + k)
    unfold zP
    repeat rw [if_neg (by omega)]
  have e3 : (fun p => zP z P (5 + p)) = P.sv.ll := by
    funext p
    show zP z P (5 + p) = P.sv.ll p
    unfold zP
    rw [if_neg (by omega), if_neg (by omega), if_neg (by omega), if_neg (by omega), if_neg (by omega)]
    by_cases h : 5 + p < 11
    · rw [if_pos h, show 5 + p - 5 = p by omega]
    · rw [if_neg h, hl p (by omega)]
  show mkP (wq (zP z P)) (tq (zP z P)) (mkS (fun p => zP z P (5 + p)) P.sv.num P.sv.flt P.sv.fs P.sv.sm P.sv.sq P.sv.lc) P.parts P.limit P.seed = P
  rw [e1, e2, e3]
  rfl
noncomputable def dfl (P : PV) : Nat → Nat
  | 0 => 0
  | i + 1 => dfl P i + (drN P i).isF
theorem drN_keep {P : PV} (h6 : P.parts ≤ 6) : ∀ i, (drN P i).wt = P.wt ∧ (drN P i).tl = P.tl ∧ (drN P i).parts = P.parts ∧ (drN P i).limit = P.limit ∧ ∀ p, 6 ≤ p → (drN P i).sv.ll p = P.sv.ll p
  | 0 => ⟨rfl, rfl, rfl, rfl, fun _ _ => rfl⟩
  | i + 1 => by
    obtain ⟨a, b, c, d, e⟩ := drN_keep h6 i
    exact ⟨a, b, c, d, fun p hp => (rowS_ll (P := drN P i) (drN P i).parts (by omega)).trans (e p hp)⟩
theorem isF_le (P : PV) : P.isF ≤ 1 := by
  unfold PV.isF
  split
  · exact Nat.zero_le _
  · exact Nat.le_refl _
theorem dfl_flt (P : PV) : ∀ i, (drN P i).sv.flt = P.sv.flt + dfl P i
  | 0 => rfl
  | i + 1 => by
    show (if (drN P i).isF = 0 then (drN P i).sv.flt else (drN P i).sv.flt + 1) = P.sv.flt + (dfl P i + (drN P i).isF)
    have h1 := dfl_flt P i
    have h2 := isF_le (drN P i)
    by_cases h : (drN P i).isF = 0
    · rw [if_pos h]; omega
    · rw [if_neg h]; omega
