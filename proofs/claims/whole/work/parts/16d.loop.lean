/-! THE LAW'S LOOP: from its head to its end -/
theorem sub4 {i Ln : Nat} (hi : i ≤ 4096) (hL : Ln ≤ 2048) : nI Ln - nI 4 < nI i ↔ ¬ i + 4 ≤ Ln := by
  have e : (nI Ln - nI 4).toInt = (Ln : Int) - 4 := by
    rw [Int32.toInt_sub, nI_toInt (by omega), nI_toInt (by omega)]
    apply Int.bmod_eq_of_le <;> omega
  rw [Int32.lt_iff_toInt_lt, e, nI_toInt (by omega)]
  omega
theorem and31 (y : Int32) : ∃ j, j < 32 ∧ (y &&& nI 31) = nI j := by
  refine ⟨(y.toBitVec &&& 31#32).toNat, ?_, ?_⟩
  · rw [BitVec.toNat_and]
    exact Nat.lt_of_le_of_lt Nat.and_le_right (by decide)
  · apply Int32.toBitVec.inj
    show y.toBitVec &&& 31#32 = BitVec.ofNat 32 _
    rw [BitVec.ofNat_toNat, BitVec.setWidth_eq]
set_option maxHeartbeats 4000000 in
set_option maxRecDepth 100000 in
theorem law_step {G : GP} {B : Bd} {b Ln : Nat} {xs : Nat → Int32} (hX : LCtx G B b Ln xs) {x0 m0 oa od i k n j : Nat} (hi : i + 4 ≤ Ln) (hj : j < 32) (hk : k + 20 ≤ 601024) (hn : n + 200 ≤ 7293034) (kk : LAt G B b x0 m0 oa od i 1504 (k + 20) (n + 200))
    {th : Nat} {wC wN : va_W} {fo : Nat → Int64} {fd : Nat → UInt64} (hW : LW G x0 m0 th wC wN) : aW G sL_law B 44 (lawL b x0 m0 oa od i) [.int (nI j)] ((oa, aJ G 1 fo) :: (od, aD G 1 fd) :: (wC ++ wN)) k n := by
  have hB := hX.1
  rcases (show j = 0 ∨ j = 1 ∨ j = 2 ∨ j = 3 ∨ j = 4 ∨ j = 5 ∨ j = 6 ∨ j = 7 ∨ j = 8 ∨ j = 9 ∨ j = 10 ∨ j = 11 ∨ j = 12 ∨ j = 13 ∨ j = 14 ∨ j = 15 ∨ j = 16 ∨ j = 17 ∨ j = 18 ∨ j = 19 ∨ j = 20 ∨ j = 21 ∨ j = 22 ∨ j = 23 ∨ j = 24 ∨ 24 < j by omega) with rfl | rfl | rfl | rfl | rfl | rfl | rfl | rfl | rfl | rfl | rfl | rfl | rfl | rfl | rfl | rfl | rfl | rfl | rfl | rfl | rfl | rfl | rfl | rfl | rfl | h9
  · refine a_tableIn (off := 116) (tgt := 160) hB dL_law_44 (by decide) (by decide) (by decide) (by decide) ?_
    exact lc_addPart hX hi hk hn kk _ _ _ _ _ hW
  · refine a_tableIn (off := 172) (tgt := 216) hB dL_law_44 (by decide) (by decide) (by decide) (by decide) ?_
    exact lc_removePart hX hi hk hn kk _ _ _ _ _ hW
  · refine a_tableIn (off := 228) (tgt := 272) hB dL_law_44 (by decide) (by decide) (by decide) (by decide) ?_
    exact lc_weigh hX hi hk hn kk _ _ _ _ _ hW
  · refine a_tableIn (off := 308) (tgt := 352) hB dL_law_44 (by decide) (by decide) (by decide) (by decide) ?_
    exact lc_tilt hX hi hk hn kk _ _ _ _ _ hW
  · refine a_tableIn (off := 388) (tgt := 432) hB dL_law_44 (by decide) (by decide) (by decide) (by decide) ?_
    exact lc_tiltAll hX hi hk hn kk _ _ _ _ _ hW
  · refine a_tableIn (off := 444) (tgt := 488) hB dL_law_44 (by decide) (by decide) (by decide) (by decide) ?_
    exact lc_limit hX hi hk hn kk _ _ _ _ _ hW
  · refine a_tableIn (off := 500) (tgt := 544) hB dL_law_44 (by decide) (by decide) (by decide) (by decide) ?_
    exact lc_seed hX hi hk hn kk _ _ _ _ _ hW
  · refine a_tableIn (off := 556) (tgt := 600) hB dL_law_44 (by decide) (by decide) (by decide) (by decide) ?_
    exact lc_draw hX hi hk hn kk _ _ _ _ _ hW
  · refine a_tableIn (off := 612) (tgt := 656) hB dL_law_44 (by decide) (by decide) (by decide) (by decide) ?_
    exact lc_forget hX hi hk hn kk _ _ _ _ _ hW
  · refine a_tableIn (off := 625) (tgt := 669) hB dL_law_44 (by decide) (by decide) (by decide) (by decide) ?_
    exact lc_append hX hi hk hn kk _ _ _ _ _ hW
  · refine a_tableIn (off := 681) (tgt := 725) hB dL_law_44 (by decide) (by decide) (by decide) (by decide) ?_
    exact lc_clearBuffer hX hi hk hn kk _ _ _ _ _ hW
  · refine a_tableIn (off := 694) (tgt := 738) hB dL_law_44 (by decide) (by decide) (by decide) (by decide) ?_
    exact lc_firstError hX hi hk hn kk _ _ _ _ _ hW
  · refine a_tableIn (off := 707) (tgt := 751) hB dL_law_44 (by decide) (by decide) (by decide) (by decide) ?_
    exact lc_addAll hX hi hk hn kk _ _ _ _ _ hW
  · refine a_tableIn (off := 751) (tgt := 795) hB dL_law_44 (by decide) (by decide) (by decide) (by decide) ?_
    exact lc_undo hX hi hk hn kk _ _ _ _ _ hW
  · refine a_tableIn (off := 795) (tgt := 839) hB dL_law_44 (by decide) (by decide) (by decide) (by decide) ?_
    exact lc_part hX hi hk hn kk _ _ _ _ _ hW
  · refine a_tableIn (off := 863) (tgt := 907) hB dL_law_44 (by decide) (by decide) (by decide) (by decide) ?_
    by_cases hfl : xs (i + 3) = 0
    · exact lc_weight_0 hX hi hfl hk hn kk _ _ _ _ _ hW
    · exact lc_weight_1 hX hi hfl hk hn kk _ _ _ _ _ hW
  · refine a_tableIn (off := 959) (tgt := 1003) hB dL_law_44 (by decide) (by decide) (by decide) (by decide) ?_
    by_cases hfl : xs (i + 2) = 0
    · exact lc_ways_0 hX hi hfl hk hn kk _ _ _ _ _ hW
    · exact lc_ways_1 hX hi hfl hk hn kk _ _ _ _ _ hW
  · refine a_tableIn (off := 1042) (tgt := 1086) hB dL_law_44 (by decide) (by decide) (by decide) (by decide) ?_
    exact lc_likeliest hX hi hk hn kk _ _ _ _ _ hW
  · refine a_tableIn (off := 1098) (tgt := 1142) hB dL_law_44 (by decide) (by decide) (by decide) (by decide) ?_
    exact lc_count hX hi hk hn kk _ _ _ _ _ hW
  · refine a_tableIn (off := 1154) (tgt := 1198) hB dL_law_44 (by decide) (by decide) (by decide) (by decide) ?_
    exact lc_measure hX hi hk hn kk _ _ _ _ _ hW
  · refine a_tableIn (off := 1231) (tgt := 1275) hB dL_law_44 (by decide) (by decide) (by decide) (by decide) ?_
    exact lc_ifLimit hX hi hk hn kk _ _ _ _ _ hW
  · refine a_tableIn (off := 1308) (tgt := 1352) hB dL_law_44 (by decide) (by decide) (by decide) (by decide) ?_
    exact lc_limitFor hX hi hk hn kk _ _ _ _ _ hW
  · refine a_tableIn (off := 1364) (tgt := 1408) hB dL_law_44 (by decide) (by decide) (by decide) (by decide) ?_
    by_cases hfl : xs (i + 1) = 0
    · exact lc_greatest_0 hX hi hfl hk hn kk _ _ _ _ _ hW
    · exact lc_greatest_1 hX hi hfl hk hn kk _ _ _ _ _ hW
  · refine a_tableIn (off := 1433) (tgt := 1477) hB dL_law_44 (by decide) (by decide) (by decide) (by decide) ?_
    exact lc_slightest hX hi hk hn kk _ _ _ _ _ hW
  · refine a_tableIn (off := 1446) (tgt := 1490) hB dL_law_44 (by decide) (by decide) (by decide) (by decide) ?_
    exact lc_digest hX hi hk hn kk _ _ _ _ _ hW
  · refine a_tableOut (tgt := 1504) hB dL_law_44 (Or.inr ?_) (by decide) ?_
    · rw [nI_toInt (by omega)]
      omega
    · exact aW_widen (by omega) (by omega) (kk _ _ _ _ _ hW)
set_option maxHeartbeats 4000000 in
set_option maxRecDepth 100000 in
theorem law_loop {G : GP} {B : Bd} {b Ln : Nat} {xs : Nat → Int32} (hX : LCtx G B b Ln xs) {x0 m0 oa od : Nat} (kend : ∀ (L : List (Nat × Value)) (ws : va_W) (k n : Nat), k ≤ 601024 → n ≤ 7293034 → aW G sL_law B 1510 L [] ws k n) :
    ∀ j t, t + j = 513 → LAt G B b x0 m0 oa od (4 * t) 28 (60 + 20 * t) (2100 + 200 * t) := by
  obtain ⟨hB, hR, hXs, hbl, hbA, hLn, hF⟩ := id hX
  intro j
  induction j with
  | zero =>
    intro t ht th wC wN fo fd hW
    refine a_iload hB dL_law_28 rfl ?_
    refine a_aload_n hB dL_law_30 rfl ?_
    refine a_slen hB hXs hbl hbA dL_law_31 ?_
    refine a_iconstN (v := 4) hB dL_law_32 (by decide) ?_
    refine a_isub hB dL_law_33 ?_
    refine a_icmp_gt_t (tgt := 1510) hB dL_law_34 (by decide) ((sub4 (by omega) hLn).mpr (by omega)) ?_
    exact kend _ _ _ _ (by omega) (by omega)
  | succ j ih =>
    intro t ht th wC wN fo fd hW
    refine a_iload hB dL_law_28 rfl ?_
    refine a_aload_n hB dL_law_30 rfl ?_
    refine a_slen hB hXs hbl hbA dL_law_31 ?_
    refine a_iconstN (v := 4) hB dL_law_32 (by decide) ?_
    refine a_isub hB dL_law_33 ?_
    by_cases hc : 4 * t + 4 ≤ Ln
    · refine a_icmp_gt_f (tgt := 1510) hB dL_law_34 (by decide) (fun q => (sub4 (by omega) hLn).mp q hc) ?_
      refine a_aload_n hB dL_law_37 rfl ?_
      refine a_iload hB dL_law_38 rfl ?_
      refine a_sld hB hXs hbl hbA (by omega) hLn dL_law_40 ?_
      refine a_bipushN (v := 31) hB dL_law_41 (by decide) ?_
      refine a_iand hB dL_law_43 ?_
      obtain ⟨jj, hj, he⟩ := and31 (xs (4 * t))
      rw [he]
      refine law_step hX hc hj (by omega) (by omega) (fun th2 wC2 wN2 fo2 fd2 hW2 => ?_) hW
      refine a_iincN (b := 4) hB dL_law_1504 rfl (by decide) (by decide) ?_
      refine a_goto (tgt := 28) hB dL_law_1507 (by decide) ?_
      have h := ih (t + 1) (by omega) th2 wC2 wN2 fo2 fd2 hW2
      rw [show 4 * (t + 1) = 4 * t + 4 by omega, show 60 + 20 * (t + 1) = 60 + 20 * t + 20 by omega, show 2100 + 200 * (t + 1) = 2100 + 200 * t + 200 by omega] at h
      exact h
    · refine a_icmp_gt_t (tgt := 1510) hB dL_law_34 (by decide) ((sub4 (by omega) hLn).mpr hc) ?_
      exact kend _ _ _ _ (by omega) (by omega)
