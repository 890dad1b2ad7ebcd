def sX10_addAll : MS := (yX10_addAll, cX10_addAll, 5, (some .int), RX10, 3)
def sX10_addPart : MS := (yX10_addPart, cX10_addPart, 4, (some .int), RX10, 2)
def sX10_addPartWays : MS := (yX10_addPartWays, cX10_addPartWays, 6, none, RX10, 1)
def sX10_append : MS := (yX10_append, cX10_append, 2, (some .int), RX10, 1)
def sX10_beginPart : MS := (yX10_beginPart, cX10_beginPart, 2, none, RX10, 0)
def sX10_bySamples : MS := (yX10_bySamples, cX10_bySamples, 3, (some .double), RX10, 0)
def sX10_clearBuffer : MS := (yX10_clearBuffer, cX10_clearBuffer, 2, (some .int), RX10, 0)
def sX10_corrected : MS := (yX10_corrected, cX10_corrected, 7, (some .double), RX10, 2)
def sX10_correctionOf : MS := (yX10_correctionOf, cX10_correctionOf, 6, (some .double), RX10, 3)
def sX10_count : MS := (yX10_count, cX10_count, 2, (some .int), RX10, 5)
def sX10_counted : MS := (yX10_counted, cX10_counted, 2, (some .int), RX10, 4)
def sX10_digest : MS := (yX10_digest, cX10_digest, 2, (some .long), RX10, 6)
def sX10_draw : MS := (yX10_draw, cX10_draw, 5, (some .int), RX10, 4)
def sX10_drawLoad : MS := (yX10_drawLoad, cX10_drawLoad, 7, (some .int), RX10, 2)
def sX10_drawRow : MS := (yX10_drawRow, cX10_drawRow, 6, (some .int), RX10, 3)
def sX10_effective : MS := (yX10_effective, cX10_effective, 1, (some .double), RX10, 0)
def sX10_endSum : MS := (yX10_endSum, cX10_endSum, 5, (some .int), RX10, 2)
def sX10_firstError : MS := (yX10_firstError, cX10_firstError, 1, (some .int), RX10, 3)
def sX10_forget : MS := (yX10_forget, cX10_forget, 1, (some .int), RX10, 1)
def sX10_forgets : MS := (yX10_forgets, cX10_forgets, 3, (some .int), RX10, 0)
def sX10_goesOn : MS := (yX10_goesOn, cX10_goesOn, 2, (some .boolean), RX10, 0)
def sX10_greatest : MS := (yX10_greatest, cX10_greatest, 2, (some .double), RX10, 5)
def sX10_greatestLoad : MS := (yX10_greatestLoad, cX10_greatestLoad, 3, (some .int), RX10, 1)
def sX10_greatestNow : MS := (yX10_greatestNow, cX10_greatestNow, 6, (some .double), RX10, 4)
def sX10_ifLimit : MS := (yX10_ifLimit, cX10_ifLimit, 2, (some .double), RX10, 4)
def sX10_init : MS := (yX10_init, cX10_init, 1, none, RX10, 1)
def sX10_isLimit : MS := (yX10_isLimit, cX10_isLimit, 1, (some .boolean), RX10, 1)
def sX10_isLoad : MS := (yX10_isLoad, cX10_isLoad, 1, (some .boolean), RX10, 1)
def sX10_isPart : MS := (yX10_isPart, cX10_isPart, 2, (some .boolean), RX10, 1)
def sX10_layMost : MS := (yX10_layMost, cX10_layMost, 6, none, RX10, 2)
def sX10_layPart : MS := (yX10_layPart, cX10_layPart, 3, none, RX10, 1)
def sX10_layWays : MS := (yX10_layWays, cX10_layWays, 3, none, RX10, 2)
def sX10_leastLoad : MS := (yX10_leastLoad, cX10_leastLoad, 3, (some .int), RX10, 1)
def sX10_likeliest : MS := (yX10_likeliest, cX10_likeliest, 2, (some .int), RX10, 5)
def sX10_likeliestLoad : MS := (yX10_likeliestLoad, cX10_likeliestLoad, 5, (some .int), RX10, 4)
def sX10_likeliestWays : MS := (yX10_likeliestWays, cX10_likeliestWays, 1, (some .int), RX10, 3)
def sX10_limit : MS := (yX10_limit, cX10_limit, 4, (some .int), RX10, 2)
def sX10_limitFor : MS := (yX10_limitFor, cX10_limitFor, 2, (some .int), RX10, 4)
def sX10_limitNow : MS := (yX10_limitNow, cX10_limitNow, 3, (some .int), RX10, 3)
def sX10_loadSum : MS := (yX10_loadSum, cX10_loadSum, 5, (some .int), RX10, 1)
def sX10_measure : MS := (yX10_measure, cX10_measure, 2, (some .double), RX10, 5)
def sX10_measured : MS := (yX10_measured, cX10_measured, 2, (some .double), RX10, 4)
def sX10_mix : MS := (yX10_mix, cX10_mix, 3, none, RX10, 0)
def sX10_mixPart : MS := (yX10_mixPart, cX10_mixPart, 3, none, RX10, 5)
def sX10_mostBy : MS := (yX10_mostBy, cX10_mostBy, 5, (some .int), RX10, 1)
def sX10_oddsBy : MS := (yX10_oddsBy, cX10_oddsBy, 3, (some .double), RX10, 3)
def sX10_part : MS := (yX10_part, cX10_part, 3, (some .int), RX10, 3)
def sX10_partNow : MS := (yX10_partNow, cX10_partNow, 3, (some .int), RX10, 2)
def sX10_removeFrom : MS := (yX10_removeFrom, cX10_removeFrom, 4, none, RX10, 0)
def sX10_removePart : MS := (yX10_removePart, cX10_removePart, 3, (some .int), RX10, 2)
def sX10_rightUpTo : MS := (yX10_rightUpTo, cX10_rightUpTo, 2, (some .int), RX10, 2)
def sX10_save : MS := (yX10_save, cX10_save, 2, none, RX10, 0)
def sX10_seed : MS := (yX10_seed, cX10_seed, 3, (some .int), RX10, 1)
def sX10_slightest : MS := (yX10_slightest, cX10_slightest, 1, (some .int), RX10, 5)
def sX10_slightestNow : MS := (yX10_slightestNow, cX10_slightestNow, 8, (some .int), RX10, 4)
def sX10_takes : MS := (yX10_takes, cX10_takes, 4, (some .boolean), RX10, 1)
def sX10_thrown : MS := (yX10_thrown, cX10_thrown, 1, (some .int), RX10, 0)
def sX10_tilt : MS := (yX10_tilt, cX10_tilt, 6, (some .int), RX10, 2)
def sX10_tiltAll : MS := (yX10_tiltAll, cX10_tiltAll, 7, (some .int), RX10, 2)
def sX10_tiltedOf : MS := (yX10_tiltedOf, cX10_tiltedOf, 3, (some .int), RX10, 0)
def sX10_tiltedTotalOf : MS := (yX10_tiltedTotalOf, cX10_tiltedTotalOf, 4, (some .int), RX10, 1)
def sX10_totalOf : MS := (yX10_totalOf, cX10_totalOf, 4, (some .int), RX10, 1)
def sX10_undo : MS := (yX10_undo, cX10_undo, 2, (some .int), RX10, 0)
def sX10_ways : MS := (yX10_ways, cX10_ways, 3, (some .long), RX10, 4)
def sX10_waysFrom : MS := (yX10_waysFrom, cX10_waysFrom, 5, (some .long), RX10, 0)
def sX10_waysNow : MS := (yX10_waysNow, cX10_waysNow, 3, (some .long), RX10, 3)
def sX10_weigh : MS := (yX10_weigh, cX10_weigh, 6, (some .int), RX10, 2)
def sX10_weight : MS := (yX10_weight, cX10_weight, 4, (some .int), RX10, 2)
def sX10_weightOf : MS := (yX10_weightOf, cX10_weightOf, 3, (some .int), RX10, 0)
def sX10_within : MS := (yX10_within, cX10_within, 3, (some .boolean), RX10, 0)
/-- the model with all that is its own -/
abbrev wM (G : GP) (ma : Nat → Nat) (z : Nat → Nat) (sf : Nat → UInt64) (st : Nat) (hh : Nat → Nat) (sh : Nat → UInt64) (len : Nat) (tx : Nat → Nat) (th : Nat) (wy mo td : Nat → Nat) (re lo to : Nat) (rw : Nat → Nat) (ha : Int64) : va_W := [(ma 0, ob 10 [.ref (ma 1), .ref (ma 2), .int (nI st), .ref (ma 3), .ref (ma 4), .int (nI len), .ref (ma 5), .int (nI th), .ref (ma 6), .ref (ma 7), .ref (ma 8), .int (nI re), .int (nI lo), .int (nI to), .ref (ma 9), .long ha]), (ma 1, aN G 83 z), (ma 2, aD G 4 sf), (ma 3, aN G 498 hh), (ma 4, aD G 24 sh), (ma 5, aN G 60 tx), (ma 6, aL G 31 wy), (ma 7, aN G 700 mo), (ma 8, aN G 192 td), (ma 9, aN G 6 rw)]
def wq (z : Nat → Nat) (k : Nat) : Nat := z (11 + k)
def tq (z : Nat → Nat) (k : Nat) : Nat := z (47 + k)
theorem wq_at (z : Nat → Nat) {p : Nat} (l : Nat) (hp : p < 6) : z (11 + 6 * p + l) = gt (wq z) p l := by
  unfold gt wq
  rw [if_pos hp, show 11 + 6 * p + l = 11 + (p * 6 + l) by omega]
theorem tq_at (z : Nat → Nat) {p : Nat} (l : Nat) (hp : p < 6) : z (47 + 6 * p + l) = gt (tq z) p l := by
  unfold gt tq
  rw [if_pos hp, show 47 + 6 * p + l = 47 + (p * 6 + l) by omega]
set_option maxHeartbeats 4000000 in
set_option maxRecDepth 100000 in
theorem c_X10_thrown {G : GP} {ma z : Nat → Nat} {sf : Nat → UInt64} {st : Nat} {hh : Nat → Nat} {sh : Nat → UInt64} {len : Nat} {tx : Nat → Nat} {th : Nat} {wy mo td : Nat → Nat} {re lo to : Nat} {rw : Nat → Nat} {ha : Int64}  : AMd G sX10_thrown [.ref (ma 0)] (wM G ma z sf st hh sh len tx th wy mo td re lo to rw ha) (some (.int (nI th))) (wM G ma z sf st hh sh len tx th wy mo td re lo to rw ha) := by
  refine AM.of (σ := sX10_thrown) (by decide +kernel) (by decide +kernel) (Nat.le_of_ble_eq_true rfl) (fun B hB hR hE0 hN => ?_)
  have hE := BE.of hE0
  refine a_aload_n hB dX10_thrown_0 rfl ?_
  refine a_get (T := TX10) (ci := 10) hB dX10_thrown_1 7 fl_X10_39 lay_X10 rfl (by decide) rfl 0 rfl rfl ?_
  exact a_iret hB hE rfl dX10_thrown_4 (Nat.le_of_ble_eq_true rfl) (Nat.le_of_ble_eq_true rfl) (AKeep.of rfl) ⟨rfl, rfl⟩
set_option maxHeartbeats 4000000 in
set_option maxRecDepth 100000 in
theorem c_X10_within_y {G : GP} {x a b : Int32} (h1 : a ≤ x) (h2 : x ≤ b) : AMd G sX10_within [.int x, .int a, .int b] [] (some (.int (nI 1))) [] := by
  refine AM.of (σ := sX10_within) (by decide +kernel) (by decide +kernel) (Nat.le_of_ble_eq_true rfl) (fun B hB hR hE0 hN => ?_)
  have hE := BE.of hE0
  refine a_iload_n hB dX10_within_0 rfl ?_
  refine a_iload_n hB dX10_within_1 rfl ?_
  refine a_icmp_lt_f (tgt := 14) hB dX10_within_2 (by decide) (Int32.not_lt.mpr h1) ?_
  refine a_iload_n hB dX10_within_5 rfl ?_
  refine a_iload_n hB dX10_within_6 rfl ?_
  refine a_icmp_gt_f (tgt := 14) hB dX10_within_7 (by decide) (Int32.not_lt.mpr h2) ?_
  refine a_iconstN (v := 1) hB dX10_within_10 (by decide) ?_
  refine a_goto (tgt := 15) hB dX10_within_11 (by decide) ?_
  exact a_zret hB hE rfl (by decide) dX10_within_15 (Nat.le_of_ble_eq_true rfl) (Nat.le_of_ble_eq_true rfl) (AKeep.of rfl) ⟨rfl, rfl⟩
set_option maxHeartbeats 4000000 in
set_option maxRecDepth 100000 in
theorem c_X10_within_n {G : GP} {x a b : Int32} (h : x < a ∨ b < x) : AMd G sX10_within [.int x, .int a, .int b] [] (some (.int (nI 0))) [] := by
  refine AM.of (σ := sX10_within) (by decide +kernel) (by decide +kernel) (Nat.le_of_ble_eq_true rfl) (fun B hB hR hE0 hN => ?_)
  have hE := BE.of hE0
  refine a_iload_n hB dX10_within_0 rfl ?_
  refine a_iload_n hB dX10_within_1 rfl ?_
  refine a_icmp_lt (tgt := 14) hB dX10_within_2 (by decide) (fun c2 => ?_) (fun c2 => ?_)
  · refine a_iconstN (v := 0) hB dX10_within_14 (by decide) ?_
    exact a_zret hB hE rfl (by decide) dX10_within_15 (Nat.le_of_ble_eq_true rfl) (Nat.le_of_ble_eq_true rfl) (AKeep.of rfl) ⟨by first | rfl | exact (h.elim (fun q => absurd q c2) (fun q => absurd q c7)), rfl⟩
  · refine a_iload_n hB dX10_within_5 rfl ?_
    refine a_iload_n hB dX10_within_6 rfl ?_
    refine a_icmp_gt (tgt := 14) hB dX10_within_7 (by decide) (fun c7 => ?_) (fun c7 => ?_)
    · refine a_iconstN (v := 0) hB dX10_within_14 (by decide) ?_
      exact a_zret hB hE rfl (by decide) dX10_within_15 (Nat.le_of_ble_eq_true rfl) (Nat.le_of_ble_eq_true rfl) (AKeep.of rfl) ⟨by first | rfl | exact (h.elim (fun q => absurd q c2) (fun q => absurd q c7)), rfl⟩
    · refine a_iconstN (v := 1) hB dX10_within_10 (by decide) ?_
      refine a_goto (tgt := 15) hB dX10_within_11 (by decide) ?_
      exact a_zret hB hE rfl (by decide) dX10_within_15 (Nat.le_of_ble_eq_true rfl) (Nat.le_of_ble_eq_true rfl) (AKeep.of rfl) ⟨by first | rfl | exact (h.elim (fun q => absurd q c2) (fun q => absurd q c7)), rfl⟩
set_option maxHeartbeats 4000000 in
set_option maxRecDepth 100000 in
theorem c_X10_isLoad_y {G : GP} {x : Int32} (h1 : nI 0 ≤ x) (h2 : x ≤ nI 5) : AMd G sX10_isLoad [.int x] [] (some (.int (nI 1))) [] := by
  refine AM.of (σ := sX10_isLoad) (by decide +kernel) (by decide +kernel) (Nat.le_of_ble_eq_true rfl) (fun B hB hR hE0 hN => ?_)
  have hE := BE.of hE0
  refine a_iload_n hB dX10_isLoad_0 rfl ?_
  refine a_iconstN (v := 0) hB dX10_isLoad_1 (by decide) ?_
  refine a_iconstN (v := 5) hB dX10_isLoad_2 (by decide) ?_
  refine a_callSr hB (c_X10_within_y h1 h2) mk_X10_within ml_X10_46 dX10_isLoad_3 rfl rfl [] rfl (by decide) (fit_of hR (by decide)) (Nat.le_of_ble_eq_true rfl) ?_
  exact a_zret hB hE rfl (by decide) dX10_isLoad_6 (Nat.le_of_ble_eq_true rfl) (Nat.le_of_ble_eq_true rfl) (AKeep.of rfl) ⟨rfl, rfl⟩
set_option maxHeartbeats 4000000 in
set_option maxRecDepth 100000 in
theorem c_X10_isLimit_y {G : GP} {x : Int32} (h1 : nI 0 ≤ x) (h2 : x ≤ nI 99) : AMd G sX10_isLimit [.int x] [] (some (.int (nI 1))) [] := by
  refine AM.of (σ := sX10_isLimit) (by decide +kernel) (by decide +kernel) (Nat.le_of_ble_eq_true rfl) (fun B hB hR hE0 hN => ?_)
  have hE := BE.of hE0
  refine a_iload_n hB dX10_isLimit_0 rfl ?_
  refine a_iconstN (v := 0) hB dX10_isLimit_1 (by decide) ?_
  refine a_bipushN (v := 99) hB dX10_isLimit_2 (by decide) ?_
  refine a_callSr hB (c_X10_within_y h1 h2) mk_X10_within ml_X10_46 dX10_isLimit_4 rfl rfl [] rfl (by decide) (fit_of hR (by decide)) (Nat.le_of_ble_eq_true rfl) ?_
  exact a_zret hB hE rfl (by decide) dX10_isLimit_7 (Nat.le_of_ble_eq_true rfl) (Nat.le_of_ble_eq_true rfl) (AKeep.of rfl) ⟨rfl, rfl⟩
set_option maxHeartbeats 4000000 in
set_option maxRecDepth 100000 in
theorem c_X10_isPart_y {G : GP} {ma z : Nat → Nat} {sf : Nat → UInt64} {st : Nat} {hh : Nat → Nat} {sh : Nat → UInt64} {len : Nat} {tx : Nat → Nat} {th : Nat} {wy mo td : Nat → Nat} {re lo to : Nat} {rw : Nat → Nat} {ha : Int64} {x : Int32} (hz : 1 ≤ z 0) (h1 : nI 0 ≤ x) (h2 : x ≤ nI (z 0 - 1)) : AMd G sX10_isPart [.ref (ma 0), .int x] (wM G ma z sf st hh sh len tx th wy mo td re lo to rw ha) (some (.int (nI 1))) (wM G ma z sf st hh sh len tx th wy mo td re lo to rw ha) := by
  refine AM.of (σ := sX10_isPart) (by decide +kernel) (by decide +kernel) (Nat.le_of_ble_eq_true rfl) (fun B hB hR hE0 hN => ?_)
  have hE := BE.of hE0
  refine a_iload_n hB dX10_isPart_0 rfl ?_
  refine a_iconstN (v := 0) hB dX10_isPart_1 (by decide) ?_
  refine a_aload_n hB dX10_isPart_2 rfl ?_
  refine a_get (T := TX10) (ci := 10) hB dX10_isPart_3 0 fl_X10_7 lay_X10 rfl (by decide) rfl 0 rfl rfl ?_
  refine a_iconstN (v := 0) hB dX10_isPart_6 (by decide) ?_
  refine a_ialoadN hB dX10_isPart_7 1 rfl (by omega) (by decide) ?_
  refine a_iconstN (v := 1) hB dX10_isPart_8 (by decide) ?_
  refine a_isubN hB dX10_isPart_9 (by omega) ?_
  refine a_callSr hB (c_X10_within_y h1 h2) mk_X10_within ml_X10_46 dX10_isPart_10 rfl rfl [] rfl (by decide) (fit_of hR (by decide)) (Nat.le_of_ble_eq_true rfl) ?_
  exact a_zret hB hE rfl (by decide) dX10_isPart_13 (Nat.le_of_ble_eq_true rfl) (Nat.le_of_ble_eq_true rfl) (AKeep.of rfl) ⟨rfl, rfl⟩
set_option maxHeartbeats 4000000 in
set_option maxRecDepth 100000 in
theorem c_X10_isLoad_n {G : GP} {x : Int32} (h : x < nI 0 ∨ nI 5 < x) : AMd G sX10_isLoad [.int x] [] (some (.int (nI 0))) [] := by
  refine AM.of (σ := sX10_isLoad) (by decide +kernel) (by decide +kernel) (Nat.le_of_ble_eq_true rfl) (fun B hB hR hE0 hN => ?_)
  have hE := BE.of hE0
  refine a_iload_n hB dX10_isLoad_0 rfl ?_
  refine a_iconstN (v := 0) hB dX10_isLoad_1 (by decide) ?_
  refine a_iconstN (v := 5) hB dX10_isLoad_2 (by decide) ?_
  refine a_callSr hB (c_X10_within_n h) mk_X10_within ml_X10_46 dX10_isLoad_3 rfl rfl [] rfl (by decide) (fit_of hR (by decide)) (Nat.le_of_ble_eq_true rfl) ?_
  exact a_zret hB hE rfl (by decide) dX10_isLoad_6 (Nat.le_of_ble_eq_true rfl) (Nat.le_of_ble_eq_true rfl) (AKeep.of rfl) ⟨rfl, rfl⟩
set_option maxHeartbeats 4000000 in
set_option maxRecDepth 100000 in
theorem c_X10_isLimit_n {G : GP} {x : Int32} (h : x < nI 0 ∨ nI 99 < x) : AMd G sX10_isLimit [.int x] [] (some (.int (nI 0))) [] := by
  refine AM.of (σ := sX10_isLimit) (by decide +kernel) (by decide +kernel) (Nat.le_of_ble_eq_true rfl) (fun B hB hR hE0 hN => ?_)
  have hE := BE.of hE0
  refine a_iload_n hB dX10_isLimit_0 rfl ?_
  refine a_iconstN (v := 0) hB dX10_isLimit_1 (by decide) ?_
  refine a_bipushN (v := 99) hB dX10_isLimit_2 (by decide) ?_
  refine a_callSr hB (c_X10_within_n h) mk_X10_within ml_X10_46 dX10_isLimit_4 rfl rfl [] rfl (by decide) (fit_of hR (by decide)) (Nat.le_of_ble_eq_true rfl) ?_
  exact a_zret hB hE rfl (by decide) dX10_isLimit_7 (Nat.le_of_ble_eq_true rfl) (Nat.le_of_ble_eq_true rfl) (AKeep.of rfl) ⟨rfl, rfl⟩
set_option maxHeartbeats 4000000 in
set_option maxRecDepth 100000 in
theorem c_X10_isPart_n {G : GP} {ma z : Nat → Nat} {sf : Nat → UInt64} {st : Nat} {hh : Nat → Nat} {sh : Nat → UInt64} {len : Nat} {tx : Nat → Nat} {th : Nat} {wy mo td : Nat → Nat} {re lo to : Nat} {rw : Nat → Nat} {ha : Int64} {x : Int32} (hz : 1 ≤ z 0) (h : x < nI 0 ∨ nI (z 0 - 1) < x) : AMd G sX10_isPart [.ref (ma 0), .int x] (wM G ma z sf st hh sh len tx th wy mo td re lo to rw ha) (some (.int (nI 0))) (wM G ma z sf st hh sh len tx th wy mo td re lo to rw ha) := by
  refine AM.of (σ := sX10_isPart) (by decide +kernel) (by decide +kernel) (Nat.le_of_ble_eq_true rfl) (fun B hB hR hE0 hN => ?_)
  have hE := BE.of hE0
  refine a_iload_n hB dX10_isPart_0 rfl ?_
  refine a_iconstN (v := 0) hB dX10_isPart_1 (by decide) ?_
  refine a_aload_n hB dX10_isPart_2 rfl ?_
  refine a_get (T := TX10) (ci := 10) hB dX10_isPart_3 0 fl_X10_7 lay_X10 rfl (by decide) rfl 0 rfl rfl ?_
  refine a_iconstN (v := 0) hB dX10_isPart_6 (by decide) ?_
  refine a_ialoadN hB dX10_isPart_7 1 rfl (by omega) (by decide) ?_
  refine a_iconstN (v := 1) hB dX10_isPart_8 (by decide) ?_
  refine a_isubN hB dX10_isPart_9 (by omega) ?_
  refine a_callSr hB (c_X10_within_n h) mk_X10_within ml_X10_46 dX10_isPart_10 rfl rfl [] rfl (by decide) (fit_of hR (by decide)) (Nat.le_of_ble_eq_true rfl) ?_
  exact a_zret hB hE rfl (by decide) dX10_isPart_13 (Nat.le_of_ble_eq_true rfl) (Nat.le_of_ble_eq_true rfl) (AKeep.of rfl) ⟨rfl, rfl⟩
set_option maxHeartbeats 4000000 in
set_option maxRecDepth 100000 in
theorem c_X10_isPart_0 {G : GP} {ma z : Nat → Nat} {sf : Nat → UInt64} {st : Nat} {hh : Nat → Nat} {sh : Nat → UInt64} {len : Nat} {tx : Nat → Nat} {th : Nat} {wy mo td : Nat → Nat} {re lo to : Nat} {rw : Nat → Nat} {ha : Int64} {x : Int32} (hz : z 0 = 0) : AMd G sX10_isPart [.ref (ma 0), .int x] (wM G ma z sf st hh sh len tx th wy mo td re lo to rw ha) (some (.int (nI 0))) (wM G ma z sf st hh sh len tx th wy mo td re lo to rw ha) := by
  refine AM.of (σ := sX10_isPart) (by decide +kernel) (by decide +kernel) (Nat.le_of_ble_eq_true rfl) (fun B hB hR hE0 hN => ?_)
  have hE := BE.of hE0
  refine a_iload_n hB dX10_isPart_0 rfl ?_
  refine a_iconstN (v := 0) hB dX10_isPart_1 (by decide) ?_
  refine a_aload_n hB dX10_isPart_2 rfl ?_
  refine a_get (T := TX10) (ci := 10) hB dX10_isPart_3 0 fl_X10_7 lay_X10 rfl (by decide) rfl 0 rfl rfl ?_
  refine a_iconstN (v := 0) hB dX10_isPart_6 (by decide) ?_
  refine a_ialoadN hB dX10_isPart_7 1 rfl (by omega) (by decide) ?_
  refine a_iconstN (v := 1) hB dX10_isPart_8 (by decide) ?_
  refine a_isub hB dX10_isPart_9 ?_
  refine a_callSr hB (c_X10_within_n (x := x) (by rw [hz]; by_cases q : x < nI 0; exact Or.inl q; exact Or.inr (Int32.lt_of_lt_of_le (by decide) (Int32.not_lt.mp q)))) mk_X10_within ml_X10_46 dX10_isPart_10 rfl rfl [] rfl (by decide) (fit_of hR (by decide)) (Nat.le_of_ble_eq_true rfl) ?_
  exact a_zret hB hE rfl (by decide) dX10_isPart_13 (Nat.le_of_ble_eq_true rfl) (Nat.le_of_ble_eq_true rfl) (AKeep.of rfl) ⟨rfl, rfl⟩
set_option maxHeartbeats 4000000 in
set_option maxRecDepth 100000 in
theorem c_X10_weightOf {G : GP} {ma z : Nat → Nat} {sf : Nat → UInt64} {st : Nat} {hh : Nat → Nat} {sh : Nat → UInt64} {len : Nat} {tx : Nat → Nat} {th : Nat} {wy mo td : Nat → Nat} {re lo to : Nat} {rw : Nat → Nat} {ha : Int64} {p l : Nat} (hp : p < 6) (hl : l < 6) : AMd G sX10_weightOf [.ref (ma 0), .int (nI p), .int (nI l)] (wM G ma z sf st hh sh len tx th wy mo td re lo to rw ha) (some (.int (nI (gt (wq z) p l)))) (wM G ma z sf st hh sh len tx th wy mo td re lo to rw ha) := by
  refine AM.of (σ := sX10_weightOf) (by decide +kernel) (by decide +kernel) (Nat.le_of_ble_eq_true rfl) (fun B hB hR hE0 hN => ?_)
  have hE := BE.of hE0
  refine a_aload_n hB dX10_weightOf_0 rfl ?_
  refine a_get (T := TX10) (ci := 10) hB dX10_weightOf_1 0 fl_X10_7 lay_X10 rfl (by decide) rfl 0 rfl rfl ?_
  refine a_bipushN (v := 11) hB dX10_weightOf_4 (by decide) ?_
  refine a_bipushN (v := 6) hB dX10_weightOf_6 (by decide) ?_
  refine a_iload_n hB dX10_weightOf_8 rfl ?_
  refine a_imulN hB dX10_weightOf_9 ?_
  refine a_iaddN hB dX10_weightOf_10 ?_
  refine a_iload_n hB dX10_weightOf_11 rfl ?_
  refine a_iaddN hB dX10_weightOf_12 ?_
  refine a_ialoadN hB dX10_weightOf_13 1 rfl (by omega) (by decide) ?_
  exact a_iret hB hE rfl dX10_weightOf_14 (Nat.le_of_ble_eq_true rfl) (Nat.le_of_ble_eq_true rfl) (AKeep.of rfl) ⟨by rw [wq_at z l hp], rfl⟩
set_option maxHeartbeats 4000000 in
set_option maxRecDepth 100000 in
theorem c_X10_tiltedOf {G : GP} {ma z : Nat → Nat} {sf : Nat → UInt64} {st : Nat} {hh : Nat → Nat} {sh : Nat → UInt64} {len : Nat} {tx : Nat → Nat} {th : Nat} {wy mo td : Nat → Nat} {re lo to : Nat} {rw : Nat → Nat} {ha : Int64} {p l : Nat} (hp : p < 6) (hl : l < 6) : AMd G sX10_tiltedOf [.ref (ma 0), .int (nI p), .int (nI l)] (wM G ma z sf st hh sh len tx th wy mo td re lo to rw ha) (some (.int (nI (gt (tq z) p l)))) (wM G ma z sf st hh sh len tx th wy mo td re lo to rw ha) := by
  refine AM.of (σ := sX10_tiltedOf) (by decide +kernel) (by decide +kernel) (Nat.le_of_ble_eq_true rfl) (fun B hB hR hE0 hN => ?_)
  have hE := BE.of hE0
  refine a_aload_n hB dX10_tiltedOf_0 rfl ?_
  refine a_get (T := TX10) (ci := 10) hB dX10_tiltedOf_1 0 fl_X10_7 lay_X10 rfl (by decide) rfl 0 rfl rfl ?_
  refine a_bipushN (v := 47) hB dX10_tiltedOf_4 (by decide) ?_
  refine a_bipushN (v := 6) hB dX10_tiltedOf_6 (by decide) ?_
  refine a_iload_n hB dX10_tiltedOf_8 rfl ?_
  refine a_imulN hB dX10_tiltedOf_9 ?_
  refine a_iaddN hB dX10_tiltedOf_10 ?_
  refine a_iload_n hB dX10_tiltedOf_11 rfl ?_
  refine a_iaddN hB dX10_tiltedOf_12 ?_
  refine a_ialoadN hB dX10_tiltedOf_13 1 rfl (by omega) (by decide) ?_
  exact a_iret hB hE rfl dX10_tiltedOf_14 (Nat.le_of_ble_eq_true rfl) (Nat.le_of_ble_eq_true rfl) (AKeep.of rfl) ⟨by rw [tq_at z l hp], rfl⟩
set_option maxHeartbeats 4000000 in
set_option maxRecDepth 100000 in
theorem c_X10_totalOf {G : GP} {ma z : Nat → Nat} {sf : Nat → UInt64} {st : Nat} {hh : Nat → Nat} {sh : Nat → UInt64} {len : Nat} {tx : Nat → Nat} {th : Nat} {wy mo td : Nat → Nat} {re lo to : Nat} {rw : Nat → Nat} {ha : Int64} {p : Nat} (hp : p < 6) : AMd G sX10_totalOf [.ref (ma 0), .int (nI p)] (wM G ma z sf st hh sh len tx th wy mo td re lo to rw ha) (some (.int (nI (tot (wq z) p)))) (wM G ma z sf st hh sh len tx th wy mo td re lo to rw ha) := by
  refine AM.of (σ := sX10_totalOf) (by decide +kernel) (by decide +kernel) (Nat.le_of_ble_eq_true rfl) (fun B hB hR hE0 hN => ?_)
  have hE := BE.of hE0
  refine a_iconstN (v := 0) hB dX10_totalOf_0 (by decide) ?_
  refine a_istore_n hB dX10_totalOf_1 (by decide) ?_
  refine a_iconstN (v := 0) hB dX10_totalOf_2 (by decide) ?_
  refine a_istore_n hB dX10_totalOf_3 (by decide) ?_
  have lp4 : ∀ (j4 i : Nat), i + j4 = 6 → aW G sX10_totalOf B 4 [(0, .ref (ma 0)), (1, .int (nI p)), (2, .int (nI (sumN (fun l => gt (wq z) p l) i))), (3, .int (nI i))] [] (wM G ma z sf st hh sh len tx th wy mo td re lo to rw ha) 0 0 := by
    intro j4
    induction j4 with
    | zero =>
      intro i hi
      refine a_iload_n hB dX10_totalOf_4 rfl ?_
      refine a_bipushN (v := 6) hB dX10_totalOf_5 (by decide) ?_
      refine a_icmp_geN_t (tgt := 25) hB dX10_totalOf_7 (by decide) (by omega) (by omega) (by omega) ?_
      refine a_iload_n hB dX10_totalOf_25 rfl ?_
      exact a_iret hB hE rfl dX10_totalOf_26 (Nat.le_of_ble_eq_true rfl) (Nat.le_of_ble_eq_true rfl) (AKeep.of rfl) ⟨by rw [show i = 6 by omega]; rfl, rfl⟩
    | succ j4 ih4 =>
      intro i hi
      refine a_iload_n hB dX10_totalOf_4 rfl ?_
      refine a_bipushN (v := 6) hB dX10_totalOf_5 (by decide) ?_
      refine a_icmp_geN_f (tgt := 25) hB dX10_totalOf_7 (by decide) (by omega) (by omega) (by omega) ?_
      refine a_iload_n hB dX10_totalOf_10 rfl ?_
      refine a_aload_n hB dX10_totalOf_11 rfl ?_
      refine a_iload_n hB dX10_totalOf_12 rfl ?_
      refine a_iload_n hB dX10_totalOf_13 rfl ?_
      refine a_callVr (q0 := 0) hB (c_X10_weightOf (by omega) (by omega)) mk_X10_weightOf ml_X10_50 dX10_totalOf_14 rfl rfl [0, 1, 2, 3, 4, 5, 6, 7, 8, 9] rfl (by decide) rfl rfl (fit_of hR (by decide)) (Nat.le_of_ble_eq_true rfl) ?_
      refine a_iaddN hB dX10_totalOf_17 ?_
      refine a_istore_n hB dX10_totalOf_18 (by decide) ?_
      refine a_iincN (b := 1) hB dX10_totalOf_19 rfl (by decide) (by decide) ?_
      refine a_goto (tgt := 4) hB dX10_totalOf_22 (by decide) ?_
      exact aW_at [0, 1, 2, 3] rfl rfl rfl (ih4 (i + 1) (by omega))
  exact aW_at [0, 1, 2, 3] rfl rfl rfl (lp4 (6) 0 (by omega))
set_option maxHeartbeats 4000000 in
set_option maxRecDepth 100000 in
theorem c_X10_tiltedTotalOf {G : GP} {ma z : Nat → Nat} {sf : Nat → UInt64} {st : Nat} {hh : Nat → Nat} {sh : Nat → UInt64} {len : Nat} {tx : Nat → Nat} {th : Nat} {wy mo td : Nat → Nat} {re lo to : Nat} {rw : Nat → Nat} {ha : Int64} {p : Nat} (hp : p < 6) : AMd G sX10_tiltedTotalOf [.ref (ma 0), .int (nI p)] (wM G ma z sf st hh sh len tx th wy mo td re lo to rw ha) (some (.int (nI (tot (tq z) p)))) (wM G ma z sf st hh sh len tx th wy mo td re lo to rw ha) := by
  refine AM.of (σ := sX10_tiltedTotalOf) (by decide +kernel) (by decide +kernel) (Nat.le_of_ble_eq_true rfl) (fun B hB hR hE0 hN => ?_)
  have hE := BE.of hE0
  refine a_iconstN (v := 0) hB dX10_tiltedTotalOf_0 (by decide) ?_
  refine a_istore_n hB dX10_tiltedTotalOf_1 (by decide) ?_
  refine a_iconstN (v := 0) hB dX10_tiltedTotalOf_2 (by decide) ?_
  refine a_istore_n hB dX10_tiltedTotalOf_3 (by decide) ?_
  have lp4 : ∀ (j4 i : Nat), i + j4 = 6 → aW G sX10_tiltedTotalOf B 4 [(0, .ref (ma 0)), (1, .int (nI p)), (2, .int (nI (sumN (fun l => gt (tq z) p l) i))), (3, .int (nI i))] [] (wM G ma z sf st hh sh len tx th wy mo td re lo to rw ha) 0 0 := by
    intro j4
    induction j4 with
    | zero =>
      intro i hi
      refine a_iload_n hB dX10_tiltedTotalOf_4 rfl ?_
      refine a_bipushN (v := 6) hB dX10_tiltedTotalOf_5 (by decide) ?_
      refine a_icmp_geN_t (tgt := 25) hB dX10_tiltedTotalOf_7 (by decide) (by omega) (by omega) (by omega) ?_
      refine a_iload_n hB dX10_tiltedTotalOf_25 rfl ?_
      exact a_iret hB hE rfl dX10_tiltedTotalOf_26 (Nat.le_of_ble_eq_true rfl) (Nat.le_of_ble_eq_true rfl) (AKeep.of rfl) ⟨by rw [show i = 6 by omega]; rfl, rfl⟩
    | succ j4 ih4 =>
      intro i hi
      refine a_iload_n hB dX10_tiltedTotalOf_4 rfl ?_
      refine a_bipushN (v := 6) hB dX10_tiltedTotalOf_5 (by decide) ?_
      refine a_icmp_geN_f (tgt := 25) hB dX10_tiltedTotalOf_7 (by decide) (by omega) (by omega) (by omega) ?_
      refine a_iload_n hB dX10_tiltedTotalOf_10 rfl ?_
      refine a_aload_n hB dX10_tiltedTotalOf_11 rfl ?_
      refine a_iload_n hB dX10_tiltedTotalOf_12 rfl ?_
      refine a_iload_n hB dX10_tiltedTotalOf_13 rfl ?_
      refine a_callVr (q0 := 0) hB (c_X10_tiltedOf (by omega) (by omega)) mk_X10_tiltedOf ml_X10_54 dX10_tiltedTotalOf_14 rfl rfl [0, 1, 2, 3, 4, 5, 6, 7, 8, 9] rfl (by decide) rfl rfl (fit_of hR (by decide)) (Nat.le_of_ble_eq_true rfl) ?_
      refine a_iaddN hB dX10_tiltedTotalOf_17 ?_
      refine a_istore_n hB dX10_tiltedTotalOf_18 (by decide) ?_
      refine a_iincN (b := 1) hB dX10_tiltedTotalOf_19 rfl (by decide) (by decide) ?_
      refine a_goto (tgt := 4) hB dX10_tiltedTotalOf_22 (by decide) ?_
      exact aW_at [0, 1, 2, 3] rfl rfl rfl (ih4 (i + 1) (by omega))
  exact aW_at [0, 1, 2, 3] rfl rfl rfl (lp4 (6) 0 (by omega))
set_option maxHeartbeats 4000000 in
set_option maxRecDepth 100000 in
theorem c_X10_corrected {G : GP} {ma z : Nat → Nat} {sf : Nat → UInt64} {st : Nat} {hh : Nat → Nat} {sh : Nat → UInt64} {len : Nat} {tx : Nat → Nat} {th : Nat} {wy mo td : Nat → Nat} {re lo to : Nat} {rw : Nat → Nat} {ha : Int64} {c : UInt64} {p l : Nat} (hp : p < 6) (hl : l < 6) (hc : corrOK c (gt (wq z) p l) (tot (tq z) p) (tot (wq z) p) (gt (tq z) p l)) : AMd G sX10_corrected [.ref (ma 0), .double c, .int (nI p), .int (nI l)] (wM G ma z sf st hh sh len tx th wy mo td re lo to rw ha) (some (.double (corr c (gt (wq z) p l) (tot (tq z) p) (tot (wq z) p) (gt (tq z) p l)))) (wM G ma z sf st hh sh len tx th wy mo td re lo to rw ha) := by
  refine AM.of (σ := sX10_corrected) (by decide +kernel) (by decide +kernel) (Nat.le_of_ble_eq_true rfl) (fun B hB hR hE0 hN => ?_)
  have hE := BE.of hE0
  refine a_dload_n hB dX10_corrected_0 rfl ?_
  refine a_aload_n hB dX10_corrected_1 rfl ?_
  refine a_iload_n hB dX10_corrected_2 rfl ?_
  refine a_iload hB dX10_corrected_3 rfl ?_
  refine a_callVr (q0 := 0) hB (c_X10_weightOf (by omega) (by omega)) mk_X10_weightOf ml_X10_50 dX10_corrected_5 rfl rfl [0, 1, 2, 3, 4, 5, 6, 7, 8, 9] rfl (by decide) rfl rfl (fit_of hR (by decide)) (Nat.le_of_ble_eq_true rfl) ?_
  refine a_i2d hB dX10_corrected_8 ?_
  refine a_dmul hB dX10_corrected_9 hc.1 ?_
  refine a_dstore hB dX10_corrected_10 (by decide) ?_
  refine a_dload hB dX10_corrected_12 rfl ?_
  refine a_aload_n hB dX10_corrected_14 rfl ?_
  refine a_iload_n hB dX10_corrected_15 rfl ?_
  refine a_callVr (q0 := 0) hB (c_X10_tiltedTotalOf (by omega)) mk_X10_tiltedTotalOf ml_X10_64 dX10_corrected_16 rfl rfl [0, 1, 2, 3, 4, 5, 6, 7, 8, 9] rfl (by decide) rfl rfl (fit_of hR (by decide)) (Nat.le_of_ble_eq_true rfl) ?_
  refine a_i2d hB dX10_corrected_19 ?_
  refine a_dmul hB dX10_corrected_20 hc.2.1 ?_
  refine a_dstore hB dX10_corrected_21 (by decide) ?_
  refine a_dload hB dX10_corrected_23 rfl ?_
  refine a_aload_n hB dX10_corrected_25 rfl ?_
  refine a_iload_n hB dX10_corrected_26 rfl ?_
  refine a_callVr (q0 := 0) hB (c_X10_totalOf (by omega)) mk_X10_totalOf ml_X10_68 dX10_corrected_27 rfl rfl [0, 1, 2, 3, 4, 5, 6, 7, 8, 9] rfl (by decide) rfl rfl (fit_of hR (by decide)) (Nat.le_of_ble_eq_true rfl) ?_
  refine a_i2d hB dX10_corrected_30 ?_
  refine a_ddiv hB dX10_corrected_31 hc.2.2.1 ?_
  refine a_dstore hB dX10_corrected_32 (by decide) ?_
  refine a_dload hB dX10_corrected_34 rfl ?_
  refine a_aload_n hB dX10_corrected_36 rfl ?_
  refine a_iload_n hB dX10_corrected_37 rfl ?_
  refine a_iload hB dX10_corrected_38 rfl ?_
  refine a_callVr (q0 := 0) hB (c_X10_tiltedOf (by omega) (by omega)) mk_X10_tiltedOf ml_X10_54 dX10_corrected_40 rfl rfl [0, 1, 2, 3, 4, 5, 6, 7, 8, 9] rfl (by decide) rfl rfl (fit_of hR (by decide)) (Nat.le_of_ble_eq_true rfl) ?_
  refine a_i2d hB dX10_corrected_43 ?_
  refine a_ddiv hB dX10_corrected_44 hc.2.2.2 ?_
  exact a_dret hB hE rfl dX10_corrected_45 (Nat.le_of_ble_eq_true rfl) (Nat.le_of_ble_eq_true rfl) (AKeep.of rfl) ⟨rfl, rfl⟩
def fg (z : Nat → Nat) : Nat → Nat → Nat
  | 0 => uN (uN z 3 0) 4 0
  | i + 1 => uN (fg z i) (5 + i) 0
def fs0 (sf : Nat → UInt64) : Nat → Nat → UInt64
  | 0 => sf
  | i + 1 => uN (fs0 sf i) i FP.dconst0
set_option maxHeartbeats 4000000 in
set_option maxRecDepth 100000 in
theorem c_X10_forgets {G : GP} {ma z : Nat → Nat} {sf : Nat → UInt64} {st : Nat} {hh : Nat → Nat} {sh : Nat → UInt64} {len : Nat} {tx : Nat → Nat} {th : Nat} {wy mo td : Nat → Nat} {re lo to : Nat} {rw : Nat → Nat} {ha : Int64}  : AMd G sX10_forgets [.ref (ma 0)] (wM G ma z sf st hh sh len tx th wy mo td re lo to rw ha) (some (.int (nI (z 3)))) (wM G ma (fg z 6) (fs0 sf 4) st hh sh len tx th wy mo td re lo to rw ha) := by
  refine AM.of (σ := sX10_forgets) (by decide +kernel) (by decide +kernel) (Nat.le_of_ble_eq_true rfl) (fun B hB hR hE0 hN => ?_)
  have hE := BE.of hE0
  refine a_aload_n hB dX10_forgets_0 rfl ?_
  refine a_get (T := TX10) (ci := 10) hB dX10_forgets_1 0 fl_X10_7 lay_X10 rfl (by decide) rfl 0 rfl rfl ?_
  refine a_iconstN (v := 3) hB dX10_forgets_4 (by decide) ?_
  refine a_ialoadN hB dX10_forgets_5 1 rfl (by omega) (by decide) ?_
  refine a_istore_n hB dX10_forgets_6 (by decide) ?_
  refine a_aload_n hB dX10_forgets_7 rfl ?_
  refine a_get (T := TX10) (ci := 10) hB dX10_forgets_8 0 fl_X10_7 lay_X10 rfl (by decide) rfl 0 rfl rfl ?_
  refine a_iconstN (v := 3) hB dX10_forgets_11 (by decide) ?_
  refine a_iconstN (v := 0) hB dX10_forgets_12 (by decide) ?_
  refine a_iastoreN hB dX10_forgets_13 1 rfl (by omega) (by decide) ?_
  refine a_aload_n hB dX10_forgets_14 rfl ?_
  refine a_get (T := TX10) (ci := 10) hB dX10_forgets_15 0 fl_X10_7 lay_X10 rfl (by decide) rfl 0 rfl rfl ?_
  refine a_iconstN (v := 4) hB dX10_forgets_18 (by decide) ?_
  refine a_iconstN (v := 0) hB dX10_forgets_19 (by decide) ?_
  refine a_iastoreN hB dX10_forgets_20 1 rfl (by omega) (by decide) ?_
  refine a_iconstN (v := 0) hB dX10_forgets_21 (by decide) ?_
  refine a_istore_n hB dX10_forgets_22 (by decide) ?_
  have lp23 : ∀ (j23 i : Nat), i + j23 = 6 → aW G sX10_forgets B 23 [(0, .ref (ma 0)), (1, .int (nI (z 3))), (2, .int (nI i))] [] (wM G ma (fg z i) sf st hh sh len tx th wy mo td re lo to rw ha) 0 0 := by
    intro j23
    induction j23 with
    | zero =>
      intro i hi
      refine a_iload_n hB dX10_forgets_23 rfl ?_
      refine a_bipushN (v := 6) hB dX10_forgets_24 (by decide) ?_
      refine a_icmp_geN_t (tgt := 44) hB dX10_forgets_26 (by decide) (by omega) (by omega) (by omega) ?_
      refine a_iconstN (v := 0) hB dX10_forgets_44 (by decide) ?_
      refine a_istore_n hB dX10_forgets_45 (by decide) ?_
      have lp46 : ∀ (j46 i : Nat), i + j46 = 4 → aW G sX10_forgets B 46 [(0, .ref (ma 0)), (1, .int (nI (z 3))), (2, .int (nI i))] [] (wM G ma (fg z 6) (fs0 sf i) st hh sh len tx th wy mo td re lo to rw ha) 0 0 := by
        intro j46
        induction j46 with
        | zero =>
          intro i hi
          refine a_iload_n hB dX10_forgets_46 rfl ?_
          refine a_iconstN (v := 4) hB dX10_forgets_47 (by decide) ?_
          refine a_icmp_geN_t (tgt := 64) hB dX10_forgets_48 (by decide) (by omega) (by omega) (by omega) ?_
          refine a_iload_n hB dX10_forgets_64 rfl ?_
          exact a_iret hB hE rfl dX10_forgets_65 (Nat.le_of_ble_eq_true rfl) (Nat.le_of_ble_eq_true rfl) (AKeep.of rfl) ⟨rfl, by rw [show i = 4 by omega]⟩
        | succ j46 ih46 =>
          intro i hi
          refine a_iload_n hB dX10_forgets_46 rfl ?_
          refine a_iconstN (v := 4) hB dX10_forgets_47 (by decide) ?_
          refine a_icmp_geN_f (tgt := 64) hB dX10_forgets_48 (by decide) (by omega) (by omega) (by omega) ?_
          refine a_aload_n hB dX10_forgets_51 rfl ?_
          refine a_get (T := TX10) (ci := 10) hB dX10_forgets_52 1 fl_X10_13 lay_X10 rfl (by decide) rfl 0 rfl rfl ?_
          refine a_iload_n hB dX10_forgets_55 rfl ?_
          refine a_dconst0 hB dX10_forgets_56 ?_
          refine a_dastoreN hB dX10_forgets_57 2 rfl (by omega) (by decide) ?_
          refine a_iincN (b := 1) hB dX10_forgets_58 rfl (by decide) (by decide) ?_
          refine a_goto (tgt := 46) hB dX10_forgets_61 (by decide) ?_
          exact aW_at [0, 1, 2] rfl rfl rfl (ih46 (i + 1) (by omega))
      exact aW_at [0, 1, 2] rfl rfl (by rw [show i = 6 by omega]; rfl) (lp46 (4) 0 (by omega))
    | succ j23 ih23 =>
      intro i hi
      refine a_iload_n hB dX10_forgets_23 rfl ?_
      refine a_bipushN (v := 6) hB dX10_forgets_24 (by decide) ?_
      refine a_icmp_geN_f (tgt := 44) hB dX10_forgets_26 (by decide) (by omega) (by omega) (by omega) ?_
      refine a_aload_n hB dX10_forgets_29 rfl ?_
      refine a_get (T := TX10) (ci := 10) hB dX10_forgets_30 0 fl_X10_7 lay_X10 rfl (by decide) rfl 0 rfl rfl ?_
      refine a_iconstN (v := 5) hB dX10_forgets_33 (by decide) ?_
      refine a_iload_n hB dX10_forgets_34 rfl ?_
      refine a_iaddN hB dX10_forgets_35 ?_
      refine a_iconstN (v := 0) hB dX10_forgets_36 (by decide) ?_
      refine a_iastoreN hB dX10_forgets_37 1 rfl (by omega) (by decide) ?_
      refine a_iincN (b := 1) hB dX10_forgets_38 rfl (by decide) (by decide) ?_
      refine a_goto (tgt := 23) hB dX10_forgets_41 (by decide) ?_
      exact aW_at [0, 1, 2] rfl rfl rfl (ih23 (i + 1) (by omega))
  exact aW_at [0, 1, 2] rfl rfl rfl (lp23 (6) 0 (by omega))
def lpz (z : Nat → Nat) (p : Nat) : Nat → Nat → Nat
  | 0 => z
  | i + 1 => uN (lpz z p i) (47 + 6 * p + i) (gt (wq (lpz z p i)) p i)
set_option maxHeartbeats 4000000 in
set_option maxRecDepth 100000 in
theorem c_X10_layPart {G : GP} {ma z : Nat → Nat} {sf : Nat → UInt64} {st : Nat} {hh : Nat → Nat} {sh : Nat → UInt64} {len : Nat} {tx : Nat → Nat} {th : Nat} {wy mo td : Nat → Nat} {re lo to : Nat} {rw : Nat → Nat} {ha : Int64} {p : Nat} (hp : p < 6) : AMd G sX10_layPart [.ref (ma 0), .int (nI p)] (wM G ma z sf st hh sh len tx th wy mo td re lo to rw ha) none (wM G ma (lpz z p 6) sf st hh sh len tx th wy mo td re lo to rw ha) := by
  refine AM.of (σ := sX10_layPart) (by decide +kernel) (by decide +kernel) (Nat.le_of_ble_eq_true rfl) (fun B hB hR hE0 hN => ?_)
  have hE := BE.of hE0
  refine a_iconstN (v := 0) hB dX10_layPart_0 (by decide) ?_
  refine a_istore_n hB dX10_layPart_1 (by decide) ?_
  have lp2 : ∀ (j2 i : Nat), i + j2 = 6 → aW G sX10_layPart B 2 [(0, .ref (ma 0)), (1, .int (nI p)), (2, .int (nI i))] [] (wM G ma (lpz z p i) sf st hh sh len tx th wy mo td re lo to rw ha) 0 0 := by
    intro j2
    induction j2 with
    | zero =>
      intro i hi
      refine a_iload_n hB dX10_layPart_2 rfl ?_
      refine a_bipushN (v := 6) hB dX10_layPart_3 (by decide) ?_
      refine a_icmp_geN_t (tgt := 34) hB dX10_layPart_5 (by decide) (by omega) (by omega) (by omega) ?_
      exact a_vret hB hE rfl dX10_layPart_34 (Nat.le_of_ble_eq_true rfl) (Nat.le_of_ble_eq_true rfl) (AKeep.of rfl) ⟨rfl, by rw [show i = 6 by omega]⟩
    | succ j2 ih2 =>
      intro i hi
      refine a_iload_n hB dX10_layPart_2 rfl ?_
      refine a_bipushN (v := 6) hB dX10_layPart_3 (by decide) ?_
      refine a_icmp_geN_f (tgt := 34) hB dX10_layPart_5 (by decide) (by omega) (by omega) (by omega) ?_
      refine a_aload_n hB dX10_layPart_8 rfl ?_
      refine a_get (T := TX10) (ci := 10) hB dX10_layPart_9 0 fl_X10_7 lay_X10 rfl (by decide) rfl 0 rfl rfl ?_
      refine a_bipushN (v := 47) hB dX10_layPart_12 (by decide) ?_
      refine a_bipushN (v := 6) hB dX10_layPart_14 (by decide) ?_
      refine a_iload_n hB dX10_layPart_16 rfl ?_
      refine a_imulN hB dX10_layPart_17 ?_
      refine a_iaddN hB dX10_layPart_18 ?_
      refine a_iload_n hB dX10_layPart_19 rfl ?_
      refine a_iaddN hB dX10_layPart_20 ?_
      refine a_aload_n hB dX10_layPart_21 rfl ?_
      refine a_iload_n hB dX10_layPart_22 rfl ?_
      refine a_iload_n hB dX10_layPart_23 rfl ?_
      refine a_callVr (q0 := 0) hB (c_X10_weightOf (by omega) (by omega)) mk_X10_weightOf ml_X10_50 dX10_layPart_24 rfl rfl [0, 1, 2, 3, 4, 5, 6, 7, 8, 9] rfl (by decide) rfl rfl (fit_of hR (by decide)) (Nat.le_of_ble_eq_true rfl) ?_
      refine a_iastoreN hB dX10_layPart_27 1 rfl (by omega) (by decide) ?_
      refine a_iincN (b := 1) hB dX10_layPart_28 rfl (by decide) (by decide) ?_
      refine a_goto (tgt := 2) hB dX10_layPart_31 (by decide) ?_
      exact aW_at [0, 1, 2] rfl rfl rfl (ih2 (i + 1) (by omega))
  exact aW_at [0, 1, 2] rfl rfl rfl (lp2 (6) 0 (by omega))
def svS (n s : Nat) {α : Type} (h : Nat → α) : Nat → Nat → α
  | 0 => h
  | i + 1 => uN (svS n s h i) (s + i - n) (svS n s h i (s + i))
def svC (b : Nat) {α : Type} (h v : Nat → α) : Nat → Nat → α
  | 0 => h
  | i + 1 => uN (svC b h v i) (b + i) (v i)
set_option maxHeartbeats 4000000 in
set_option maxRecDepth 100000 in
theorem c_X10_save_n {G : GP} {ma z : Nat → Nat} {sf : Nat → UInt64} {st : Nat} {hh : Nat → Nat} {sh : Nat → UInt64} {len : Nat} {tx : Nat → Nat} {th : Nat} {wy mo td : Nat → Nat} {re lo to : Nat} {rw : Nat → Nat} {ha : Int64} (hs : st < 6) : AMd G sX10_save [.ref (ma 0)] (wM G ma z sf st hh sh len tx th wy mo td re lo to rw ha) none (wM G ma z sf (st + 1) (svC (83 * st) hh z 83) (svC (4 * st) sh sf 4) len tx th wy mo td re lo to rw ha) := by
  refine AM.of (σ := sX10_save) (by decide +kernel) (by decide +kernel) (Nat.le_of_ble_eq_true rfl) (fun B hB hR hE0 hN => ?_)
  have hE := BE.of hE0
  refine a_aload_n hB dX10_save_0 rfl ?_
  refine a_get (T := TX10) (ci := 10) hB dX10_save_1 2 fl_X10_43 lay_X10 rfl (by decide) rfl 0 rfl rfl ?_
  refine a_bipushN (v := 6) hB dX10_save_4 (by decide) ?_
  refine a_icmp_neN_t (tgt := 78) hB dX10_save_6 (by decide) (by omega) (by omega) (by omega) ?_
  refine a_iconstN (v := 0) hB dX10_save_78 (by decide) ?_
  refine a_istore_n hB dX10_save_79 (by decide) ?_
  have lp80 : ∀ (j80 i : Nat), i + j80 = 83 → aW G sX10_save B 80 [(0, .ref (ma 0)), (1, .int (nI i))] [] (wM G ma z sf st (svC (83 * st) hh z i) sh len tx th wy mo td re lo to rw ha) 0 0 := by
    intro j80
    induction j80 with
    | zero =>
      intro i hi
      refine a_iload_n hB dX10_save_80 rfl ?_
      refine a_bipushN (v := 83) hB dX10_save_81 (by decide) ?_
      refine a_icmp_geN_t (tgt := 112) hB dX10_save_83 (by decide) (by omega) (by omega) (by omega) ?_
      refine a_iconstN (v := 0) hB dX10_save_112 (by decide) ?_
      refine a_istore_n hB dX10_save_113 (by decide) ?_
      have lp114 : ∀ (j114 i : Nat), i + j114 = 4 → aW G sX10_save B 114 [(0, .ref (ma 0)), (1, .int (nI i))] [] (wM G ma z sf st (svC (83 * st) hh z 83) (svC (4 * st) sh sf i) len tx th wy mo td re lo to rw ha) 0 0 := by
        intro j114
        induction j114 with
        | zero =>
          intro i hi
          refine a_iload_n hB dX10_save_114 rfl ?_
          refine a_iconstN (v := 4) hB dX10_save_115 (by decide) ?_
          refine a_icmp_geN_t (tgt := 144) hB dX10_save_116 (by decide) (by omega) (by omega) (by omega) ?_
          refine a_aload_n hB dX10_save_144 rfl ?_
          refine a_dup hB dX10_save_145 rfl ?_
          refine a_get (T := TX10) (ci := 10) hB dX10_save_146 2 fl_X10_43 lay_X10 rfl (by decide) rfl 0 rfl rfl ?_
          refine a_iconstN (v := 1) hB dX10_save_149 (by decide) ?_
          refine a_iaddN hB dX10_save_150 ?_
          refine a_put (T := TX10) (ci := 10) hB dX10_save_151 2 fl_X10_43 lay_X10 tyX10 tyX10_ok nmX10 rfl (by decide) rfl rfl 0 rfl rfl rfl rfl (Nat.le_of_ble_eq_true rfl) ?_
          exact a_vret hB hE rfl dX10_save_154 (Nat.le_of_ble_eq_true rfl) (Nat.le_of_ble_eq_true rfl) (AKeep.of rfl) ⟨rfl, by rw [show i = 4 by omega]; rfl⟩
        | succ j114 ih114 =>
          intro i hi
          refine a_iload_n hB dX10_save_114 rfl ?_
          refine a_iconstN (v := 4) hB dX10_save_115 (by decide) ?_
          refine a_icmp_geN_f (tgt := 144) hB dX10_save_116 (by decide) (by omega) (by omega) (by omega) ?_
          refine a_aload_n hB dX10_save_119 rfl ?_
          refine a_get (T := TX10) (ci := 10) hB dX10_save_120 4 fl_X10_20 lay_X10 rfl (by decide) rfl 0 rfl rfl ?_
          refine a_iconstN (v := 4) hB dX10_save_123 (by decide) ?_
          refine a_aload_n hB dX10_save_124 rfl ?_
          refine a_get (T := TX10) (ci := 10) hB dX10_save_125 2 fl_X10_43 lay_X10 rfl (by decide) rfl 0 rfl rfl ?_
          refine a_imulN hB dX10_save_128 ?_
          refine a_iload_n hB dX10_save_129 rfl ?_
          refine a_iaddN hB dX10_save_130 ?_
          refine a_aload_n hB dX10_save_131 rfl ?_
          refine a_get (T := TX10) (ci := 10) hB dX10_save_132 1 fl_X10_13 lay_X10 rfl (by decide) rfl 0 rfl rfl ?_
          refine a_iload_n hB dX10_save_135 rfl ?_
          refine a_daloadN hB dX10_save_136 2 rfl (by omega) (by decide) ?_
          refine a_dastoreN hB dX10_save_137 4 rfl (by omega) (by decide) ?_
          refine a_iincN (b := 1) hB dX10_save_138 rfl (by decide) (by decide) ?_
          refine a_goto (tgt := 114) hB dX10_save_141 (by decide) ?_
          exact aW_at [0, 1] rfl rfl rfl (ih114 (i + 1) (by omega))
      exact aW_at [0, 1] rfl rfl (by rw [show i = 83 by omega]; rfl) (lp114 (4) 0 (by omega))
    | succ j80 ih80 =>
      intro i hi
      refine a_iload_n hB dX10_save_80 rfl ?_
      refine a_bipushN (v := 83) hB dX10_save_81 (by decide) ?_
      refine a_icmp_geN_f (tgt := 112) hB dX10_save_83 (by decide) (by omega) (by omega) (by omega) ?_
      refine a_aload_n hB dX10_save_86 rfl ?_
      refine a_get (T := TX10) (ci := 10) hB dX10_save_87 3 fl_X10_17 lay_X10 rfl (by decide) rfl 0 rfl rfl ?_
      refine a_bipushN (v := 83) hB dX10_save_90 (by decide) ?_
      refine a_aload_n hB dX10_save_92 rfl ?_
      refine a_get (T := TX10) (ci := 10) hB dX10_save_93 2 fl_X10_43 lay_X10 rfl (by decide) rfl 0 rfl rfl ?_
      refine a_imulN hB dX10_save_96 ?_
      refine a_iload_n hB dX10_save_97 rfl ?_
      refine a_iaddN hB dX10_save_98 ?_
      refine a_aload_n hB dX10_save_99 rfl ?_
      refine a_get (T := TX10) (ci := 10) hB dX10_save_100 0 fl_X10_7 lay_X10 rfl (by decide) rfl 0 rfl rfl ?_
      refine a_iload_n hB dX10_save_103 rfl ?_
      refine a_ialoadN hB dX10_save_104 1 rfl (by omega) (by decide) ?_
      refine a_iastoreN hB dX10_save_105 3 rfl (by omega) (by decide) ?_
      refine a_iincN (b := 1) hB dX10_save_106 rfl (by decide) (by decide) ?_
      refine a_goto (tgt := 80) hB dX10_save_109 (by decide) ?_
      exact aW_at [0, 1] rfl rfl rfl (ih80 (i + 1) (by omega))
  exact aW_at [0, 1] rfl rfl rfl (lp80 (83) 0 (by omega))
set_option maxHeartbeats 4000000 in
set_option maxRecDepth 100000 in
theorem c_X10_save_f {G : GP} {ma z : Nat → Nat} {sf : Nat → UInt64} {st : Nat} {hh : Nat → Nat} {sh : Nat → UInt64} {len : Nat} {tx : Nat → Nat} {th : Nat} {wy mo td : Nat → Nat} {re lo to : Nat} {rw : Nat → Nat} {ha : Int64}  : AMd G sX10_save [.ref (ma 0)] (wM G ma z sf 6 hh sh len tx th wy mo td re lo to rw ha) none (wM G ma z sf (5 + 1) (svC (83 * 5) (svS 83 83 hh 415) z 83) (svC (4 * 5) (svS 4 4 sh 20) sf 4) len tx th wy mo td re lo to rw ha) := by
  refine AM.of (σ := sX10_save) (by decide +kernel) (by decide +kernel) (Nat.le_of_ble_eq_true rfl) (fun B hB hR hE0 hN => ?_)
  have hE := BE.of hE0
  refine a_aload_n hB dX10_save_0 rfl ?_
  refine a_get (T := TX10) (ci := 10) hB dX10_save_1 2 fl_X10_43 lay_X10 rfl (by decide) rfl 0 rfl rfl ?_
  refine a_bipushN (v := 6) hB dX10_save_4 (by decide) ?_
  refine a_icmp_neN_f (tgt := 78) hB dX10_save_6 (by decide) (by omega) (by omega) (by omega) ?_
  refine a_bipushN (v := 83) hB dX10_save_9 (by decide) ?_
  refine a_istore_n hB dX10_save_11 (by decide) ?_
  have lp12 : ∀ (j12 i : Nat), i + j12 = 415 → aW G sX10_save B 12 [(0, .ref (ma 0)), (1, .int (nI (83 + i)))] [] (wM G ma z sf 6 (svS 83 83 hh i) sh len tx th wy mo td re lo to rw ha) 0 0 := by
    intro j12
    induction j12 with
    | zero =>
      intro i hi
      refine a_iload_n hB dX10_save_12 rfl ?_
      refine a_sipushN (v := 498) hB dX10_save_13 (by decide) ?_
      refine a_icmp_geN_t (tgt := 40) hB dX10_save_16 (by decide) (by omega) (by omega) (by omega) ?_
      refine a_iconstN (v := 4) hB dX10_save_40 (by decide) ?_
      refine a_istore_n hB dX10_save_41 (by decide) ?_
      have lp42 : ∀ (j42 i : Nat), i + j42 = 20 → aW G sX10_save B 42 [(0, .ref (ma 0)), (1, .int (nI (4 + i)))] [] (wM G ma z sf 6 (svS 83 83 hh 415) (svS 4 4 sh i) len tx th wy mo td re lo to rw ha) 0 0 := by
        intro j42
        induction j42 with
        | zero =>
          intro i hi
          refine a_iload_n hB dX10_save_42 rfl ?_
          refine a_bipushN (v := 24) hB dX10_save_43 (by decide) ?_
          refine a_icmp_geN_t (tgt := 68) hB dX10_save_45 (by decide) (by omega) (by omega) (by omega) ?_
          refine a_aload_n hB dX10_save_68 rfl ?_
          refine a_dup hB dX10_save_69 rfl ?_
          refine a_get (T := TX10) (ci := 10) hB dX10_save_70 2 fl_X10_43 lay_X10 rfl (by decide) rfl 0 rfl rfl ?_
          refine a_iconstN (v := 1) hB dX10_save_73 (by decide) ?_
          refine a_isubN hB dX10_save_74 (by omega) ?_
          refine a_put (T := TX10) (ci := 10) hB dX10_save_75 2 fl_X10_43 lay_X10 tyX10 tyX10_ok nmX10 rfl (by decide) rfl rfl 0 rfl rfl rfl rfl (Nat.le_of_ble_eq_true rfl) ?_
          refine a_iconstN (v := 0) hB dX10_save_78 (by decide) ?_
          refine a_istore_n hB dX10_save_79 (by decide) ?_
          have lp80 : ∀ (j80 i : Nat), i + j80 = 83 → aW G sX10_save B 80 [(0, .ref (ma 0)), (1, .int (nI i))] [] (wM G ma z sf 5 (svC (83 * 5) (svS 83 83 hh 415) z i) (svS 4 4 sh 20) len tx th wy mo td re lo to rw ha) 0 0 := by
            intro j80
            induction j80 with
            | zero =>
              intro i hi
              refine a_iload_n hB dX10_save_80 rfl ?_
              refine a_bipushN (v := 83) hB dX10_save_81 (by decide) ?_
              refine a_icmp_geN_t (tgt := 112) hB dX10_save_83 (by decide) (by omega) (by omega) (by omega) ?_
              refine a_iconstN (v := 0) hB dX10_save_112 (by decide) ?_
              refine a_istore_n hB dX10_save_113 (by decide) ?_
              have lp114 : ∀ (j114 i : Nat), i + j114 = 4 → aW G sX10_save B 114 [(0, .ref (ma 0)), (1, .int (nI i))] [] (wM G ma z sf 5 (svC (83 * 5) (svS 83 83 hh 415) z 83) (svC (4 * 5) (svS 4 4 sh 20) sf i) len tx th wy mo td re lo to rw ha) 0 0 := by
                intro j114
                induction j114 with
                | zero =>
                  intro i hi
                  refine a_iload_n hB dX10_save_114 rfl ?_
                  refine a_iconstN (v := 4) hB dX10_save_115 (by decide) ?_
                  refine a_icmp_geN_t (tgt := 144) hB dX10_save_116 (by decide) (by omega) (by omega) (by omega) ?_
                  refine a_aload_n hB dX10_save_144 rfl ?_
                  refine a_dup hB dX10_save_145 rfl ?_
                  refine a_get (T := TX10) (ci := 10) hB dX10_save_146 2 fl_X10_43 lay_X10 rfl (by decide) rfl 0 rfl rfl ?_
                  refine a_iconstN (v := 1) hB dX10_save_149 (by decide) ?_
                  refine a_iaddN hB dX10_save_150 ?_
                  refine a_put (T := TX10) (ci := 10) hB dX10_save_151 2 fl_X10_43 lay_X10 tyX10 tyX10_ok nmX10 rfl (by decide) rfl rfl 0 rfl rfl rfl rfl (Nat.le_of_ble_eq_true rfl) ?_
                  exact a_vret hB hE rfl dX10_save_154 (Nat.le_of_ble_eq_true rfl) (Nat.le_of_ble_eq_true rfl) (AKeep.of rfl) ⟨rfl, by rw [show i = 4 by omega]; rfl⟩
                | succ j114 ih114 =>
                  intro i hi
                  refine a_iload_n hB dX10_save_114 rfl ?_
                  refine a_iconstN (v := 4) hB dX10_save_115 (by decide) ?_
                  refine a_icmp_geN_f (tgt := 144) hB dX10_save_116 (by decide) (by omega) (by omega) (by omega) ?_
                  refine a_aload_n hB dX10_save_119 rfl ?_
                  refine a_get (T := TX10) (ci := 10) hB dX10_save_120 4 fl_X10_20 lay_X10 rfl (by decide) rfl 0 rfl rfl ?_
                  refine a_iconstN (v := 4) hB dX10_save_123 (by decide) ?_
                  refine a_aload_n hB dX10_save_124 rfl ?_
                  refine a_get (T := TX10) (ci := 10) hB dX10_save_125 2 fl_X10_43 lay_X10 rfl (by decide) rfl 0 rfl rfl ?_
                  refine a_imulN hB dX10_save_128 ?_
                  refine a_iload_n hB dX10_save_129 rfl ?_
                  refine a_iaddN hB dX10_save_130 ?_
                  refine a_aload_n hB dX10_save_131 rfl ?_
                  refine a_get (T := TX10) (ci := 10) hB dX10_save_132 1 fl_X10_13 lay_X10 rfl (by decide) rfl 0 rfl rfl ?_
                  refine a_iload_n hB dX10_save_135 rfl ?_
                  refine a_daloadN hB dX10_save_136 2 rfl (by omega) (by decide) ?_
                  refine a_dastoreN hB dX10_save_137 4 rfl (by omega) (by decide) ?_
                  refine a_iincN (b := 1) hB dX10_save_138 rfl (by decide) (by decide) ?_
                  refine a_goto (tgt := 114) hB dX10_save_141 (by decide) ?_
                  exact aW_at [0, 1] rfl rfl rfl (ih114 (i + 1) (by omega))
              exact aW_at [0, 1] rfl rfl (by rw [show i = 83 by omega]; rfl) (lp114 (4) 0 (by omega))
            | succ j80 ih80 =>
              intro i hi
              refine a_iload_n hB dX10_save_80 rfl ?_
              refine a_bipushN (v := 83) hB dX10_save_81 (by decide) ?_
              refine a_icmp_geN_f (tgt := 112) hB dX10_save_83 (by decide) (by omega) (by omega) (by omega) ?_
              refine a_aload_n hB dX10_save_86 rfl ?_
              refine a_get (T := TX10) (ci := 10) hB dX10_save_87 3 fl_X10_17 lay_X10 rfl (by decide) rfl 0 rfl rfl ?_
              refine a_bipushN (v := 83) hB dX10_save_90 (by decide) ?_
              refine a_aload_n hB dX10_save_92 rfl ?_
              refine a_get (T := TX10) (ci := 10) hB dX10_save_93 2 fl_X10_43 lay_X10 rfl (by decide) rfl 0 rfl rfl ?_
              refine a_imulN hB dX10_save_96 ?_
              refine a_iload_n hB dX10_save_97 rfl ?_
              refine a_iaddN hB dX10_save_98 ?_
              refine a_aload_n hB dX10_save_99 rfl ?_
              refine a_get (T := TX10) (ci := 10) hB dX10_save_100 0 fl_X10_7 lay_X10 rfl (by decide) rfl 0 rfl rfl ?_
              refine a_iload_n hB dX10_save_103 rfl ?_
              refine a_ialoadN hB dX10_save_104 1 rfl (by omega) (by decide) ?_
              refine a_iastoreN hB dX10_save_105 3 rfl (by omega) (by decide) ?_
              refine a_iincN (b := 1) hB dX10_save_106 rfl (by decide) (by decide) ?_
              refine a_goto (tgt := 80) hB dX10_save_109 (by decide) ?_
              exact aW_at [0, 1] rfl rfl rfl (ih80 (i + 1) (by omega))
          exact aW_at [0, 1] rfl rfl (by rw [show i = 20 by omega]; rfl) (lp80 (83) 0 (by omega))
        | succ j42 ih42 =>
          intro i hi
          refine a_iload_n hB dX10_save_42 rfl ?_
          refine a_bipushN (v := 24) hB dX10_save_43 (by decide) ?_
          refine a_icmp_geN_f (tgt := 68) hB dX10_save_45 (by decide) (by omega) (by omega) (by omega) ?_
          refine a_aload_n hB dX10_save_48 rfl ?_
          refine a_get (T := TX10) (ci := 10) hB dX10_save_49 4 fl_X10_20 lay_X10 rfl (by decide) rfl 0 rfl rfl ?_
          refine a_iload_n hB dX10_save_52 rfl ?_
          refine a_iconstN (v := 4) hB dX10_save_53 (by decide) ?_
          refine a_isubN hB dX10_save_54 (by omega) ?_
          refine a_aload_n hB dX10_save_55 rfl ?_
          refine a_get (T := TX10) (ci := 10) hB dX10_save_56 4 fl_X10_20 lay_X10 rfl (by decide) rfl 0 rfl rfl ?_
          refine a_iload_n hB dX10_save_59 rfl ?_
          refine a_daloadN hB dX10_save_60 4 rfl (by omega) (by decide) ?_
          refine a_dastoreN hB dX10_save_61 4 rfl (by omega) (by decide) ?_
          refine a_iincN (b := 1) hB dX10_save_62 rfl (by decide) (by decide) ?_
          refine a_goto (tgt := 42) hB dX10_save_65 (by decide) ?_
          exact aW_at [0, 1] rfl rfl rfl (ih42 (i + 1) (by omega))
      exact aW_at [0, 1] rfl rfl (by rw [show i = 415 by omega]; rfl) (lp42 (20) 0 (by omega))
    | succ j12 ih12 =>
      intro i hi
      refine a_iload_n hB dX10_save_12 rfl ?_
      refine a_sipushN (v := 498) hB dX10_save_13 (by decide) ?_
      refine a_icmp_geN_f (tgt := 40) hB dX10_save_16 (by decide) (by omega) (by omega) (by omega) ?_
      refine a_aload_n hB dX10_save_19 rfl ?_
      refine a_get (T := TX10) (ci := 10) hB dX10_save_20 3 fl_X10_17 lay_X10 rfl (by decide) rfl 0 rfl rfl ?_
      refine a_iload_n hB dX10_save_23 rfl ?_
      refine a_bipushN (v := 83) hB dX10_save_24 (by decide) ?_
      refine a_isubN hB dX10_save_26 (by omega) ?_
      refine a_aload_n hB dX10_save_27 rfl ?_
      refine a_get (T := TX10) (ci := 10) hB dX10_save_28 3 fl_X10_17 lay_X10 rfl (by decide) rfl 0 rfl rfl ?_
      refine a_iload_n hB dX10_save_31 rfl ?_
      refine a_ialoadN hB dX10_save_32 3 rfl (by omega) (by decide) ?_
      refine a_iastoreN hB dX10_save_33 3 rfl (by omega) (by decide) ?_
      refine a_iincN (b := 1) hB dX10_save_34 rfl (by decide) (by decide) ?_
      refine a_goto (tgt := 12) hB dX10_save_37 (by decide) ?_
      exact aW_at [0, 1] rfl rfl rfl (ih12 (i + 1) (by omega))
  exact aW_at [0, 1] rfl rfl rfl (lp12 (415) 0 (by omega))
def svH (z hh : Nat → Nat) (st : Nat) : Nat → Nat := if st < 6 then svC (83 * st) hh z 83 else svC (83 * 5) (svS 83 83 hh 415) z 83
def svT (sf sh : Nat → UInt64) (st : Nat) : Nat → UInt64 := if st < 6 then svC (4 * st) sh sf 4 else svC (4 * 5) (svS 4 4 sh 20) sf 4
theorem c_X10_save {G : GP} {ma z : Nat → Nat} {sf : Nat → UInt64} {st : Nat} {hh : Nat → Nat} {sh : Nat → UInt64} {len : Nat} {tx : Nat → Nat} {th : Nat} {wy mo td : Nat → Nat} {re lo to : Nat} {rw : Nat → Nat} {ha : Int64} (hs : st ≤ 6) : AMd G sX10_save [.ref (ma 0)] (wM G ma z sf st hh sh len tx th wy mo td re lo to rw ha) none (wM G ma z sf (min (st + 1) 6) (svH z hh st) (svT sf sh st) len tx th wy mo td re lo to rw ha) := by
  rcases Nat.lt_or_ge st 6 with q | q
  · have h := c_X10_save_n (G := G) (ma := ma) (z := z) (sf := sf) (st := st) (hh := hh) (sh := sh) (len := len) (tx := tx) (th := th) (wy := wy) (mo := mo) (td := td) (re := re) (lo := lo) (to := to) (rw := rw) (ha := ha) q
    rw [show min (st + 1) 6 = st + 1 by omega, show svH z hh st = _ from if_pos q, show svT sf sh st = _ from if_pos q]
    exact h
  · obtain rfl : st = 6 := by omega
    exact c_X10_save_f (st := 0)
