/-- what counted answers, but the likeliest ways -/
def mC (z : Nat → Nat) (st : Nat) (k : Nat) : Nat := if k = 5 then sumN (fun p => lo6 (gt (wq z) p)) (z 0) else if k = 6 then sumN (fun p => hi6 (gt (wq z) p)) (z 0) else if k = 8 then st else z k
set_option maxHeartbeats 4000000 in
set_option maxRecDepth 100000 in
theorem c_X10_counted_0 {G : GP} {ma z : Nat → Nat} {sf : Nat → UInt64} {st : Nat} {hh : Nat → Nat} {sh : Nat → UInt64} {len : Nat} {tx : Nat → Nat} {th : Nat} {wy mo td : Nat → Nat} {re lo to : Nat} {rw : Nat → Nat} {ha : Int64} (h6 : z 0 ≤ 6) (hw : ∀ p l, p < 6 → l < 6 → gt (wq z) p l ≤ 9) (hpos : ∀ p, p < z 0 → ∃ l, l < 6 ∧ 0 < gt (wq z) p l) : AMd G sX10_counted [.ref (ma 0), .int (nI 0)] (wM G ma z sf st hh sh len tx th wy mo td re lo to rw ha) (some (.int (nI (mC z st 0)))) (wM G ma z sf st hh sh len tx th wy mo td re lo to rw ha) := by
  refine AM.of (σ := sX10_counted) (by decide +kernel) (by decide +kernel) (Nat.le_of_ble_eq_true rfl) (fun B hB hR hE0 hN => ?_)
  have hE := BE.of hE0
  refine a_iload_n hB dX10_counted_0 rfl ?_
  refine a_tableOut (tgt := 57) hB dX10_counted_1 (by decide) (by decide) ?_
  refine a_aload_n hB dX10_counted_57 rfl ?_
  refine a_get (T := TX10) (ci := 10) hB dX10_counted_58 0 fl_X10_7 lay_X10 rfl (by decide) rfl 0 rfl rfl ?_
  refine a_iload_n hB dX10_counted_61 rfl ?_
  refine a_ialoadN hB dX10_counted_62 1 rfl (by omega) (by decide) ?_
  exact a_iret hB hE rfl dX10_counted_63 (Nat.le_of_ble_eq_true rfl) (Nat.le_of_ble_eq_true rfl) (AKeep.of rfl) ⟨rfl, rfl⟩
set_option maxHeartbeats 4000000 in
set_option maxRecDepth 100000 in
theorem c_X10_counted_1 {G : GP} {ma z : Nat → Nat} {sf : Nat → UInt64} {st : Nat} {hh : Nat → Nat} {sh : Nat → UInt64} {len : Nat} {tx : Nat → Nat} {th : Nat} {wy mo td : Nat → Nat} {re lo to : Nat} {rw : Nat → Nat} {ha : Int64} (h6 : z 0 ≤ 6) (hw : ∀ p l, p < 6 → l < 6 → gt (wq z) p l ≤ 9) (hpos : ∀ p, p < z 0 → ∃ l, l < 6 ∧ 0 < gt (wq z) p l) : AMd G sX10_counted [.ref (ma 0), .int (nI 1)] (wM G ma z sf st hh sh len tx th wy mo td re lo to rw ha) (some (.int (nI (mC z st 1)))) (wM G ma z sf st hh sh len tx th wy mo td re lo to rw ha) := by
  refine AM.of (σ := sX10_counted) (by decide +kernel) (by decide +kernel) (Nat.le_of_ble_eq_true rfl) (fun B hB hR hE0 hN => ?_)
  have hE := BE.of hE0
  refine a_iload_n hB dX10_counted_0 rfl ?_
  refine a_tableOut (tgt := 57) hB dX10_counted_1 (by decide) (by decide) ?_
  refine a_aload_n hB dX10_counted_57 rfl ?_
  refine a_get (T := TX10) (ci := 10) hB dX10_counted_58 0 fl_X10_7 lay_X10 rfl (by decide) rfl 0 rfl rfl ?_
  refine a_iload_n hB dX10_counted_61 rfl ?_
  refine a_ialoadN hB dX10_counted_62 1 rfl (by omega) (by decide) ?_
  exact a_iret hB hE rfl dX10_counted_63 (Nat.le_of_ble_eq_true rfl) (Nat.le_of_ble_eq_true rfl) (AKeep.of rfl) ⟨rfl, rfl⟩
set_option maxHeartbeats 4000000 in
set_option maxRecDepth 100000 in
theorem c_X10_counted_2 {G : GP} {ma z : Nat → Nat} {sf : Nat → UInt64} {st : Nat} {hh : Nat → Nat} {sh : Nat → UInt64} {len : Nat} {tx : Nat → Nat} {th : Nat} {wy mo td : Nat → Nat} {re lo to : Nat} {rw : Nat → Nat} {ha : Int64} (h6 : z 0 ≤ 6) (hw : ∀ p l, p < 6 → l < 6 → gt (wq z) p l ≤ 9) (hpos : ∀ p, p < z 0 → ∃ l, l < 6 ∧ 0 < gt (wq z) p l) : AMd G sX10_counted [.ref (ma 0), .int (nI 2)] (wM G ma z sf st hh sh len tx th wy mo td re lo to rw ha) (some (.int (nI (mC z st 2)))) (wM G ma z sf st hh sh len tx th wy mo td re lo to rw ha) := by
  refine AM.of (σ := sX10_counted) (by decide +kernel) (by decide +kernel) (Nat.le_of_ble_eq_true rfl) (fun B hB hR hE0 hN => ?_)
  have hE := BE.of hE0
  refine a_iload_n hB dX10_counted_0 rfl ?_
  refine a_tableOut (tgt := 57) hB dX10_counted_1 (by decide) (by decide) ?_
  refine a_aload_n hB dX10_counted_57 rfl ?_
  refine a_get (T := TX10) (ci := 10) hB dX10_counted_58 0 fl_X10_7 lay_X10 rfl (by decide) rfl 0 rfl rfl ?_
  refine a_iload_n hB dX10_counted_61 rfl ?_
  refine a_ialoadN hB dX10_counted_62 1 rfl (by omega) (by decide) ?_
  exact a_iret hB hE rfl dX10_counted_63 (Nat.le_of_ble_eq_true rfl) (Nat.le_of_ble_eq_true rfl) (AKeep.of rfl) ⟨rfl, rfl⟩
set_option maxHeartbeats 4000000 in
set_option maxRecDepth 100000 in
theorem c_X10_counted_3 {G : GP} {ma z : Nat → Nat} {sf : Nat → UInt64} {st : Nat} {hh : Nat → Nat} {sh : Nat → UInt64} {len : Nat} {tx : Nat → Nat} {th : Nat} {wy mo td : Nat → Nat} {re lo to : Nat} {rw : Nat → Nat} {ha : Int64} (h6 : z 0 ≤ 6) (hw : ∀ p l, p < 6 → l < 6 → gt (wq z) p l ≤ 9) (hpos : ∀ p, p < z 0 → ∃ l, l < 6 ∧ 0 < gt (wq z) p l) : AMd G sX10_counted [.ref (ma 0), .int (nI 3)] (wM G ma z sf st hh sh len tx th wy mo td re lo to rw ha) (some (.int (nI (mC z st 3)))) (wM G ma z sf st hh sh len tx th wy mo td re lo to rw ha) := by
  refine AM.of (σ := sX10_counted) (by decide +kernel) (by decide +kernel) (Nat.le_of_ble_eq_true rfl) (fun B hB hR hE0 hN => ?_)
  have hE := BE.of hE0
  refine a_iload_n hB dX10_counted_0 rfl ?_
  refine a_tableOut (tgt := 57) hB dX10_counted_1 (by decide) (by decide) ?_
  refine a_aload_n hB dX10_counted_57 rfl ?_
  refine a_get (T := TX10) (ci := 10) hB dX10_counted_58 0 fl_X10_7 lay_X10 rfl (by decide) rfl 0 rfl rfl ?_
  refine a_iload_n hB dX10_counted_61 rfl ?_
  refine a_ialoadN hB dX10_counted_62 1 rfl (by omega) (by decide) ?_
  exact a_iret hB hE rfl dX10_counted_63 (Nat.le_of_ble_eq_true rfl) (Nat.le_of_ble_eq_true rfl) (AKeep.of rfl) ⟨rfl, rfl⟩
set_option maxHeartbeats 4000000 in
set_option maxRecDepth 100000 in
theorem c_X10_counted_4 {G : GP} {ma z : Nat → Nat} {sf : Nat → UInt64} {st : Nat} {hh : Nat → Nat} {sh : Nat → UInt64} {len : Nat} {tx : Nat → Nat} {th : Nat} {wy mo td : Nat → Nat} {re lo to : Nat} {rw : Nat → Nat} {ha : Int64} (h6 : z 0 ≤ 6) (hw : ∀ p l, p < 6 → l < 6 → gt (wq z) p l ≤ 9) (hpos : ∀ p, p < z 0 → ∃ l, l < 6 ∧ 0 < gt (wq z) p l) : AMd G sX10_counted [.ref (ma 0), .int (nI 4)] (wM G ma z sf st hh sh len tx th wy mo td re lo to rw ha) (some (.int (nI (mC z st 4)))) (wM G ma z sf st hh sh len tx th wy mo td re lo to rw ha) := by
  refine AM.of (σ := sX10_counted) (by decide +kernel) (by decide +kernel) (Nat.le_of_ble_eq_true rfl) (fun B hB hR hE0 hN => ?_)
  have hE := BE.of hE0
  refine a_iload_n hB dX10_counted_0 rfl ?_
  refine a_tableOut (tgt := 57) hB dX10_counted_1 (by decide) (by decide) ?_
  refine a_aload_n hB dX10_counted_57 rfl ?_
  refine a_get (T := TX10) (ci := 10) hB dX10_counted_58 0 fl_X10_7 lay_X10 rfl (by decide) rfl 0 rfl rfl ?_
  refine a_iload_n hB dX10_counted_61 rfl ?_
  refine a_ialoadN hB dX10_counted_62 1 rfl (by omega) (by decide) ?_
  exact a_iret hB hE rfl dX10_counted_63 (Nat.le_of_ble_eq_true rfl) (Nat.le_of_ble_eq_true rfl) (AKeep.of rfl) ⟨rfl, rfl⟩
set_option maxHeartbeats 4000000 in
set_option maxRecDepth 100000 in
theorem c_X10_counted_5 {G : GP} {ma z : Nat → Nat} {sf : Nat → UInt64} {st : Nat} {hh : Nat → Nat} {sh : Nat → UInt64} {len : Nat} {tx : Nat → Nat} {th : Nat} {wy mo td : Nat → Nat} {re lo to : Nat} {rw : Nat → Nat} {ha : Int64} (h6 : z 0 ≤ 6) (hw : ∀ p l, p < 6 → l < 6 → gt (wq z) p l ≤ 9) (hpos : ∀ p, p < z 0 → ∃ l, l < 6 ∧ 0 < gt (wq z) p l) : AMd G sX10_counted [.ref (ma 0), .int (nI 5)] (wM G ma z sf st hh sh len tx th wy mo td re lo to rw ha) (some (.int (nI (mC z st 5)))) (wM G ma z sf st hh sh len tx th wy mo td re lo to rw ha) := by
  refine AM.of (σ := sX10_counted) (by decide +kernel) (by decide +kernel) (Nat.le_of_ble_eq_true rfl) (fun B hB hR hE0 hN => ?_)
  have hE := BE.of hE0
  refine a_iload_n hB dX10_counted_0 rfl ?_
  refine a_tableIn (off := 31) (tgt := 32) hB dX10_counted_1 (by decide) (by decide) (by decide) (by decide) ?_
  refine a_aload_n hB dX10_counted_32 rfl ?_
  refine a_iload_n hB dX10_counted_33 rfl ?_
  refine a_iconstN (v := 5) hB dX10_counted_34 (by decide) ?_
  refine a_icmp_neN_f (tgt := 42) hB dX10_counted_35 (by decide) (by omega) (by omega) (by omega) ?_
  refine a_iconstN (v := 1) hB dX10_counted_38 (by decide) ?_
  refine a_goto (tgt := 43) hB dX10_counted_39 (by decide) ?_
  refine a_callVr (q0 := 0) hB (c_X10_endSum_1 h6 hw hpos) mk_X10_endSum ml_X10_167 dX10_counted_43 rfl rfl [0, 1, 2, 3, 4, 5, 6, 7, 8, 9] rfl (by decide) rfl rfl (fit_of hR (by decide)) (Nat.le_of_ble_eq_true rfl) ?_
  exact a_iret hB hE rfl dX10_counted_46 (Nat.le_of_ble_eq_true rfl) (Nat.le_of_ble_eq_true rfl) (AKeep.of rfl) ⟨rfl, rfl⟩
set_option maxHeartbeats 4000000 in
set_option maxRecDepth 100000 in
theorem c_X10_counted_6 {G : GP} {ma z : Nat → Nat} {sf : Nat → UInt64} {st : Nat} {hh : Nat → Nat} {sh : Nat → UInt64} {len : Nat} {tx : Nat → Nat} {th : Nat} {wy mo td : Nat → Nat} {re lo to : Nat} {rw : Nat → Nat} {ha : Int64} (h6 : z 0 ≤ 6) (hw : ∀ p l, p < 6 → l < 6 → gt (wq z) p l ≤ 9) (hpos : ∀ p, p < z 0 → ∃ l, l < 6 ∧ 0 < gt (wq z) p l) : AMd G sX10_counted [.ref (ma 0), .int (nI 6)] (wM G ma z sf st hh sh len tx th wy mo td re lo to rw ha) (some (.int (nI (mC z st 6)))) (wM G ma z sf st hh sh len tx th wy mo td re lo to rw ha) := by
  refine AM.of (σ := sX10_counted) (by decide +kernel) (by decide +kernel) (Nat.le_of_ble_eq_true rfl) (fun B hB hR hE0 hN => ?_)
  have hE := BE.of hE0
  refine a_iload_n hB dX10_counted_0 rfl ?_
  refine a_tableIn (off := 31) (tgt := 32) hB dX10_counted_1 (by decide) (by decide) (by decide) (by decide) ?_
  refine a_aload_n hB dX10_counted_32 rfl ?_
  refine a_iload_n hB dX10_counted_33 rfl ?_
  refine a_iconstN (v := 5) hB dX10_counted_34 (by decide) ?_
  refine a_icmp_neN_t (tgt := 42) hB dX10_counted_35 (by decide) (by omega) (by omega) (by omega) ?_
  refine a_iconstN (v := 0) hB dX10_counted_42 (by decide) ?_
  refine a_callVr (q0 := 0) hB (c_X10_endSum_0 h6 hw hpos) mk_X10_endSum ml_X10_167 dX10_counted_43 rfl rfl [0, 1, 2, 3, 4, 5, 6, 7, 8, 9] rfl (by decide) rfl rfl (fit_of hR (by decide)) (Nat.le_of_ble_eq_true rfl) ?_
  exact a_iret hB hE rfl dX10_counted_46 (Nat.le_of_ble_eq_true rfl) (Nat.le_of_ble_eq_true rfl) (AKeep.of rfl) ⟨rfl, rfl⟩
set_option maxHeartbeats 4000000 in
set_option maxRecDepth 100000 in
theorem c_X10_counted_8 {G : GP} {ma z : Nat → Nat} {sf : Nat → UInt64} {st : Nat} {hh : Nat → Nat} {sh : Nat → UInt64} {len : Nat} {tx : Nat → Nat} {th : Nat} {wy mo td : Nat → Nat} {re lo to : Nat} {rw : Nat → Nat} {ha : Int64} (h6 : z 0 ≤ 6) (hw : ∀ p l, p < 6 → l < 6 → gt (wq z) p l ≤ 9) (hpos : ∀ p, p < z 0 → ∃ l, l < 6 ∧ 0 < gt (wq z) p l) : AMd G sX10_counted [.ref (ma 0), .int (nI 8)] (wM G ma z sf st hh sh len tx th wy mo td re lo to rw ha) (some (.int (nI (mC z st 8)))) (wM G ma z sf st hh sh len tx th wy mo td re lo to rw ha) := by
  refine AM.of (σ := sX10_counted) (by decide +kernel) (by decide +kernel) (Nat.le_of_ble_eq_true rfl) (fun B hB hR hE0 hN => ?_)
  have hE := BE.of hE0
  refine a_iload_n hB dX10_counted_0 rfl ?_
  refine a_tableIn (off := 51) (tgt := 52) hB dX10_counted_1 (by decide) (by decide) (by decide) (by decide) ?_
  refine a_aload_n hB dX10_counted_52 rfl ?_
  refine a_get (T := TX10) (ci := 10) hB dX10_counted_53 2 fl_X10_43 lay_X10 rfl (by decide) rfl 0 rfl rfl ?_
  exact a_iret hB hE rfl dX10_counted_56 (Nat.le_of_ble_eq_true rfl) (Nat.le_of_ble_eq_true rfl) (AKeep.of rfl) ⟨rfl, rfl⟩
set_option maxHeartbeats 4000000 in
set_option maxRecDepth 100000 in
theorem c_X10_counted_7 {G : GP} {ma z : Nat → Nat} {sf : Nat → UInt64} {st : Nat} {hh : Nat → Nat} {sh : Nat → UInt64} {len : Nat} {tx : Nat → Nat} {th : Nat} {wy mo td : Nat → Nat} {re lo to : Nat} {rw : Nat → Nat} {ha : Int64} (h6 : z 0 ≤ 6) (hw : ∀ p l, p < 6 → l < 6 → gt (wq z) p l ≤ 9) (hl : z 1 ≤ 99) : AMd G sX10_counted [.ref (ma 0), .int (nI 7)] (wM G ma z sf st hh sh len tx th wy mo td re lo to rw ha) (some (.int (nI (bm (wq z) (z 0) (z 0) (z 1))))) (wM G ma z sf st hh sh len tx th wy (lkm (wq z) mo (z 0) 0 0) td re lo to rw ha) := by
  refine AM.of (σ := sX10_counted) (by decide +kernel) (by decide +kernel) (Nat.le_of_ble_eq_true rfl) (fun B hB hR hE0 hN => ?_)
  have hE := BE.of hE0
  refine a_iload_n hB dX10_counted_0 rfl ?_
  refine a_tableIn (off := 46) (tgt := 47) hB dX10_counted_1 (by decide) (by decide) (by decide) (by decide) ?_
  refine a_aload_n hB dX10_counted_47 rfl ?_
  refine a_callVd (w2 := wM G ma z sf st hh sh len tx th wy (lkm (wq z) mo (z 0) 0 0) td re lo to rw ha) (q0 := 0) hB (c_X10_likeliestWays h6 hw hl) mk_X10_likeliestWays ml_X10_96 dX10_counted_48 rfl rfl [0, 1, 2, 3, 4, 5, 6, 7, 8, 9] rfl (by decide) rfl rfl (fit_of hR (by decide)) (Nat.le_of_ble_eq_true rfl) (wput_all rfl rfl) ?_
  exact a_iret hB hE rfl dX10_counted_51 (Nat.le_of_ble_eq_true rfl) (Nat.le_of_ble_eq_true rfl) (AKeep.of rfl) ⟨rfl, rfl⟩
