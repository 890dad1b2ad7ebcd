set_option maxHeartbeats 4000000 in
set_option maxRecDepth 100000 in
theorem c_X10_ways_r {G : GP} {ma z : Nat → Nat} {sf : Nat → UInt64} {st : Nat} {hh : Nat → Nat} {sh : Nat → UInt64} {len : Nat} {tx : Nat → Nat} {th : Nat} {wy mo td : Nat → Nat} {re lo to : Nat} {rw : Nat → Nat} {ha : Int64} {x y : Int32} (h : x < nI 0 ∨ nI 99 < x) : AMd G sX10_ways [.ref (ma 0), .int x, .int y] (wM G ma z sf st hh sh len tx th wy mo td re lo to rw ha) (some (.long (lN 0))) (wM G ma z sf st hh sh len tx 1 wy mo td re lo to rw ha) := by
  refine AM.of (σ := sX10_ways) (by decide +kernel) (by decide +kernel) (Nat.le_of_ble_eq_true rfl) (fun B hB hR hE0 hN => ?_)
  have hE := BE.of hE0
  refine a_aload_n hB dX10_ways_0 rfl ?_
  refine a_iload_n hB dX10_ways_1 rfl ?_
  refine a_callSr hB (c_X10_isLimit_n h) mk_X10_isLimit ml_X10_120 dX10_ways_2 rfl rfl [] rfl (by decide) (fit_of hR (by decide)) (Nat.le_of_ble_eq_true rfl) ?_
  refine a_if_eqN_t (tgt := 12) hB dX10_ways_5 (by decide) (by omega) (by omega) ?_
  refine a_iconstN (v := 1) hB dX10_ways_12 (by decide) ?_
  refine a_put (T := TX10) (ci := 10) hB dX10_ways_13 7 fl_X10_39 lay_X10 tyX10 tyX10_ok nmX10 rfl (by decide) rfl rfl 0 rfl rfl rfl rfl (Nat.le_of_ble_eq_true rfl) ?_
  refine a_aload_n hB dX10_ways_16 rfl ?_
  refine a_get (T := TX10) (ci := 10) hB dX10_ways_17 7 fl_X10_39 lay_X10 rfl (by decide) rfl 0 rfl rfl ?_
  refine a_if_leN_f (tgt := 27) hB dX10_ways_20 (by decide) (by omega) (by omega) ?_
  refine a_lconstN (v := 0) hB dX10_ways_23 (by decide) ?_
  refine a_goto (tgt := 33) hB dX10_ways_24 (by decide) ?_
  exact a_lret hB hE rfl dX10_ways_33 (Nat.le_of_ble_eq_true rfl) (Nat.le_of_ble_eq_true rfl) (AKeep.of rfl) ⟨rfl, rfl⟩
set_option maxHeartbeats 4000000 in
set_option maxRecDepth 100000 in
theorem c_X10_count_r {G : GP} {ma z : Nat → Nat} {sf : Nat → UInt64} {st : Nat} {hh : Nat → Nat} {sh : Nat → UInt64} {len : Nat} {tx : Nat → Nat} {th : Nat} {wy mo td : Nat → Nat} {re lo to : Nat} {rw : Nat → Nat} {ha : Int64} {x : Int32} (h : x < nI 0 ∨ nI 8 < x) : AMd G sX10_count [.ref (ma 0), .int x] (wM G ma z sf st hh sh len tx th wy mo td re lo to rw ha) (some (.int (nI 0))) (wM G ma z sf st hh sh len tx 1 wy mo td re lo to rw ha) := by
  refine AM.of (σ := sX10_count) (by decide +kernel) (by decide +kernel) (Nat.le_of_ble_eq_true rfl) (fun B hB hR hE0 hN => ?_)
  have hE := BE.of hE0
  refine a_aload_n hB dX10_count_0 rfl ?_
  refine a_iload_n hB dX10_count_1 rfl ?_
  refine a_iconstN (v := 0) hB dX10_count_2 (by decide) ?_
  refine a_bipushN (v := 8) hB dX10_count_3 (by decide) ?_
  refine a_callSr hB (c_X10_within_n h) mk_X10_within ml_X10_46 dX10_count_5 rfl rfl [] rfl (by decide) (fit_of hR (by decide)) (Nat.le_of_ble_eq_true rfl) ?_
  refine a_if_eqN_t (tgt := 15) hB dX10_count_8 (by decide) (by omega) (by omega) ?_
  refine a_iconstN (v := 1) hB dX10_count_15 (by decide) ?_
  refine a_put (T := TX10) (ci := 10) hB dX10_count_16 7 fl_X10_39 lay_X10 tyX10 tyX10_ok nmX10 rfl (by decide) rfl rfl 0 rfl rfl rfl rfl (Nat.le_of_ble_eq_true rfl) ?_
  refine a_aload_n hB dX10_count_19 rfl ?_
  refine a_get (T := TX10) (ci := 10) hB dX10_count_20 7 fl_X10_39 lay_X10 rfl (by decide) rfl 0 rfl rfl ?_
  refine a_if_leN_f (tgt := 30) hB dX10_count_23 (by decide) (by omega) (by omega) ?_
  refine a_iconstN (v := 0) hB dX10_count_26 (by decide) ?_
  refine a_goto (tgt := 35) hB dX10_count_27 (by decide) ?_
  exact a_iret hB hE rfl dX10_count_35 (Nat.le_of_ble_eq_true rfl) (Nat.le_of_ble_eq_true rfl) (AKeep.of rfl) ⟨rfl, rfl⟩
set_option maxHeartbeats 4000000 in
set_option maxRecDepth 100000 in
theorem c_X10_measure_r {G : GP} {ma z : Nat → Nat} {sf : Nat → UInt64} {st : Nat} {hh : Nat → Nat} {sh : Nat → UInt64} {len : Nat} {tx : Nat → Nat} {th : Nat} {wy mo td : Nat → Nat} {re lo to : Nat} {rw : Nat → Nat} {ha : Int64} {x : Int32} (h : x < nI 0 ∨ nI 6 < x) : AMd G sX10_measure [.ref (ma 0), .int x] (wM G ma z sf st hh sh len tx th wy mo td re lo to rw ha) (some (.double FP.dconst0)) (wM G ma z sf st hh sh len tx 1 wy mo td re lo to rw ha) := by
  refine AM.of (σ := sX10_measure) (by decide +kernel) (by decide +kernel) (Nat.le_of_ble_eq_true rfl) (fun B hB hR hE0 hN => ?_)
  have hE := BE.of hE0
  refine a_aload_n hB dX10_measure_0 rfl ?_
  refine a_iload_n hB dX10_measure_1 rfl ?_
  refine a_iconstN (v := 0) hB dX10_measure_2 (by decide) ?_
  refine a_bipushN (v := 6) hB dX10_measure_3 (by decide) ?_
  refine a_callSr hB (c_X10_within_n h) mk_X10_within ml_X10_46 dX10_measure_5 rfl rfl [] rfl (by decide) (fit_of hR (by decide)) (Nat.le_of_ble_eq_true rfl) ?_
  refine a_if_eqN_t (tgt := 15) hB dX10_measure_8 (by decide) (by omega) (by omega) ?_
  refine a_iconstN (v := 1) hB dX10_measure_15 (by decide) ?_
  refine a_put (T := TX10) (ci := 10) hB dX10_measure_16 7 fl_X10_39 lay_X10 tyX10 tyX10_ok nmX10 rfl (by decide) rfl rfl 0 rfl rfl rfl rfl (Nat.le_of_ble_eq_true rfl) ?_
  refine a_aload_n hB dX10_measure_19 rfl ?_
  refine a_get (T := TX10) (ci := 10) hB dX10_measure_20 7 fl_X10_39 lay_X10 rfl (by decide) rfl 0 rfl rfl ?_
  refine a_if_leN_f (tgt := 30) hB dX10_measure_23 (by decide) (by omega) (by omega) ?_
  refine a_dconst0 hB dX10_measure_26 ?_
  refine a_goto (tgt := 35) hB dX10_measure_27 (by decide) ?_
  exact a_dret hB hE rfl dX10_measure_35 (Nat.le_of_ble_eq_true rfl) (Nat.le_of_ble_eq_true rfl) (AKeep.of rfl) ⟨rfl, rfl⟩
set_option maxHeartbeats 4000000 in
set_option maxRecDepth 100000 in
theorem c_X10_ifLimit_r {G : GP} {ma z : Nat → Nat} {sf : Nat → UInt64} {st : Nat} {hh : Nat → Nat} {sh : Nat → UInt64} {len : Nat} {tx : Nat → Nat} {th : Nat} {wy mo td : Nat → Nat} {re lo to : Nat} {rw : Nat → Nat} {ha : Int64} {x : Int32} (h : x < nI 0 ∨ nI 99 < x) : AMd G sX10_ifLimit [.ref (ma 0), .int x] (wM G ma z sf st hh sh len tx th wy mo td re lo to rw ha) (some (.double FP.dconst0)) (wM G ma z sf st hh sh len tx 1 wy mo td re lo to rw ha) := by
  refine AM.of (σ := sX10_ifLimit) (by decide +kernel) (by decide +kernel) (Nat.le_of_ble_eq_true rfl) (fun B hB hR hE0 hN => ?_)
  have hE := BE.of hE0
  refine a_aload_n hB dX10_ifLimit_0 rfl ?_
  refine a_iload_n hB dX10_ifLimit_1 rfl ?_
  refine a_callSr hB (c_X10_isLimit_n h) mk_X10_isLimit ml_X10_120 dX10_ifLimit_2 rfl rfl [] rfl (by decide) (fit_of hR (by decide)) (Nat.le_of_ble_eq_true rfl) ?_
  refine a_if_eqN_t (tgt := 12) hB dX10_ifLimit_5 (by decide) (by omega) (by omega) ?_
  refine a_iconstN (v := 1) hB dX10_ifLimit_12 (by decide) ?_
  refine a_put (T := TX10) (ci := 10) hB dX10_ifLimit_13 7 fl_X10_39 lay_X10 tyX10 tyX10_ok nmX10 rfl (by decide) rfl rfl 0 rfl rfl rfl rfl (Nat.le_of_ble_eq_true rfl) ?_
  refine a_aload_n hB dX10_ifLimit_16 rfl ?_
  refine a_get (T := TX10) (ci := 10) hB dX10_ifLimit_17 7 fl_X10_39 lay_X10 rfl (by decide) rfl 0 rfl rfl ?_
  refine a_if_leN_f (tgt := 27) hB dX10_ifLimit_20 (by decide) (by omega) (by omega) ?_
  refine a_dconst0 hB dX10_ifLimit_23 ?_
  refine a_goto (tgt := 33) hB dX10_ifLimit_24 (by decide) ?_
  exact a_dret hB hE rfl dX10_ifLimit_33 (Nat.le_of_ble_eq_true rfl) (Nat.le_of_ble_eq_true rfl) (AKeep.of rfl) ⟨rfl, rfl⟩
set_option maxHeartbeats 4000000 in
set_option maxRecDepth 100000 in
theorem c_X10_limitFor_r {G : GP} {ma z : Nat → Nat} {sf : Nat → UInt64} {st : Nat} {hh : Nat → Nat} {sh : Nat → UInt64} {len : Nat} {tx : Nat → Nat} {th : Nat} {wy mo td : Nat → Nat} {re lo to : Nat} {rw : Nat → Nat} {ha : Int64} {x : Int32} (h : x < nI 0 ∨ nI 1000 < x) : AMd G sX10_limitFor [.ref (ma 0), .int x] (wM G ma z sf st hh sh len tx th wy mo td re lo to rw ha) (some (.int (nI 0))) (wM G ma z sf st hh sh len tx 1 wy mo td re lo to rw ha) := by
  refine AM.of (σ := sX10_limitFor) (by decide +kernel) (by decide +kernel) (Nat.le_of_ble_eq_true rfl) (fun B hB hR hE0 hN => ?_)
  have hE := BE.of hE0
  refine a_aload_n hB dX10_limitFor_0 rfl ?_
  refine a_iload_n hB dX10_limitFor_1 rfl ?_
  refine a_iconstN (v := 0) hB dX10_limitFor_2 (by decide) ?_
  refine a_sipushN (v := 1000) hB dX10_limitFor_3 (by decide) ?_
  refine a_callSr hB (c_X10_within_n h) mk_X10_within ml_X10_46 dX10_limitFor_6 rfl rfl [] rfl (by decide) (fit_of hR (by decide)) (Nat.le_of_ble_eq_true rfl) ?_
  refine a_if_eqN_t (tgt := 16) hB dX10_limitFor_9 (by decide) (by omega) (by omega) ?_
  refine a_iconstN (v := 1) hB dX10_limitFor_16 (by decide) ?_
  refine a_put (T := TX10) (ci := 10) hB dX10_limitFor_17 7 fl_X10_39 lay_X10 tyX10 tyX10_ok nmX10 rfl (by decide) rfl rfl 0 rfl rfl rfl rfl (Nat.le_of_ble_eq_true rfl) ?_
  refine a_aload_n hB dX10_limitFor_20 rfl ?_
  refine a_get (T := TX10) (ci := 10) hB dX10_limitFor_21 7 fl_X10_39 lay_X10 rfl (by decide) rfl 0 rfl rfl ?_
  refine a_if_leN_f (tgt := 31) hB dX10_limitFor_24 (by decide) (by omega) (by omega) ?_
  refine a_iconstN (v := 0) hB dX10_limitFor_27 (by decide) ?_
  refine a_goto (tgt := 36) hB dX10_limitFor_28 (by decide) ?_
  exact a_iret hB hE rfl dX10_limitFor_36 (Nat.le_of_ble_eq_true rfl) (Nat.le_of_ble_eq_true rfl) (AKeep.of rfl) ⟨rfl, rfl⟩
set_option maxHeartbeats 4000000 in
set_option maxRecDepth 100000 in
theorem c_X10_tiltAll_r {G : GP} {ma z : Nat → Nat} {sf : Nat → UInt64} {st : Nat} {hh : Nat → Nat} {sh : Nat → UInt64} {len : Nat} {tx : Nat → Nat} {th : Nat} {wy mo td : Nat → Nat} {re lo to : Nat} {rw : Nat → Nat} {ha : Int64} {x : Int32} (h : x < nI 0 ∨ nI 9 < x) : AMd G sX10_tiltAll [.ref (ma 0), .int x] (wM G ma z sf st hh sh len tx th wy mo td re lo to rw ha) (some (.int (nI 0))) (wM G ma z sf st hh sh len tx 1 wy mo td re lo to rw ha) := by
  refine AM.of (σ := sX10_tiltAll) (by decide +kernel) (by decide +kernel) (Nat.le_of_ble_eq_true rfl) (fun B hB hR hE0 hN => ?_)
  have hE := BE.of hE0
  refine a_aload_n hB dX10_tiltAll_0 rfl ?_
  refine a_iload_n hB dX10_tiltAll_1 rfl ?_
  refine a_iconstN (v := 0) hB dX10_tiltAll_2 (by decide) ?_
  refine a_bipushN (v := 9) hB dX10_tiltAll_3 (by decide) ?_
  refine a_callSr hB (c_X10_within_n h) mk_X10_within ml_X10_46 dX10_tiltAll_5 rfl rfl [] rfl (by decide) (fit_of hR (by decide)) (Nat.le_of_ble_eq_true rfl) ?_
  refine a_if_eqN_t (tgt := 15) hB dX10_tiltAll_8 (by decide) (by omega) (by omega) ?_
  refine a_iconstN (v := 1) hB dX10_tiltAll_15 (by decide) ?_
  refine a_put (T := TX10) (ci := 10) hB dX10_tiltAll_16 7 fl_X10_39 lay_X10 tyX10 tyX10_ok nmX10 rfl (by decide) rfl rfl 0 rfl rfl rfl rfl (Nat.le_of_ble_eq_true rfl) ?_
  refine a_aload_n hB dX10_tiltAll_19 rfl ?_
  refine a_get (T := TX10) (ci := 10) hB dX10_tiltAll_20 7 fl_X10_39 lay_X10 rfl (by decide) rfl 0 rfl rfl ?_
  refine a_if_leN_f (tgt := 28) hB dX10_tiltAll_23 (by decide) (by omega) (by omega) ?_
  refine a_iconstN (v := 0) hB dX10_tiltAll_26 (by decide) ?_
  exact a_iret hB hE rfl dX10_tiltAll_27 (Nat.le_of_ble_eq_true rfl) (Nat.le_of_ble_eq_true rfl) (AKeep.of rfl) ⟨rfl, rfl⟩
set_option maxHeartbeats 4000000 in
set_option maxRecDepth 100000 in
theorem c_X10_draw_r {G : GP} {ma z : Nat → Nat} {sf : Nat → UInt64} {st : Nat} {hh : Nat → Nat} {sh : Nat → UInt64} {len : Nat} {tx : Nat → Nat} {th : Nat} {wy mo td : Nat → Nat} {re lo to : Nat} {rw : Nat → Nat} {ha : Int64} {x : Int32} (h : x < nI 1 ∨ nI 64 < x) : AMd G sX10_draw [.ref (ma 0), .int x] (wM G ma z sf st hh sh len tx th wy mo td re lo to rw ha) (some (.int (nI 0))) (wM G ma z sf st hh sh len tx 1 wy mo td re lo to rw ha) := by
  refine AM.of (σ := sX10_draw) (by decide +kernel) (by decide +kernel) (Nat.le_of_ble_eq_true rfl) (fun B hB hR hE0 hN => ?_)
  have hE := BE.of hE0
  refine a_aload_n hB dX10_draw_0 rfl ?_
  refine a_iload_n hB dX10_draw_1 rfl ?_
  refine a_iconstN (v := 1) hB dX10_draw_2 (by decide) ?_
  refine a_bipushN (v := 64) hB dX10_draw_3 (by decide) ?_
  refine a_callSr hB (c_X10_within_n h) mk_X10_within ml_X10_46 dX10_draw_5 rfl rfl [] rfl (by decide) (fit_of hR (by decide)) (Nat.le_of_ble_eq_true rfl) ?_
  refine a_if_neN_f (tgt := 15) hB dX10_draw_8 (by decide) (by omega) (by omega) ?_
  refine a_iconstN (v := 1) hB dX10_draw_11 (by decide) ?_
  refine a_goto (tgt := 34) hB dX10_draw_12 (by decide) ?_
  refine a_put (T := TX10) (ci := 10) hB dX10_draw_34 7 fl_X10_39 lay_X10 tyX10 tyX10_ok nmX10 rfl (by decide) rfl rfl 0 rfl rfl rfl rfl (Nat.le_of_ble_eq_true rfl) ?_
  refine a_aload_n hB dX10_draw_37 rfl ?_
  refine a_get (T := TX10) (ci := 10) hB dX10_draw_38 7 fl_X10_39 lay_X10 rfl (by decide) rfl 0 rfl rfl ?_
  refine a_if_leN_f (tgt := 46) hB dX10_draw_41 (by decide) (by omega) (by omega) ?_
  refine a_iconstN (v := 0) hB dX10_draw_44 (by decide) ?_
  exact a_iret hB hE rfl dX10_draw_45 (Nat.le_of_ble_eq_true rfl) (Nat.le_of_ble_eq_true rfl) (AKeep.of rfl) ⟨rfl, rfl⟩
set_option maxHeartbeats 4000000 in
set_option maxRecDepth 100000 in
theorem c_X10_draw_s {G : GP} {ma z : Nat → Nat} {sf : Nat → UInt64} {st : Nat} {hh : Nat → Nat} {sh : Nat → UInt64} {len : Nat} {tx : Nat → Nat} {th : Nat} {wy mo td : Nat → Nat} {re lo to : Nat} {rw : Nat → Nat} {ha : Int64} {v : Nat} (h1 : 1 ≤ v) (hv : v ≤ 64) (hn : z 3 ≤ 9999) (hs : 9999 < z 3 + v) : AMd G sX10_draw [.ref (ma 0), .int (nI v)] (wM G ma z sf st hh sh len tx th wy mo td re lo to rw ha) (some (.int (nI 0))) (wM G ma z sf st hh sh len tx 2 wy mo td re lo to rw ha) := by
  refine AM.of (σ := sX10_draw) (by decide +kernel) (by decide +kernel) (Nat.le_of_ble_eq_true rfl) (fun B hB hR hE0 hN => ?_)
  have hE := BE.of hE0
  refine a_aload_n hB dX10_draw_0 rfl ?_
  refine a_iload_n hB dX10_draw_1 rfl ?_
  refine a_iconstN (v := 1) hB dX10_draw_2 (by decide) ?_
  refine a_bipushN (v := 64) hB dX10_draw_3 (by decide) ?_
  refine a_callSr hB (c_X10_within_N (by omega) (by omega) (by omega)) mk_X10_within ml_X10_46 dX10_draw_5 rfl rfl [] rfl (by decide) (fit_of hR (by decide)) (Nat.le_of_ble_eq_true rfl) ?_
  refine a_if_neN_t (tgt := 15) hB dX10_draw_8 (by decide) (by omega) (by omega) ?_
  refine a_aload_n hB dX10_draw_15 rfl ?_
  refine a_get (T := TX10) (ci := 10) hB dX10_draw_16 0 fl_X10_7 lay_X10 rfl (by decide) rfl 0 rfl rfl ?_
  refine a_iconstN (v := 3) hB dX10_draw_19 (by decide) ?_
  refine a_ialoadN hB dX10_draw_20 1 rfl (by omega) (by decide) ?_
  refine a_iload_n hB dX10_draw_21 rfl ?_
  refine a_iaddN hB dX10_draw_22 ?_
  refine a_sipushN (v := 9999) hB dX10_draw_23 (by decide) ?_
  refine a_icmp_leN_f (tgt := 33) hB dX10_draw_26 (by decide) (by omega) (by omega) (by omega) ?_
  refine a_iconstN (v := 2) hB dX10_draw_29 (by decide) ?_
  refine a_goto (tgt := 34) hB dX10_draw_30 (by decide) ?_
  refine a_put (T := TX10) (ci := 10) hB dX10_draw_34 7 fl_X10_39 lay_X10 tyX10 tyX10_ok nmX10 rfl (by decide) rfl rfl 0 rfl rfl rfl rfl (Nat.le_of_ble_eq_true rfl) ?_
  refine a_aload_n hB dX10_draw_37 rfl ?_
  refine a_get (T := TX10) (ci := 10) hB dX10_draw_38 7 fl_X10_39 lay_X10 rfl (by decide) rfl 0 rfl rfl ?_
  refine a_if_leN_f (tgt := 46) hB dX10_draw_41 (by decide) (by omega) (by omega) ?_
  refine a_iconstN (v := 0) hB dX10_draw_44 (by decide) ?_
  exact a_iret hB hE rfl dX10_draw_45 (Nat.le_of_ble_eq_true rfl) (Nat.le_of_ble_eq_true rfl) (AKeep.of rfl) ⟨rfl, rfl⟩
set_option maxHeartbeats 4000000 in
set_option maxRecDepth 100000 in
theorem c_X10_likeliest_p {G : GP} {ma z : Nat → Nat} {sf : Nat → UInt64} {st : Nat} {hh : Nat → Nat} {sh : Nat → UInt64} {len : Nat} {tx : Nat → Nat} {th : Nat} {wy mo td : Nat → Nat} {re lo to : Nat} {rw : Nat → Nat} {ha : Int64} {x : Int32} (hz : 1 ≤ z 0) (h : x < nI 0 ∨ nI (z 0 - 1) < x) : AMd G sX10_likeliest [.ref (ma 0), .int x] (wM G ma z sf st hh sh len tx th wy mo td re lo to rw ha) (some (.int (nI 0))) (wM G ma z sf st hh sh len tx 1 wy mo td re lo to rw ha) := by
  refine AM.of (σ := sX10_likeliest) (by decide +kernel) (by decide +kernel) (Nat.le_of_ble_eq_true rfl) (fun B hB hR hE0 hN => ?_)
  have hE := BE.of hE0
  refine a_aload_n hB dX10_likeliest_0 rfl ?_
  refine a_aload_n hB dX10_likeliest_1 rfl ?_
  refine a_iload_n hB dX10_likeliest_2 rfl ?_
  refine a_callVr (q0 := 0) hB (c_X10_isPart_n hz h) mk_X10_isPart ml_X10_113 dX10_likeliest_3 rfl rfl [0, 1, 2, 3, 4, 5, 6, 7, 8, 9] rfl (by decide) rfl rfl (fit_of hR (by decide)) (Nat.le_of_ble_eq_true rfl) ?_
  refine a_if_eqN_t (tgt := 13) hB dX10_likeliest_6 (by decide) (by omega) (by omega) ?_
  refine a_iconstN (v := 1) hB dX10_likeliest_13 (by decide) ?_
  refine a_put (T := TX10) (ci := 10) hB dX10_likeliest_14 7 fl_X10_39 lay_X10 tyX10 tyX10_ok nmX10 rfl (by decide) rfl rfl 0 rfl rfl rfl rfl (Nat.le_of_ble_eq_true rfl) ?_
  refine a_aload_n hB dX10_likeliest_17 rfl ?_
  refine a_get (T := TX10) (ci := 10) hB dX10_likeliest_18 7 fl_X10_39 lay_X10 rfl (by decide) rfl 0 rfl rfl ?_
  refine a_if_leN_f (tgt := 28) hB dX10_likeliest_21 (by decide) (by omega) (by omega) ?_
  refine a_iconstN (v := 0) hB dX10_likeliest_24 (by decide) ?_
  refine a_goto (tgt := 33) hB dX10_likeliest_25 (by decide) ?_
  exact a_iret hB hE rfl dX10_likeliest_33 (Nat.le_of_ble_eq_true rfl) (Nat.le_of_ble_eq_true rfl) (AKeep.of rfl) ⟨rfl, rfl⟩
set_option maxHeartbeats 4000000 in
set_option maxRecDepth 100000 in
theorem c_X10_likeliest_0 {G : GP} {ma z : Nat → Nat} {sf : Nat → UInt64} {st : Nat} {hh : Nat → Nat} {sh : Nat → UInt64} {len : Nat} {tx : Nat → Nat} {th : Nat} {wy mo td : Nat → Nat} {re lo to : Nat} {rw : Nat → Nat} {ha : Int64} {x : Int32} (hz : z 0 = 0) : AMd G sX10_likeliest [.ref (ma 0), .int x] (wM G ma z sf st hh sh len tx th wy mo td re lo to rw ha) (some (.int (nI 0))) (wM G ma z sf st hh sh len tx 1 wy mo td re lo to rw ha) := by
  refine AM.of (σ := sX10_likeliest) (by decide +kernel) (by decide +kernel) (Nat.le_of_ble_eq_true rfl) (fun B hB hR hE0 hN => ?_)
  have hE := BE.of hE0
  refine a_aload_n hB dX10_likeliest_0 rfl ?_
  refine a_aload_n hB dX10_likeliest_1 rfl ?_
  refine a_iload_n hB dX10_likeliest_2 rfl ?_
  refine a_callVr (q0 := 0) hB (c_X10_isPart_0 hz) mk_X10_isPart ml_X10_113 dX10_likeliest_3 rfl rfl [0, 1, 2, 3, 4, 5, 6, 7, 8, 9] rfl (by decide) rfl rfl (fit_of hR (by decide)) (Nat.le_of_ble_eq_true rfl) ?_
  refine a_if_eqN_t (tgt := 13) hB dX10_likeliest_6 (by decide) (by omega) (by omega) ?_
  refine a_iconstN (v := 1) hB dX10_likeliest_13 (by decide) ?_
  refine a_put (T := TX10) (ci := 10) hB dX10_likeliest_14 7 fl_X10_39 lay_X10 tyX10 tyX10_ok nmX10 rfl (by decide) rfl rfl 0 rfl rfl rfl rfl (Nat.le_of_ble_eq_true rfl) ?_
  refine a_aload_n hB dX10_likeliest_17 rfl ?_
  refine a_get (T := TX10) (ci := 10) hB dX10_likeliest_18 7 fl_X10_39 lay_X10 rfl (by decide) rfl 0 rfl rfl ?_
  refine a_if_leN_f (tgt := 28) hB dX10_likeliest_21 (by decide) (by omega) (by omega) ?_
  refine a_iconstN (v := 0) hB dX10_likeliest_24 (by decide) ?_
  refine a_goto (tgt := 33) hB dX10_likeliest_25 (by decide) ?_
  exact a_iret hB hE rfl dX10_likeliest_33 (Nat.le_of_ble_eq_true rfl) (Nat.le_of_ble_eq_true rfl) (AKeep.of rfl) ⟨rfl, rfl⟩
set_option maxHeartbeats 4000000 in
set_option maxRecDepth 100000 in
theorem c_X10_weight_p {G : GP} {ma z : Nat → Nat} {sf : Nat → UInt64} {st : Nat} {hh : Nat → Nat} {sh : Nat → UInt64} {len : Nat} {tx : Nat → Nat} {th : Nat} {wy mo td : Nat → Nat} {re lo to : Nat} {rw : Nat → Nat} {ha : Int64} {y w : Int32} {x : Int32} (hz : 1 ≤ z 0) (h : x < nI 0 ∨ nI (z 0 - 1) < x) : AMd G sX10_weight [.ref (ma 0), .int x, .int y, .int w] (wM G ma z sf st hh sh len tx th wy mo td re lo to rw ha) (some (.int (nI 0))) (wM G ma z sf st hh sh len tx 1 wy mo td re lo to rw ha) := by
  refine AM.of (σ := sX10_weight) (by decide +kernel) (by decide +kernel) (Nat.le_of_ble_eq_true rfl) (fun B hB hR hE0 hN => ?_)
  have hE := BE.of hE0
  refine a_aload_n hB dX10_weight_0 rfl ?_
  refine a_aload_n hB dX10_weight_1 rfl ?_
  refine a_iload_n hB dX10_weight_2 rfl ?_
  refine a_callVr (q0 := 0) hB (c_X10_isPart_n hz h) mk_X10_isPart ml_X10_113 dX10_weight_3 rfl rfl [0, 1, 2, 3, 4, 5, 6, 7, 8, 9] rfl (by decide) rfl rfl (fit_of hR (by decide)) (Nat.le_of_ble_eq_true rfl) ?_
  refine a_if_eqN_t (tgt := 20) hB dX10_weight_6 (by decide) (by omega) (by omega) ?_
  refine a_iconstN (v := 1) hB dX10_weight_20 (by decide) ?_
  refine a_put (T := TX10) (ci := 10) hB dX10_weight_21 7 fl_X10_39 lay_X10 tyX10 tyX10_ok nmX10 rfl (by decide) rfl rfl 0 rfl rfl rfl rfl (Nat.le_of_ble_eq_true rfl) ?_
  refine a_aload_n hB dX10_weight_24 rfl ?_
  refine a_get (T := TX10) (ci := 10) hB dX10_weight_25 7 fl_X10_39 lay_X10 rfl (by decide) rfl 0 rfl rfl ?_
  refine a_if_leN_f (tgt := 35) hB dX10_weight_28 (by decide) (by omega) (by omega) ?_
  refine a_iconstN (v := 0) hB dX10_weight_31 (by decide) ?_
  refine a_goto (tgt := 54) hB dX10_weight_32 (by decide) ?_
  exact a_iret hB hE rfl dX10_weight_54 (Nat.le_of_ble_eq_true rfl) (Nat.le_of_ble_eq_true rfl) (AKeep.of rfl) ⟨rfl, rfl⟩
set_option maxHeartbeats 4000000 in
set_option maxRecDepth 100000 in
theorem c_X10_weight_0 {G : GP} {ma z : Nat → Nat} {sf : Nat → UInt64} {st : Nat} {hh : Nat → Nat} {sh : Nat → UInt64} {len : Nat} {tx : Nat → Nat} {th : Nat} {wy mo td : Nat → Nat} {re lo to : Nat} {rw : Nat → Nat} {ha : Int64} {x y w : Int32} (hz : z 0 = 0) : AMd G sX10_weight [.ref (ma 0), .int x, .int y, .int w] (wM G ma z sf st hh sh len tx th wy mo td re lo to rw ha) (some (.int (nI 0))) (wM G ma z sf st hh sh len tx 1 wy mo td re lo to rw ha) := by
  refine AM.of (σ := sX10_weight) (by decide +kernel) (by decide +kernel) (Nat.le_of_ble_eq_true rfl) (fun B hB hR hE0 hN => ?_)
  have hE := BE.of hE0
  refine a_aload_n hB dX10_weight_0 rfl ?_
  refine a_aload_n hB dX10_weight_1 rfl ?_
  refine a_iload_n hB dX10_weight_2 rfl ?_
  refine a_callVr (q0 := 0) hB (c_X10_isPart_0 hz) mk_X10_isPart ml_X10_113 dX10_weight_3 rfl rfl [0, 1, 2, 3, 4, 5, 6, 7, 8, 9] rfl (by decide) rfl rfl (fit_of hR (by decide)) (Nat.le_of_ble_eq_true rfl) ?_
  refine a_if_eqN_t (tgt := 20) hB dX10_weight_6 (by decide) (by omega) (by omega) ?_
  refine a_iconstN (v := 1) hB dX10_weight_20 (by decide) ?_
  refine a_put (T := TX10) (ci := 10) hB dX10_weight_21 7 fl_X10_39 lay_X10 tyX10 tyX10_ok nmX10 rfl (by decide) rfl rfl 0 rfl rfl rfl rfl (Nat.le_of_ble_eq_true rfl) ?_
  refine a_aload_n hB dX10_weight_24 rfl ?_
  refine a_get (T := TX10) (ci := 10) hB dX10_weight_25 7 fl_X10_39 lay_X10 rfl (by decide) rfl 0 rfl rfl ?_
  refine a_if_leN_f (tgt := 35) hB dX10_weight_28 (by decide) (by omega) (by omega) ?_
  refine a_iconstN (v := 0) hB dX10_weight_31 (by decide) ?_
  refine a_goto (tgt := 54) hB dX10_weight_32 (by decide) ?_
  exact a_iret hB hE rfl dX10_weight_54 (Nat.le_of_ble_eq_true rfl) (Nat.le_of_ble_eq_true rfl) (AKeep.of rfl) ⟨rfl, rfl⟩
set_option maxHeartbeats 4000000 in
set_option maxRecDepth 100000 in
theorem c_X10_weight_l {G : GP} {ma z : Nat → Nat} {sf : Nat → UInt64} {st : Nat} {hh : Nat → Nat} {sh : Nat → UInt64} {len : Nat} {tx : Nat → Nat} {th : Nat} {wy mo td : Nat → Nat} {re lo to : Nat} {rw : Nat → Nat} {ha : Int64} {p : Nat} {x w : Int32} (hp : p < z 0) (h6 : z 0 ≤ 6) (h : x < nI 0 ∨ nI 5 < x) : AMd G sX10_weight [.ref (ma 0), .int (nI p), .int x, .int w] (wM G ma z sf st hh sh len tx th wy mo td re lo to rw ha) (some (.int (nI 0))) (wM G ma z sf st hh sh len tx 1 wy mo td re lo to rw ha) := by
  refine AM.of (σ := sX10_weight) (by decide +kernel) (by decide +kernel) (Nat.le_of_ble_eq_true rfl) (fun B hB hR hE0 hN => ?_)
  have hE := BE.of hE0
  refine a_aload_n hB dX10_weight_0 rfl ?_
  refine a_aload_n hB dX10_weight_1 rfl ?_
  refine a_iload_n hB dX10_weight_2 rfl ?_
  refine a_callVr (q0 := 0) hB (c_X10_isPart_N hp h6) mk_X10_isPart ml_X10_113 dX10_weight_3 rfl rfl [0, 1, 2, 3, 4, 5, 6, 7, 8, 9] rfl (by decide) rfl rfl (fit_of hR (by decide)) (Nat.le_of_ble_eq_true rfl) ?_
  refine a_if_eqN_f (tgt := 20) hB dX10_weight_6 (by decide) (by omega) (by omega) ?_
  refine a_iload_n hB dX10_weight_9 rfl ?_
  refine a_callSr hB (c_X10_isLoad_n h) mk_X10_isLoad ml_X10_100 dX10_weight_10 rfl rfl [] rfl (by decide) (fit_of hR (by decide)) (Nat.le_of_ble_eq_true rfl) ?_
  refine a_if_eqN_t (tgt := 20) hB dX10_weight_13 (by decide) (by omega) (by omega) ?_
  refine a_iconstN (v := 1) hB dX10_weight_20 (by decide) ?_
  refine a_put (T := TX10) (ci := 10) hB dX10_weight_21 7 fl_X10_39 lay_X10 tyX10 tyX10_ok nmX10 rfl (by decide) rfl rfl 0 rfl rfl rfl rfl (Nat.le_of_ble_eq_true rfl) ?_
  refine a_aload_n hB dX10_weight_24 rfl ?_
  refine a_get (T := TX10) (ci := 10) hB dX10_weight_25 7 fl_X10_39 lay_X10 rfl (by decide) rfl 0 rfl rfl ?_
  refine a_if_leN_f (tgt := 35) hB dX10_weight_28 (by decide) (by omega) (by omega) ?_
  refine a_iconstN (v := 0) hB dX10_weight_31 (by decide) ?_
  refine a_goto (tgt := 54) hB dX10_weight_32 (by decide) ?_
  exact a_iret hB hE rfl dX10_weight_54 (Nat.le_of_ble_eq_true rfl) (Nat.le_of_ble_eq_true rfl) (AKeep.of rfl) ⟨rfl, rfl⟩
set_option maxHeartbeats 4000000 in
set_option maxRecDepth 100000 in
theorem c_X10_weight_ok0 {G : GP} {ma z : Nat → Nat} {sf : Nat → UInt64} {st : Nat} {hh : Nat → Nat} {sh : Nat → UInt64} {len : Nat} {tx : Nat → Nat} {th : Nat} {wy mo td : Nat → Nat} {re lo to : Nat} {rw : Nat → Nat} {ha : Int64} {p l : Nat} (hp : p < z 0) (h6 : z 0 ≤ 6) (hl : l ≤ 5) : AMd G sX10_weight [.ref (ma 0), .int (nI p), .int (nI l), .int (nI 0)] (wM G ma z sf st hh sh len tx th wy mo td re lo to rw ha) (some (.int (nI (gt (wq z) p l)))) (wM G ma z sf st hh sh len tx 0 wy mo td re lo to rw ha) := by
  refine AM.of (σ := sX10_weight) (by decide +kernel) (by decide +kernel) (Nat.le_of_ble_eq_true rfl) (fun B hB hR hE0 hN => ?_)
  have hE := BE.of hE0
  refine a_aload_n hB dX10_weight_0 rfl ?_
  refine a_aload_n hB dX10_weight_1 rfl ?_
  refine a_iload_n hB dX10_weight_2 rfl ?_
  refine a_callVr (q0 := 0) hB (c_X10_isPart_N hp h6) mk_X10_isPart ml_X10_113 dX10_weight_3 rfl rfl [0, 1, 2, 3, 4, 5, 6, 7, 8, 9] rfl (by decide) rfl rfl (fit_of hR (by decide)) (Nat.le_of_ble_eq_true rfl) ?_
  refine a_if_eqN_f (tgt := 20) hB dX10_weight_6 (by decide) (by omega) (by omega) ?_
  refine a_iload_n hB dX10_weight_9 rfl ?_
  refine a_callSr hB (c_X10_isLoad_N (by omega)) mk_X10_isLoad ml_X10_100 dX10_weight_10 rfl rfl [] rfl (by decide) (fit_of hR (by decide)) (Nat.le_of_ble_eq_true rfl) ?_
  refine a_if_eqN_f (tgt := 20) hB dX10_weight_13 (by decide) (by omega) (by omega) ?_
  refine a_iconstN (v := 0) hB dX10_weight_16 (by decide) ?_
  refine a_goto (tgt := 21) hB dX10_weight_17 (by decide) ?_
  refine a_put (T := TX10) (ci := 10) hB dX10_weight_21 7 fl_X10_39 lay_X10 tyX10 tyX10_ok nmX10 rfl (by decide) rfl rfl 0 rfl rfl rfl rfl (Nat.le_of_ble_eq_true rfl) ?_
  refine a_aload_n hB dX10_weight_24 rfl ?_
  refine a_get (T := TX10) (ci := 10) hB dX10_weight_25 7 fl_X10_39 lay_X10 rfl (by decide) rfl 0 rfl rfl ?_
  refine a_if_leN_t (tgt := 35) hB dX10_weight_28 (by decide) (by omega) (by omega) ?_
  refine a_iload_n hB dX10_weight_35 rfl ?_
  refine a_if_eqN_t (tgt := 48) hB dX10_weight_36 (by decide) (by omega) (by omega) ?_
  refine a_aload_n hB dX10_weight_48 rfl ?_
  refine a_iload_n hB dX10_weight_49 rfl ?_
  refine a_iload_n hB dX10_weight_50 rfl ?_
  refine a_callVr (q0 := 0) hB (c_X10_weightOf (by omega) (by omega)) mk_X10_weightOf ml_X10_50 dX10_weight_51 rfl rfl [0, 1, 2, 3, 4, 5, 6, 7, 8, 9] rfl (by decide) rfl rfl (fit_of hR (by decide)) (Nat.le_of_ble_eq_true rfl) ?_
  exact a_iret hB hE rfl dX10_weight_54 (Nat.le_of_ble_eq_true rfl) (Nat.le_of_ble_eq_true rfl) (AKeep.of rfl) ⟨rfl, rfl⟩
set_option maxHeartbeats 4000000 in
set_option maxRecDepth 100000 in
theorem c_X10_weight_ok1 {G : GP} {ma z : Nat → Nat} {sf : Nat → UInt64} {st : Nat} {hh : Nat → Nat} {sh : Nat → UInt64} {len : Nat} {tx : Nat → Nat} {th : Nat} {wy mo td : Nat → Nat} {re lo to : Nat} {rw : Nat → Nat} {ha : Int64} {p l : Nat} (hp : p < z 0) (h6 : z 0 ≤ 6) (hl : l ≤ 5) : AMd G sX10_weight [.ref (ma 0), .int (nI p), .int (nI l), .int (nI 1)] (wM G ma z sf st hh sh len tx th wy mo td re lo to rw ha) (some (.int (nI (gt (tq z) p l)))) (wM G ma z sf st hh sh len tx 0 wy mo td re lo to rw ha) := by
  refine AM.of (σ := sX10_weight) (by decide +kernel) (by decide +kernel) (Nat.le_of_ble_eq_true rfl) (fun B hB hR hE0 hN => ?_)
  have hE := BE.of hE0
  refine a_aload_n hB dX10_weight_0 rfl ?_
  refine a_aload_n hB dX10_weight_1 rfl ?_
  refine a_iload_n hB dX10_weight_2 rfl ?_
  refine a_callVr (q0 := 0) hB (c_X10_isPart_N hp h6) mk_X10_isPart ml_X10_113 dX10_weight_3 rfl rfl [0, 1, 2, 3, 4, 5, 6, 7, 8, 9] rfl (by decide) rfl rfl (fit_of hR (by decide)) (Nat.le_of_ble_eq_true rfl) ?_
  refine a_if_eqN_f (tgt := 20) hB dX10_weight_6 (by decide) (by omega) (by omega) ?_
  refine a_iload_n hB dX10_weight_9 rfl ?_
  refine a_callSr hB (c_X10_isLoad_N (by omega)) mk_X10_isLoad ml_X10_100 dX10_weight_10 rfl rfl [] rfl (by decide) (fit_of hR (by decide)) (Nat.le_of_ble_eq_true rfl) ?_
  refine a_if_eqN_f (tgt := 20) hB dX10_weight_13 (by decide) (by omega) (by omega) ?_
  refine a_iconstN (v := 0) hB dX10_weight_16 (by decide) ?_
  refine a_goto (tgt := 21) hB dX10_weight_17 (by decide) ?_
  refine a_put (T := TX10) (ci := 10) hB dX10_weight_21 7 fl_X10_39 lay_X10 tyX10 tyX10_ok nmX10 rfl (by decide) rfl rfl 0 rfl rfl rfl rfl (Nat.le_of_ble_eq_true rfl) ?_
  refine a_aload_n hB dX10_weight_24 rfl ?_
  refine a_get (T := TX10) (ci := 10) hB dX10_weight_25 7 fl_X10_39 lay_X10 rfl (by decide) rfl 0 rfl rfl ?_
  refine a_if_leN_t (tgt := 35) hB dX10_weight_28 (by decide) (by omega) (by omega) ?_
  refine a_iload_n hB dX10_weight_35 rfl ?_
  refine a_if_eqN_f (tgt := 48) hB dX10_weight_36 (by decide) (by omega) (by omega) ?_
  refine a_aload_n hB dX10_weight_39 rfl ?_
  refine a_iload_n hB dX10_weight_40 rfl ?_
  refine a_iload_n hB dX10_weight_41 rfl ?_
  refine a_callVr (q0 := 0) hB (c_X10_tiltedOf (by omega) (by omega)) mk_X10_tiltedOf ml_X10_54 dX10_weight_42 rfl rfl [0, 1, 2, 3, 4, 5, 6, 7, 8, 9] rfl (by decide) rfl rfl (fit_of hR (by decide)) (Nat.le_of_ble_eq_true rfl) ?_
  refine a_goto (tgt := 54) hB dX10_weight_45 (by decide) ?_
  exact a_iret hB hE rfl dX10_weight_54 (Nat.le_of_ble_eq_true rfl) (Nat.le_of_ble_eq_true rfl) (AKeep.of rfl) ⟨rfl, rfl⟩
set_option maxHeartbeats 4000000 in
set_option maxRecDepth 100000 in
theorem c_X10_part_p {G : GP} {ma z : Nat → Nat} {sf : Nat → UInt64} {st : Nat} {hh : Nat → Nat} {sh : Nat → UInt64} {len : Nat} {tx : Nat → Nat} {th : Nat} {wy mo td : Nat → Nat} {re lo to : Nat} {rw : Nat → Nat} {ha : Int64} {y : Int32} {x : Int32} (hz : 1 ≤ z 0) (h : x < nI 0 ∨ nI (z 0 - 1) < x) : AMd G sX10_part [.ref (ma 0), .int x, .int y] (wM G ma z sf st hh sh len tx th wy mo td re lo to rw ha) (some (.int (nI 0))) (wM G ma z sf st hh sh len tx 1 wy mo td re lo to rw ha) := by
  refine AM.of (σ := sX10_part) (by decide +kernel) (by decide +kernel) (Nat.le_of_ble_eq_true rfl) (fun B hB hR hE0 hN => ?_)
  have hE := BE.of hE0
  refine a_aload_n hB dX10_part_0 rfl ?_
  refine a_aload_n hB dX10_part_1 rfl ?_
  refine a_iload_n hB dX10_part_2 rfl ?_
  refine a_callVr (q0 := 0) hB (c_X10_isPart_n hz h) mk_X10_isPart ml_X10_113 dX10_part_3 rfl rfl [0, 1, 2, 3, 4, 5, 6, 7, 8, 9] rfl (by decide) rfl rfl (fit_of hR (by decide)) (Nat.le_of_ble_eq_true rfl) ?_
  refine a_if_neN_f (tgt := 13) hB dX10_part_6 (by decide) (by omega) (by omega) ?_
  refine a_iconstN (v := 1) hB dX10_part_9 (by decide) ?_
  refine a_goto (tgt := 28) hB dX10_part_10 (by decide) ?_
  refine a_put (T := TX10) (ci := 10) hB dX10_part_28 7 fl_X10_39 lay_X10 tyX10 tyX10_ok nmX10 rfl (by decide) rfl rfl 0 rfl rfl rfl rfl (Nat.le_of_ble_eq_true rfl) ?_
  refine a_aload_n hB dX10_part_31 rfl ?_
  refine a_get (T := TX10) (ci := 10) hB dX10_part_32 7 fl_X10_39 lay_X10 rfl (by decide) rfl 0 rfl rfl ?_
  refine a_if_leN_f (tgt := 42) hB dX10_part_35 (by decide) (by omega) (by omega) ?_
  refine a_iconstN (v := 0) hB dX10_part_38 (by decide) ?_
  refine a_goto (tgt := 48) hB dX10_part_39 (by decide) ?_
  exact a_iret hB hE rfl dX10_part_48 (Nat.le_of_ble_eq_true rfl) (Nat.le_of_ble_eq_true rfl) (AKeep.of rfl) ⟨rfl, rfl⟩
set_option maxHeartbeats 4000000 in
set_option maxRecDepth 100000 in
theorem c_X10_part_0 {G : GP} {ma z : Nat → Nat} {sf : Nat → UInt64} {st : Nat} {hh : Nat → Nat} {sh : Nat → UInt64} {len : Nat} {tx : Nat → Nat} {th : Nat} {wy mo td : Nat → Nat} {re lo to : Nat} {rw : Nat → Nat} {ha : Int64} {x y : Int32} (hz : z 0 = 0) : AMd G sX10_part [.ref (ma 0), .int x, .int y] (wM G ma z sf st hh sh len tx th wy mo td re lo to rw ha) (some (.int (nI 0))) (wM G ma z sf st hh sh len tx 1 wy mo td re lo to rw ha) := by
  refine AM.of (σ := sX10_part) (by decide +kernel) (by decide +kernel) (Nat.le_of_ble_eq_true rfl) (fun B hB hR hE0 hN => ?_)
  have hE := BE.of hE0
  refine a_aload_n hB dX10_part_0 rfl ?_
  refine a_aload_n hB dX10_part_1 rfl ?_
  refine a_iload_n hB dX10_part_2 rfl ?_
  refine a_callVr (q0 := 0) hB (c_X10_isPart_0 hz) mk_X10_isPart ml_X10_113 dX10_part_3 rfl rfl [0, 1, 2, 3, 4, 5, 6, 7, 8, 9] rfl (by decide) rfl rfl (fit_of hR (by decide)) (Nat.le_of_ble_eq_true rfl) ?_
  refine a_if_neN_f (tgt := 13) hB dX10_part_6 (by decide) (by omega) (by omega) ?_
  refine a_iconstN (v := 1) hB dX10_part_9 (by decide) ?_
  refine a_goto (tgt := 28) hB dX10_part_10 (by decide) ?_
  refine a_put (T := TX10) (ci := 10) hB dX10_part_28 7 fl_X10_39 lay_X10 tyX10 tyX10_ok nmX10 rfl (by decide) rfl rfl 0 rfl rfl rfl rfl (Nat.le_of_ble_eq_true rfl) ?_
  refine a_aload_n hB dX10_part_31 rfl ?_
  refine a_get (T := TX10) (ci := 10) hB dX10_part_32 7 fl_X10_39 lay_X10 rfl (by decide) rfl 0 rfl rfl ?_
  refine a_if_leN_f (tgt := 42) hB dX10_part_35 (by decide) (by omega) (by omega) ?_
  refine a_iconstN (v := 0) hB dX10_part_38 (by decide) ?_
  refine a_goto (tgt := 48) hB dX10_part_39 (by decide) ?_
  exact a_iret hB hE rfl dX10_part_48 (Nat.le_of_ble_eq_true rfl) (Nat.le_of_ble_eq_true rfl) (AKeep.of rfl) ⟨rfl, rfl⟩
set_option maxHeartbeats 4000000 in
set_option maxRecDepth 100000 in
theorem c_X10_part_r {G : GP} {ma z : Nat → Nat} {sf : Nat → UInt64} {st : Nat} {hh : Nat → Nat} {sh : Nat → UInt64} {len : Nat} {tx : Nat → Nat} {th : Nat} {wy mo td : Nat → Nat} {re lo to : Nat} {rw : Nat → Nat} {ha : Int64} {p : Nat} {x : Int32} (hp : p < z 0) (h6 : z 0 ≤ 6) (h : x < nI 0 ∨ nI 6 < x) : AMd G sX10_part [.ref (ma 0), .int (nI p), .int x] (wM G ma z sf st hh sh len tx th wy mo td re lo to rw ha) (some (.int (nI 0))) (wM G ma z sf st hh sh len tx 2 wy mo td re lo to rw ha) := by
  refine AM.of (σ := sX10_part) (by decide +kernel) (by decide +kernel) (Nat.le_of_ble_eq_true rfl) (fun B hB hR hE0 hN => ?_)
  have hE := BE.of hE0
  refine a_aload_n hB dX10_part_0 rfl ?_
  refine a_aload_n hB dX10_part_1 rfl ?_
  refine a_iload_n hB dX10_part_2 rfl ?_
  refine a_callVr (q0 := 0) hB (c_X10_isPart_N hp h6) mk_X10_isPart ml_X10_113 dX10_part_3 rfl rfl [0, 1, 2, 3, 4, 5, 6, 7, 8, 9] rfl (by decide) rfl rfl (fit_of hR (by decide)) (Nat.le_of_ble_eq_true rfl) ?_
  refine a_if_neN_t (tgt := 13) hB dX10_part_6 (by decide) (by omega) (by omega) ?_
  refine a_iload_n hB dX10_part_13 rfl ?_
  refine a_iconstN (v := 0) hB dX10_part_14 (by decide) ?_
  refine a_bipushN (v := 6) hB dX10_part_15 (by decide) ?_
  refine a_callSr hB (c_X10_within_n h) mk_X10_within ml_X10_46 dX10_part_17 rfl rfl [] rfl (by decide) (fit_of hR (by decide)) (Nat.le_of_ble_eq_true rfl) ?_
  refine a_if_eqN_t (tgt := 27) hB dX10_part_20 (by decide) (by omega) (by omega) ?_
  refine a_iconstN (v := 2) hB dX10_part_27 (by decide) ?_
  refine a_put (T := TX10) (ci := 10) hB dX10_part_28 7 fl_X10_39 lay_X10 tyX10 tyX10_ok nmX10 rfl (by decide) rfl rfl 0 rfl rfl rfl rfl (Nat.le_of_ble_eq_true rfl) ?_
  refine a_aload_n hB dX10_part_31 rfl ?_
  refine a_get (T := TX10) (ci := 10) hB dX10_part_32 7 fl_X10_39 lay_X10 rfl (by decide) rfl 0 rfl rfl ?_
  refine a_if_leN_f (tgt := 42) hB dX10_part_35 (by decide) (by omega) (by omega) ?_
  refine a_iconstN (v := 0) hB dX10_part_38 (by decide) ?_
  refine a_goto (tgt := 48) hB dX10_part_39 (by decide) ?_
  exact a_iret hB hE rfl dX10_part_48 (Nat.le_of_ble_eq_true rfl) (Nat.le_of_ble_eq_true rfl) (AKeep.of rfl) ⟨rfl, rfl⟩
set_option maxHeartbeats 4000000 in
set_option maxRecDepth 100000 in
theorem c_X10_waysNow_1 {G : GP} {ma z : Nat → Nat} {sf : Nat → UInt64} {st : Nat} {hh : Nat → Nat} {sh : Nat → UInt64} {len : Nat} {tx : Nat → Nat} {th : Nat} {wy mo td : Nat → Nat} {re lo to : Nat} {rw : Nat → Nat} {ha : Int64} {s : Nat} (h6 : z 0 ≤ 6) (hw : ∀ p, p < z 0 → ∀ l, l < 6 → gt (wq z) p l < 2 ^ 31) (hs : s ≤ 99) : AMd G sX10_waysNow [.ref (ma 0), .int (nI s), .int (nI 1)] (wM G ma z sf st hh sh len tx th wy mo td re lo to rw ha) (some (.long (lN (wfrom (cnF (wq z) (-1) wy (z 0)) s)))) (wM G ma z sf st hh sh len tx th (cnF (wq z) (-1) wy (z 0)) mo td re lo to rw ha) := by
  refine AM.of (σ := sX10_waysNow) (by decide +kernel) (by decide +kernel) (Nat.le_of_ble_eq_true rfl) (fun B hB hR hE0 hN => ?_)
  have hE := BE.of hE0
  refine a_aload_n hB dX10_waysNow_0 rfl ?_
  refine a_iconst (v := -1) hB dX10_waysNow_1 (by decide) ?_
  refine a_callVd (w2 := wM G ma z sf st hh sh len tx th (cnF (wq z) (-1) wy (z 0)) mo td re lo to rw ha) (q0 := 0) hB (c_X10_layWays (wo := -1) h6 hw) mk_X10_layWays ml_X10_82 dX10_waysNow_2 rfl rfl [0, 1, 2, 3, 4, 5, 6, 7, 8, 9] rfl (by decide) rfl rfl (fit_of hR (by decide)) (Nat.le_of_ble_eq_true rfl) (wput_all rfl rfl) ?_
  refine a_iload_n hB dX10_waysNow_5 rfl ?_
  refine a_if_eqN_f (tgt := 17) hB dX10_waysNow_6 (by decide) (by omega) (by omega) ?_
  refine a_aload_n hB dX10_waysNow_9 rfl ?_
  refine a_iload_n hB dX10_waysNow_10 rfl ?_
  refine a_callVr (q0 := 0) hB (c_X10_waysFrom (wy := (cnF (wq z) (-1) wy (z 0))) (by omega)) mk_X10_waysFrom ml_X10_85 dX10_waysNow_11 rfl rfl [0, 1, 2, 3, 4, 5, 6, 7, 8, 9] rfl (by decide) rfl rfl (fit_of hR (by decide)) (Nat.le_of_ble_eq_true rfl) ?_
  refine a_goto (tgt := 33) hB dX10_waysNow_14 (by decide) ?_
  exact a_lret hB hE rfl dX10_waysNow_33 (Nat.le_of_ble_eq_true rfl) (Nat.le_of_ble_eq_true rfl) (AKeep.of rfl) ⟨rfl, rfl⟩
set_option maxHeartbeats 4000000 in
set_option maxRecDepth 100000 in
theorem c_X10_waysNow_0 {G : GP} {ma z : Nat → Nat} {sf : Nat → UInt64} {st : Nat} {hh : Nat → Nat} {sh : Nat → UInt64} {len : Nat} {tx : Nat → Nat} {th : Nat} {wy mo td : Nat → Nat} {re lo to : Nat} {rw : Nat → Nat} {ha : Int64} {s : Nat} (h6 : z 0 ≤ 6) (hw : ∀ p, p < z 0 → ∀ l, l < 6 → gt (wq z) p l < 2 ^ 31) (hs : s < 31) : AMd G sX10_waysNow [.ref (ma 0), .int (nI s), .int (nI 0)] (wM G ma z sf st hh sh len tx th wy mo td re lo to rw ha) (some (.long (lN ((cnF (wq z) (-1) wy (z 0)) s)))) (wM G ma z sf st hh sh len tx th (cnF (wq z) (-1) wy (z 0)) mo td re lo to rw ha) := by
  refine AM.of (σ := sX10_waysNow) (by decide +kernel) (by decide +kernel) (Nat.le_of_ble_eq_true rfl) (fun B hB hR hE0 hN => ?_)
  have hE := BE.of hE0
  refine a_aload_n hB dX10_waysNow_0 rfl ?_
  refine a_iconst (v := -1) hB dX10_waysNow_1 (by decide) ?_
  refine a_callVd (w2 := wM G ma z sf st hh sh len tx th (cnF (wq z) (-1) wy (z 0)) mo td re lo to rw ha) (q0 := 0) hB (c_X10_layWays (wo := -1) h6 hw) mk_X10_layWays ml_X10_82 dX10_waysNow_2 rfl rfl [0, 1, 2, 3, 4, 5, 6, 7, 8, 9] rfl (by decide) rfl rfl (fit_of hR (by decide)) (Nat.le_of_ble_eq_true rfl) (wput_all rfl rfl) ?_
  refine a_iload_n hB dX10_waysNow_5 rfl ?_
  refine a_if_eqN_t (tgt := 17) hB dX10_waysNow_6 (by decide) (by omega) (by omega) ?_
  refine a_iload_n hB dX10_waysNow_17 rfl ?_
  refine a_bipushN (v := 31) hB dX10_waysNow_18 (by decide) ?_
  refine a_icmp_geN_f (tgt := 32) hB dX10_waysNow_20 (by decide) (by omega) (by omega) (by omega) ?_
  refine a_aload_n hB dX10_waysNow_23 rfl ?_
  refine a_get (T := TX10) (ci := 10) hB dX10_waysNow_24 8 fl_X10_26 lay_X10 rfl (by decide) rfl 0 rfl rfl ?_
  refine a_iload_n hB dX10_waysNow_27 rfl ?_
  refine a_laloadN hB dX10_waysNow_28 6 rfl (by omega) (by decide) ?_
  refine a_goto (tgt := 33) hB dX10_waysNow_29 (by decide) ?_
  exact a_lret hB hE rfl dX10_waysNow_33 (Nat.le_of_ble_eq_true rfl) (Nat.le_of_ble_eq_true rfl) (AKeep.of rfl) ⟨rfl, rfl⟩
set_option maxHeartbeats 4000000 in
set_option maxRecDepth 100000 in
theorem c_X10_waysNow_h {G : GP} {ma z : Nat → Nat} {sf : Nat → UInt64} {st : Nat} {hh : Nat → Nat} {sh : Nat → UInt64} {len : Nat} {tx : Nat → Nat} {th : Nat} {wy mo td : Nat → Nat} {re lo to : Nat} {rw : Nat → Nat} {ha : Int64} {s : Nat} (h6 : z 0 ≤ 6) (hw : ∀ p, p < z 0 → ∀ l, l < 6 → gt (wq z) p l < 2 ^ 31) (hs : s ≤ 99) (h31 : 31 ≤ s) : AMd G sX10_waysNow [.ref (ma 0), .int (nI s), .int (nI 0)] (wM G ma z sf st hh sh len tx th wy mo td re lo to rw ha) (some (.long (lN 0))) (wM G ma z sf st hh sh len tx th (cnF (wq z) (-1) wy (z 0)) mo td re lo to rw ha) := by
  refine AM.of (σ := sX10_waysNow) (by decide +kernel) (by decide +kernel) (Nat.le_of_ble_eq_true rfl) (fun B hB hR hE0 hN => ?_)
  have hE := BE.of hE0
  refine a_aload_n hB dX10_waysNow_0 rfl ?_
  refine a_iconst (v := -1) hB dX10_waysNow_1 (by decide) ?_
  refine a_callVd (w2 := wM G ma z sf st hh sh len tx th (cnF (wq z) (-1) wy (z 0)) mo td re lo to rw ha) (q0 := 0) hB (c_X10_layWays (wo := -1) h6 hw) mk_X10_layWays ml_X10_82 dX10_waysNow_2 rfl rfl [0, 1, 2, 3, 4, 5, 6, 7, 8, 9] rfl (by decide) rfl rfl (fit_of hR (by decide)) (Nat.le_of_ble_eq_true rfl) (wput_all rfl rfl) ?_
  refine a_iload_n hB dX10_waysNow_5 rfl ?_
  refine a_if_eqN_t (tgt := 17) hB dX10_waysNow_6 (by decide) (by omega) (by omega) ?_
  refine a_iload_n hB dX10_waysNow_17 rfl ?_
  refine a_bipushN (v := 31) hB dX10_waysNow_18 (by decide) ?_
  refine a_icmp_geN_t (tgt := 32) hB dX10_waysNow_20 (by decide) (by omega) (by omega) (by omega) ?_
  refine a_lconstN (v := 0) hB dX10_waysNow_32 (by decide) ?_
  exact a_lret hB hE rfl dX10_waysNow_33 (Nat.le_of_ble_eq_true rfl) (Nat.le_of_ble_eq_true rfl) (AKeep.of rfl) ⟨rfl, rfl⟩
set_option maxHeartbeats 4000000 in
set_option maxRecDepth 100000 in
theorem c_X10_ifLimit_ok {G : GP} {ma z : Nat → Nat} {sf : Nat → UInt64} {st : Nat} {hh : Nat → Nat} {sh : Nat → UInt64} {len : Nat} {tx : Nat → Nat} {th : Nat} {wy mo td : Nat → Nat} {re lo to : Nat} {rw : Nat → Nat} {ha : Int64} {s : Nat} (h6 : z 0 ≤ 6) (hw : ∀ p, p < z 0 → ∀ l, l < 6 → gt (wq z) p l < 2 ^ 31) (hs : s ≤ 99) (ho : vf_n64 (FP.ddiv (FP.l2d (lN (wfrom (cnF (wq z) (-1) wy (z 0)) s))) (FP.l2d (lN (wfrom (cnF (wq z) (-1) wy (z 0)) 0))))) : AMd G sX10_ifLimit [.ref (ma 0), .int (nI s)] (wM G ma z sf st hh sh len tx th wy mo td re lo to rw ha) (some (.double (FP.ddiv (FP.l2d (lN (wfrom (cnF (wq z) (-1) wy (z 0)) s))) (FP.l2d (lN (wfrom (cnF (wq z) (-1) wy (z 0)) 0)))))) (wM G ma z sf st hh sh len tx 0 (cnF (wq z) (-1) wy (z 0)) mo td re lo to rw ha) := by
  refine AM.of (σ := sX10_ifLimit) (by decide +kernel) (by decide +kernel) (Nat.le_of_ble_eq_true rfl) (fun B hB hR hE0 hN => ?_)
  have hE := BE.of hE0
  refine a_aload_n hB dX10_ifLimit_0 rfl ?_
  refine a_iload_n hB dX10_ifLimit_1 rfl ?_
  refine a_callSr hB (c_X10_isLimit_N (by omega)) mk_X10_isLimit ml_X10_120 dX10_ifLimit_2 rfl rfl [] rfl (by decide) (fit_of hR (by decide)) (Nat.le_of_ble_eq_true rfl) ?_
  refine a_if_eqN_f (tgt := 12) hB dX10_ifLimit_5 (by decide) (by omega) (by omega) ?_
  refine a_iconstN (v := 0) hB dX10_ifLimit_8 (by decide) ?_
  refine a_goto (tgt := 13) hB dX10_ifLimit_9 (by decide) ?_
  refine a_put (T := TX10) (ci := 10) hB dX10_ifLimit_13 7 fl_X10_39 lay_X10 tyX10 tyX10_ok nmX10 rfl (by decide) rfl rfl 0 rfl rfl rfl rfl (Nat.le_of_ble_eq_true rfl) ?_
  refine a_aload_n hB dX10_ifLimit_16 rfl ?_
  refine a_get (T := TX10) (ci := 10) hB dX10_ifLimit_17 7 fl_X10_39 lay_X10 rfl (by decide) rfl 0 rfl rfl ?_
  refine a_if_leN_t (tgt := 27) hB dX10_ifLimit_20 (by decide) (by omega) (by omega) ?_
  refine a_aload_n hB dX10_ifLimit_27 rfl ?_
  refine a_iload_n hB dX10_ifLimit_28 rfl ?_
  refine a_iconst (v := -1) hB dX10_ifLimit_29 (by decide) ?_
  refine a_callVd (w2 := wM G ma z sf st hh sh len tx 0 (cnF (wq z) (-1) wy (z 0)) mo td re lo to rw ha) (q0 := 0) hB (c_X10_oddsBy (wo := -1) h6 hw (by omega) ho) mk_X10_oddsBy ml_X10_174 dX10_ifLimit_30 rfl rfl [0, 1, 2, 3, 4, 5, 6, 7, 8, 9] rfl (by decide) rfl rfl (fit_of hR (by decide)) (Nat.le_of_ble_eq_true rfl) (wput_all rfl rfl) ?_
  exact a_dret hB hE rfl dX10_ifLimit_33 (Nat.le_of_ble_eq_true rfl) (Nat.le_of_ble_eq_true rfl) (AKeep.of rfl) ⟨rfl, rfl⟩
set_option maxHeartbeats 4000000 in
set_option maxRecDepth 100000 in
theorem c_X10_mostBy {G : GP} {ma z : Nat → Nat} {sf : Nat → UInt64} {st : Nat} {hh : Nat → Nat} {sh : Nat → UInt64} {len : Nat} {tx : Nat → Nat} {th : Nat} {wy mo td : Nat → Nat} {re lo to : Nat} {rw : Nat → Nat} {ha : Int64} {p n l : Nat} (hp : p < 6) (hl : l < 6) (hn : n ≤ 99) : AMd G sX10_mostBy [.ref (ma 0), .int (nI p), .int (nI n), .int (nI l)] (wM G ma z sf st hh sh len tx th wy mo td re lo to rw ha) (some (.int (nI (gt (wq z) p l * mo (100 * p + 100 + (n - l)))))) (wM G ma z sf st hh sh len tx th wy mo td re lo to rw ha) := by
  refine AM.of (σ := sX10_mostBy) (by decide +kernel) (by decide +kernel) (Nat.le_of_ble_eq_true rfl) (fun B hB hR hE0 hN => ?_)
  have hE := BE.of hE0
  refine a_iload_n hB dX10_mostBy_0 rfl ?_
  refine a_iload_n hB dX10_mostBy_1 rfl ?_
  refine a_icmp_leN (tgt := 11) hB dX10_mostBy_2 (by decide) (by omega) (by omega) (fun c2 => ?_) (fun c2 => ?_)
  · refine a_iconstN (v := 0) hB dX10_mostBy_11 (by decide) ?_
    refine a_istore hB dX10_mostBy_12 (by decide) ?_
    refine a_aload_n hB dX10_mostBy_14 rfl ?_
    refine a_iload_n hB dX10_mostBy_15 rfl ?_
    refine a_iload_n hB dX10_mostBy_16 rfl ?_
    refine a_callVr (q0 := 0) hB (c_X10_weightOf (by omega) (by omega)) mk_X10_weightOf ml_X10_50 dX10_mostBy_17 rfl rfl [0, 1, 2, 3, 4, 5, 6, 7, 8, 9] rfl (by decide) rfl rfl (fit_of hR (by decide)) (Nat.le_of_ble_eq_true rfl) ?_
    refine a_aload_n hB dX10_mostBy_20 rfl ?_
    refine a_get (T := TX10) (ci := 10) hB dX10_mostBy_21 9 fl_X10_30 lay_X10 rfl (by decide) rfl 0 rfl rfl ?_
    refine a_bipushN (v := 100) hB dX10_mostBy_24 (by decide) ?_
    refine a_iload_n hB dX10_mostBy_26 rfl ?_
    refine a_imulN hB dX10_mostBy_27 ?_
    refine a_bipushN (v := 100) hB dX10_mostBy_28 (by decide) ?_
    refine a_iaddN hB dX10_mostBy_30 ?_
    refine a_iload hB dX10_mostBy_31 rfl ?_
    refine a_iaddN hB dX10_mostBy_33 ?_
    refine a_ialoadN hB dX10_mostBy_34 7 rfl (by omega) (by decide) ?_
    refine a_imulN hB dX10_mostBy_35 ?_
    exact a_iret hB hE rfl dX10_mostBy_36 (Nat.le_of_ble_eq_true rfl) (Nat.le_of_ble_eq_true rfl) (AKeep.of rfl) ⟨by first | rfl | rw [show n - l = 0 by omega], rfl⟩
  · refine a_iload_n hB dX10_mostBy_5 rfl ?_
    refine a_iload_n hB dX10_mostBy_6 rfl ?_
    refine a_isubN hB dX10_mostBy_7 (by omega) ?_
    refine a_goto (tgt := 12) hB dX10_mostBy_8 (by decide) ?_
    refine a_istore hB dX10_mostBy_12 (by decide) ?_
    refine a_aload_n hB dX10_mostBy_14 rfl ?_
    refine a_iload_n hB dX10_mostBy_15 rfl ?_
    refine a_iload_n hB dX10_mostBy_16 rfl ?_
    refine a_callVr (q0 := 0) hB (c_X10_weightOf (by omega) (by omega)) mk_X10_weightOf ml_X10_50 dX10_mostBy_17 rfl rfl [0, 1, 2, 3, 4, 5, 6, 7, 8, 9] rfl (by decide) rfl rfl (fit_of hR (by decide)) (Nat.le_of_ble_eq_true rfl) ?_
    refine a_aload_n hB dX10_mostBy_20 rfl ?_
    refine a_get (T := TX10) (ci := 10) hB dX10_mostBy_21 9 fl_X10_30 lay_X10 rfl (by decide) rfl 0 rfl rfl ?_
    refine a_bipushN (v := 100) hB dX10_mostBy_24 (by decide) ?_
    refine a_iload_n hB dX10_mostBy_26 rfl ?_
    refine a_imulN hB dX10_mostBy_27 ?_
    refine a_bipushN (v := 100) hB dX10_mostBy_28 (by decide) ?_
    refine a_iaddN hB dX10_mostBy_30 ?_
    refine a_iload hB dX10_mostBy_31 rfl ?_
    refine a_iaddN hB dX10_mostBy_33 ?_
    refine a_ialoadN hB dX10_mostBy_34 7 rfl (by omega) (by decide) ?_
    refine a_imulN hB dX10_mostBy_35 ?_
    exact a_iret hB hE rfl dX10_mostBy_36 (Nat.le_of_ble_eq_true rfl) (Nat.le_of_ble_eq_true rfl) (AKeep.of rfl) ⟨by first | rfl | rw [show n - l = 0 by omega], rfl⟩
