set_option maxHeartbeats 4000000 in
set_option maxRecDepth 100000 in
theorem c_X10_leastLoad {G : GP} {ma z : Nat → Nat} {sf : Nat → UInt64} {st : Nat} {hh : Nat → Nat} {sh : Nat → UInt64} {len : Nat} {tx : Nat → Nat} {th : Nat} {wy mo td : Nat → Nat} {re lo to : Nat} {rw : Nat → Nat} {ha : Int64} {p r : Nat} (hp : p < 6) (hr : r < 6) (h1 : 0 < gt (wq z) p r) (h0 : ∀ l, l < r → gt (wq z) p l = 0) (hs : gt (wq z) p r < 2 ^ 31) : AMd G sX10_leastLoad [.ref (ma 0), .int (nI p)] (wM G ma z sf st hh sh len tx th wy mo td re lo to rw ha) (some (.int (nI r))) (wM G ma z sf st hh sh len tx th wy mo td re lo to rw ha) := by
  refine AM.of (σ := sX10_leastLoad) (by decide +kernel) (by decide +kernel) (Nat.le_of_ble_eq_true rfl) (fun B hB hR hE0 hN => ?_)
  have hE := BE.of hE0
  refine a_iconstN (v := 0) hB dX10_leastLoad_0 (by decide) ?_
  refine a_istore_n hB dX10_leastLoad_1 (by decide) ?_
  have lp2 : ∀ (j2 i : Nat), i + j2 = r → aW G sX10_leastLoad B 2 [(0, .ref (ma 0)), (1, .int (nI p)), (2, .int (nI i))] [] (wM G ma z sf st hh sh len tx th wy mo td re lo to rw ha) 0 0 := by
    intro j2
    induction j2 with
    | zero =>
      intro i hi
      refine a_aload_n hB dX10_leastLoad_2 rfl ?_
      refine a_iload_n hB dX10_leastLoad_3 rfl ?_
      refine a_iload_n hB dX10_leastLoad_4 rfl ?_
      refine a_callVr (q0 := 0) hB (c_X10_weightOf (by omega) (by omega)) mk_X10_weightOf ml_X10_50 dX10_leastLoad_5 rfl rfl [0, 1, 2, 3, 4, 5, 6, 7, 8, 9] rfl (by decide) rfl rfl (fit_of hR (by decide)) (Nat.le_of_ble_eq_true rfl) ?_
      refine a_if_neN_t (tgt := 17) hB dX10_leastLoad_8 (by decide) (by rw [show i = r by omega]; exact hs) (by rw [show i = r by omega]; omega) ?_
      refine a_iload_n hB dX10_leastLoad_17 rfl ?_
      exact a_iret hB hE rfl dX10_leastLoad_18 (Nat.le_of_ble_eq_true rfl) (Nat.le_of_ble_eq_true rfl) (AKeep.of rfl) ⟨by rw [show i = r by omega], rfl⟩
    | succ j2 ih2 =>
      intro i hi
      refine a_aload_n hB dX10_leastLoad_2 rfl ?_
      refine a_iload_n hB dX10_leastLoad_3 rfl ?_
      refine a_iload_n hB dX10_leastLoad_4 rfl ?_
      refine a_callVr (q0 := 0) hB (c_X10_weightOf (by omega) (by omega)) mk_X10_weightOf ml_X10_50 dX10_leastLoad_5 rfl rfl [0, 1, 2, 3, 4, 5, 6, 7, 8, 9] rfl (by decide) rfl rfl (fit_of hR (by decide)) (Nat.le_of_ble_eq_true rfl) ?_
      refine a_if_neN_f (tgt := 17) hB dX10_leastLoad_8 (by decide) (by rw [h0 i (by omega)]; decide) (h0 i (by omega)) ?_
      refine a_iincN (b := 1) hB dX10_leastLoad_11 rfl (by decide) (by decide) ?_
      refine a_goto (tgt := 2) hB dX10_leastLoad_14 (by decide) ?_
      exact aW_at [0, 1, 2] rfl rfl rfl (ih2 (i + 1) (by omega))
  exact aW_at [0, 1, 2] rfl rfl rfl (lp2 (r) 0 (by omega))
set_option maxHeartbeats 4000000 in
set_option maxRecDepth 100000 in
theorem c_X10_loadSum_0 {G : GP} {ma z : Nat → Nat} {sf : Nat → UInt64} {st : Nat} {hh : Nat → Nat} {sh : Nat → UInt64} {len : Nat} {tx : Nat → Nat} {th : Nat} {wy mo td : Nat → Nat} {re lo to : Nat} {rw : Nat → Nat} {ha : Int64} {p : Nat} (hp : p < 6) : AMd G sX10_loadSum [.ref (ma 0), .int (nI p), .int (nI 0)] (wM G ma z sf st hh sh len tx th wy mo td re lo to rw ha) (some (.int (nI (mom (wq z) p)))) (wM G ma z sf st hh sh len tx th wy mo td re lo to rw ha) := by
  refine AM.of (σ := sX10_loadSum) (by decide +kernel) (by decide +kernel) (Nat.le_of_ble_eq_true rfl) (fun B hB hR hE0 hN => ?_)
  have hE := BE.of hE0
  refine a_iconstN (v := 0) hB dX10_loadSum_0 (by decide) ?_
  refine a_istore_n hB dX10_loadSum_1 (by decide) ?_
  refine a_iconstN (v := 0) hB dX10_loadSum_2 (by decide) ?_
  refine a_istore hB dX10_loadSum_3 (by decide) ?_
  have lp5 : ∀ (j5 i : Nat), i + j5 = 6 → aW G sX10_loadSum B 5 [(0, .ref (ma 0)), (1, .int (nI p)), (2, .int (nI 0)), (3, .int (nI (sumN (fun l => l * gt (wq z) p l) i))), (4, .int (nI i))] [] (wM G ma z sf st hh sh len tx th wy mo td re lo to rw ha) 0 0 := by
    intro j5
    induction j5 with
    | zero =>
      intro i hi
      refine a_iload hB dX10_loadSum_5 rfl ?_
      refine a_bipushN (v := 6) hB dX10_loadSum_7 (by decide) ?_
      refine a_icmp_geN_t (tgt := 45) hB dX10_loadSum_9 (by decide) (by omega) (by omega) (by omega) ?_
      refine a_iload_n hB dX10_loadSum_45 rfl ?_
      exact a_iret hB hE rfl dX10_loadSum_46 (Nat.le_of_ble_eq_true rfl) (Nat.le_of_ble_eq_true rfl) (AKeep.of rfl) ⟨by rw [show i = 6 by omega]; rfl, rfl⟩
    | succ j5 ih5 =>
      intro i hi
      refine a_iload hB dX10_loadSum_5 rfl ?_
      refine a_bipushN (v := 6) hB dX10_loadSum_7 (by decide) ?_
      refine a_icmp_geN_f (tgt := 45) hB dX10_loadSum_9 (by decide) (by omega) (by omega) (by omega) ?_
      refine a_iload_n hB dX10_loadSum_12 rfl ?_
      refine a_iload hB dX10_loadSum_13 rfl ?_
      refine a_iload_n hB dX10_loadSum_15 rfl ?_
      refine a_if_eqN_t (tgt := 29) hB dX10_loadSum_16 (by decide) (by omega) (by omega) ?_
      refine a_aload_n hB dX10_loadSum_29 rfl ?_
      refine a_iload_n hB dX10_loadSum_30 rfl ?_
      refine a_iload hB dX10_loadSum_31 rfl ?_
      refine a_callVr (q0 := 0) hB (c_X10_weightOf (by omega) (by omega)) mk_X10_weightOf ml_X10_50 dX10_loadSum_33 rfl rfl [0, 1, 2, 3, 4, 5, 6, 7, 8, 9] rfl (by decide) rfl rfl (fit_of hR (by decide)) (Nat.le_of_ble_eq_true rfl) ?_
      refine a_imulN hB dX10_loadSum_36 ?_
      refine a_iaddN hB dX10_loadSum_37 ?_
      refine a_istore_n hB dX10_loadSum_38 (by decide) ?_
      refine a_iincN (b := 1) hB dX10_loadSum_39 rfl (by decide) (by decide) ?_
      refine a_goto (tgt := 5) hB dX10_loadSum_42 (by decide) ?_
      exact aW_at [0, 1, 2, 3, 4] rfl rfl rfl (ih5 (i + 1) (by omega))
  exact aW_at [0, 1, 2, 3, 4] rfl rfl rfl (lp5 (6) 0 (by omega))
set_option maxHeartbeats 4000000 in
set_option maxRecDepth 100000 in
theorem c_X10_loadSum_1 {G : GP} {ma z : Nat → Nat} {sf : Nat → UInt64} {st : Nat} {hh : Nat → Nat} {sh : Nat → UInt64} {len : Nat} {tx : Nat → Nat} {th : Nat} {wy mo td : Nat → Nat} {re lo to : Nat} {rw : Nat → Nat} {ha : Int64} {p : Nat} (hp : p < 6) : AMd G sX10_loadSum [.ref (ma 0), .int (nI p), .int (nI 1)] (wM G ma z sf st hh sh len tx th wy mo td re lo to rw ha) (some (.int (nI (mom (tq z) p)))) (wM G ma z sf st hh sh len tx th wy mo td re lo to rw ha) := by
  refine AM.of (σ := sX10_loadSum) (by decide +kernel) (by decide +kernel) (Nat.le_of_ble_eq_true rfl) (fun B hB hR hE0 hN => ?_)
  have hE := BE.of hE0
  refine a_iconstN (v := 0) hB dX10_loadSum_0 (by decide) ?_
  refine a_istore_n hB dX10_loadSum_1 (by decide) ?_
  refine a_iconstN (v := 0) hB dX10_loadSum_2 (by decide) ?_
  refine a_istore hB dX10_loadSum_3 (by decide) ?_
  have lp5 : ∀ (j5 i : Nat), i + j5 = 6 → aW G sX10_loadSum B 5 [(0, .ref (ma 0)), (1, .int (nI p)), (2, .int (nI 1)), (3, .int (nI (sumN (fun l => l * gt (tq z) p l) i))), (4, .int (nI i))] [] (wM G ma z sf st hh sh len tx th wy mo td re lo to rw ha) 0 0 := by
    intro j5
    induction j5 with
    | zero =>
      intro i hi
      refine a_iload hB dX10_loadSum_5 rfl ?_
      refine a_bipushN (v := 6) hB dX10_loadSum_7 (by decide) ?_
      refine a_icmp_geN_t (tgt := 45) hB dX10_loadSum_9 (by decide) (by omega) (by omega) (by omega) ?_
      refine a_iload_n hB dX10_loadSum_45 rfl ?_
      exact a_iret hB hE rfl dX10_loadSum_46 (Nat.le_of_ble_eq_true rfl) (Nat.le_of_ble_eq_true rfl) (AKeep.of rfl) ⟨by rw [show i = 6 by omega]; rfl, rfl⟩
    | succ j5 ih5 =>
      intro i hi
      refine a_iload hB dX10_loadSum_5 rfl ?_
      refine a_bipushN (v := 6) hB dX10_loadSum_7 (by decide) ?_
      refine a_icmp_geN_f (tgt := 45) hB dX10_loadSum_9 (by decide) (by omega) (by omega) (by omega) ?_
      refine a_iload_n hB dX10_loadSum_12 rfl ?_
      refine a_iload hB dX10_loadSum_13 rfl ?_
      refine a_iload_n hB dX10_loadSum_15 rfl ?_
      refine a_if_eqN_f (tgt := 29) hB dX10_loadSum_16 (by decide) (by omega) (by omega) ?_
      refine a_aload_n hB dX10_loadSum_19 rfl ?_
      refine a_iload_n hB dX10_loadSum_20 rfl ?_
      refine a_iload hB dX10_loadSum_21 rfl ?_
      refine a_callVr (q0 := 0) hB (c_X10_tiltedOf (by omega) (by omega)) mk_X10_tiltedOf ml_X10_54 dX10_loadSum_23 rfl rfl [0, 1, 2, 3, 4, 5, 6, 7, 8, 9] rfl (by decide) rfl rfl (fit_of hR (by decide)) (Nat.le_of_ble_eq_true rfl) ?_
      refine a_goto (tgt := 36) hB dX10_loadSum_26 (by decide) ?_
      refine a_imulN hB dX10_loadSum_36 ?_
      refine a_iaddN hB dX10_loadSum_37 ?_
      refine a_istore_n hB dX10_loadSum_38 (by decide) ?_
      refine a_iincN (b := 1) hB dX10_loadSum_39 rfl (by decide) (by decide) ?_
      refine a_goto (tgt := 5) hB dX10_loadSum_42 (by decide) ?_
      exact aW_at [0, 1, 2, 3, 4] rfl rfl rfl (ih5 (i + 1) (by omega))
  exact aW_at [0, 1, 2, 3, 4] rfl rfl rfl (lp5 (6) 0 (by omega))
set_option maxHeartbeats 4000000 in
set_option maxRecDepth 100000 in
theorem c_X10_bySamples_0 {G : GP} {ma z : Nat → Nat} {sf : Nat → UInt64} {st : Nat} {hh : Nat → Nat} {sh : Nat → UInt64} {len : Nat} {tx : Nat → Nat} {th : Nat} {wy mo td : Nat → Nat} {re lo to : Nat} {rw : Nat → Nat} {ha : Int64} {x : UInt64} (h : z 3 = 0) : AMd G sX10_bySamples [.ref (ma 0), .double x] (wM G ma z sf st hh sh len tx th wy mo td re lo to rw ha) (some (.double FP.dconst0)) (wM G ma z sf st hh sh len tx th wy mo td re lo to rw ha) := by
  refine AM.of (σ := sX10_bySamples) (by decide +kernel) (by decide +kernel) (Nat.le_of_ble_eq_true rfl) (fun B hB hR hE0 hN => ?_)
  have hE := BE.of hE0
  refine a_aload_n hB dX10_bySamples_0 rfl ?_
  refine a_get (T := TX10) (ci := 10) hB dX10_bySamples_1 0 fl_X10_7 lay_X10 rfl (by decide) rfl 0 rfl rfl ?_
  refine a_iconstN (v := 3) hB dX10_bySamples_4 (by decide) ?_
  refine a_ialoadN hB dX10_bySamples_5 1 rfl (by omega) (by decide) ?_
  refine a_if_neN_f (tgt := 13) hB dX10_bySamples_6 (by decide) (by omega) (by omega) ?_
  refine a_dconst0 hB dX10_bySamples_9 ?_
  refine a_goto (tgt := 22) hB dX10_bySamples_10 (by decide) ?_
  exact a_dret hB hE rfl dX10_bySamples_22 (Nat.le_of_ble_eq_true rfl) (Nat.le_of_ble_eq_true rfl) (AKeep.of rfl) ⟨rfl, rfl⟩
set_option maxHeartbeats 4000000 in
set_option maxRecDepth 100000 in
theorem c_X10_bySamples_n {G : GP} {ma z : Nat → Nat} {sf : Nat → UInt64} {st : Nat} {hh : Nat → Nat} {sh : Nat → UInt64} {len : Nat} {tx : Nat → Nat} {th : Nat} {wy mo td : Nat → Nat} {re lo to : Nat} {rw : Nat → Nat} {ha : Int64} {x : UInt64} (h : ¬ z 3 = 0) (hb : z 3 < 2 ^ 31) (hv : vf_n64 (FP.ddiv x (FP.i2d (nI (z 3))))) : AMd G sX10_bySamples [.ref (ma 0), .double x] (wM G ma z sf st hh sh len tx th wy mo td re lo to rw ha) (some (.double (FP.ddiv x (FP.i2d (nI (z 3)))))) (wM G ma z sf st hh sh len tx th wy mo td re lo to rw ha) := by
  refine AM.of (σ := sX10_bySamples) (by decide +kernel) (by decide +kernel) (Nat.le_of_ble_eq_true rfl) (fun B hB hR hE0 hN => ?_)
  have hE := BE.of hE0
  refine a_aload_n hB dX10_bySamples_0 rfl ?_
  refine a_get (T := TX10) (ci := 10) hB dX10_bySamples_1 0 fl_X10_7 lay_X10 rfl (by decide) rfl 0 rfl rfl ?_
  refine a_iconstN (v := 3) hB dX10_bySamples_4 (by decide) ?_
  refine a_ialoadN hB dX10_bySamples_5 1 rfl (by omega) (by decide) ?_
  refine a_if_neN_t (tgt := 13) hB dX10_bySamples_6 (by decide) (by omega) (by omega) ?_
  refine a_dload_n hB dX10_bySamples_13 rfl ?_
  refine a_aload_n hB dX10_bySamples_14 rfl ?_
  refine a_get (T := TX10) (ci := 10) hB dX10_bySamples_15 0 fl_X10_7 lay_X10 rfl (by decide) rfl 0 rfl rfl ?_
  refine a_iconstN (v := 3) hB dX10_bySamples_18 (by decide) ?_
  refine a_ialoadN hB dX10_bySamples_19 1 rfl (by omega) (by decide) ?_
  refine a_i2d hB dX10_bySamples_20 ?_
  refine a_ddiv hB dX10_bySamples_21 hv ?_
  exact a_dret hB hE rfl dX10_bySamples_22 (Nat.le_of_ble_eq_true rfl) (Nat.le_of_ble_eq_true rfl) (AKeep.of rfl) ⟨rfl, rfl⟩
set_option maxHeartbeats 4000000 in
set_option maxRecDepth 100000 in
theorem c_X10_effective_0 {G : GP} {ma z : Nat → Nat} {sf : Nat → UInt64} {st : Nat} {hh : Nat → Nat} {sh : Nat → UInt64} {len : Nat} {tx : Nat → Nat} {th : Nat} {wy mo td : Nat → Nat} {re lo to : Nat} {rw : Nat → Nat} {ha : Int64} (h : z 3 = 0) : AMd G sX10_effective [.ref (ma 0)] (wM G ma z sf st hh sh len tx th wy mo td re lo to rw ha) (some (.double FP.dconst0)) (wM G ma z sf st hh sh len tx th wy mo td re lo to rw ha) := by
  refine AM.of (σ := sX10_effective) (by decide +kernel) (by decide +kernel) (Nat.le_of_ble_eq_true rfl) (fun B hB hR hE0 hN => ?_)
  have hE := BE.of hE0
  refine a_aload_n hB dX10_effective_0 rfl ?_
  refine a_get (T := TX10) (ci := 10) hB dX10_effective_1 0 fl_X10_7 lay_X10 rfl (by decide) rfl 0 rfl rfl ?_
  refine a_iconstN (v := 3) hB dX10_effective_4 (by decide) ?_
  refine a_ialoadN hB dX10_effective_5 1 rfl (by omega) (by decide) ?_
  refine a_if_neN_f (tgt := 13) hB dX10_effective_6 (by decide) (by omega) (by omega) ?_
  refine a_dconst0 hB dX10_effective_9 ?_
  refine a_goto (tgt := 33) hB dX10_effective_10 (by decide) ?_
  exact a_dret hB hE rfl dX10_effective_33 (Nat.le_of_ble_eq_true rfl) (Nat.le_of_ble_eq_true rfl) (AKeep.of rfl) ⟨rfl, rfl⟩
set_option maxHeartbeats 4000000 in
set_option maxRecDepth 100000 in
theorem c_X10_effective_n {G : GP} {ma z : Nat → Nat} {sf : Nat → UInt64} {st : Nat} {hh : Nat → Nat} {sh : Nat → UInt64} {len : Nat} {tx : Nat → Nat} {th : Nat} {wy mo td : Nat → Nat} {re lo to : Nat} {rw : Nat → Nat} {ha : Int64} (h : ¬ z 3 = 0) (hb : z 3 < 2 ^ 31) (h1 : vf_n64 (FP.dmul (sf 1) (sf 1))) (h2 : vf_n64 (FP.ddiv (FP.dmul (sf 1) (sf 1)) (sf 2))) : AMd G sX10_effective [.ref (ma 0)] (wM G ma z sf st hh sh len tx th wy mo td re lo to rw ha) (some (.double (FP.ddiv (FP.dmul (sf 1) (sf 1)) (sf 2)))) (wM G ma z sf st hh sh len tx th wy mo td re lo to rw ha) := by
  refine AM.of (σ := sX10_effective) (by decide +kernel) (by decide +kernel) (Nat.le_of_ble_eq_true rfl) (fun B hB hR hE0 hN => ?_)
  have hE := BE.of hE0
  refine a_aload_n hB dX10_effective_0 rfl ?_
  refine a_get (T := TX10) (ci := 10) hB dX10_effective_1 0 fl_X10_7 lay_X10 rfl (by decide) rfl 0 rfl rfl ?_
  refine a_iconstN (v := 3) hB dX10_effective_4 (by decide) ?_
  refine a_ialoadN hB dX10_effective_5 1 rfl (by omega) (by decide) ?_
  refine a_if_neN_t (tgt := 13) hB dX10_effective_6 (by decide) (by omega) (by omega) ?_
  refine a_aload_n hB dX10_effective_13 rfl ?_
  refine a_get (T := TX10) (ci := 10) hB dX10_effective_14 1 fl_X10_13 lay_X10 rfl (by decide) rfl 0 rfl rfl ?_
  refine a_iconstN (v := 1) hB dX10_effective_17 (by decide) ?_
  refine a_daloadN hB dX10_effective_18 2 rfl (by omega) (by decide) ?_
  refine a_aload_n hB dX10_effective_19 rfl ?_
  refine a_get (T := TX10) (ci := 10) hB dX10_effective_20 1 fl_X10_13 lay_X10 rfl (by decide) rfl 0 rfl rfl ?_
  refine a_iconstN (v := 1) hB dX10_effective_23 (by decide) ?_
  refine a_daloadN hB dX10_effective_24 2 rfl (by omega) (by decide) ?_
  refine a_dmul hB dX10_effective_25 h1 ?_
  refine a_aload_n hB dX10_effective_26 rfl ?_
  refine a_get (T := TX10) (ci := 10) hB dX10_effective_27 1 fl_X10_13 lay_X10 rfl (by decide) rfl 0 rfl rfl ?_
  refine a_iconstN (v := 2) hB dX10_effective_30 (by decide) ?_
  refine a_daloadN hB dX10_effective_31 2 rfl (by omega) (by decide) ?_
  refine a_ddiv hB dX10_effective_32 h2 ?_
  exact a_dret hB hE rfl dX10_effective_33 (Nat.le_of_ble_eq_true rfl) (Nat.le_of_ble_eq_true rfl) (AKeep.of rfl) ⟨rfl, rfl⟩
