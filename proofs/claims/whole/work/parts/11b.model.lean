set_option maxHeartbeats 4000000 in
set_option maxRecDepth 100000 in
theorem c_X10_within_N {G : GP} {v a b : Nat} (h1 : a ≤ v) (h2 : v ≤ b) (hb : b < 2 ^ 31) : AMd G sX10_within [.int (nI v), .int (nI a), .int (nI b)] [] (some (.int (nI 1))) [] := by
  refine AM.of (σ := sX10_within) (by decide +kernel) (by decide +kernel) (Nat.le_of_ble_eq_true rfl) (fun B hB hR hE0 hN => ?_)
  have hE := BE.of hE0
  refine a_iload_n hB dX10_within_0 rfl ?_
  refine a_iload_n hB dX10_within_1 rfl ?_
  refine a_icmp_ltN_f (tgt := 14) hB dX10_within_2 (by decide) (by omega) (by omega) (by omega) ?_
  refine a_iload_n hB dX10_within_5 rfl ?_
  refine a_iload_n hB dX10_within_6 rfl ?_
  refine a_icmp_gtN_f (tgt := 14) hB dX10_within_7 (by decide) (by omega) (by omega) (by omega) ?_
  refine a_iconstN (v := 1) hB dX10_within_10 (by decide) ?_
  refine a_goto (tgt := 15) hB dX10_within_11 (by decide) ?_
  exact a_zret hB hE rfl (by decide) dX10_within_15 (Nat.le_of_ble_eq_true rfl) (Nat.le_of_ble_eq_true rfl) (AKeep.of rfl) ⟨rfl, rfl⟩
set_option maxHeartbeats 4000000 in
set_option maxRecDepth 100000 in
theorem c_X10_isLoad_N {G : GP} {v : Nat} (h2 : v ≤ 5) : AMd G sX10_isLoad [.int (nI v)] [] (some (.int (nI 1))) [] := by
  refine AM.of (σ := sX10_isLoad) (by decide +kernel) (by decide +kernel) (Nat.le_of_ble_eq_true rfl) (fun B hB hR hE0 hN => ?_)
  have hE := BE.of hE0
  refine a_iload_n hB dX10_isLoad_0 rfl ?_
  refine a_iconstN (v := 0) hB dX10_isLoad_1 (by decide) ?_
  refine a_iconstN (v := 5) hB dX10_isLoad_2 (by decide) ?_
  refine a_callSr hB (c_X10_within_N (by omega) (by omega) (by omega)) mk_X10_within ml_X10_46 dX10_isLoad_3 rfl rfl [] rfl (by decide) (fit_of hR (by decide)) (Nat.le_of_ble_eq_true rfl) ?_
  exact a_zret hB hE rfl (by decide) dX10_isLoad_6 (Nat.le_of_ble_eq_true rfl) (Nat.le_of_ble_eq_true rfl) (AKeep.of rfl) ⟨rfl, rfl⟩
set_option maxHeartbeats 4000000 in
set_option maxRecDepth 100000 in
theorem c_X10_isLimit_N {G : GP} {v : Nat} (h2 : v ≤ 99) : AMd G sX10_isLimit [.int (nI v)] [] (some (.int (nI 1))) [] := by
  refine AM.of (σ := sX10_isLimit) (by decide +kernel) (by decide +kernel) (Nat.le_of_ble_eq_true rfl) (fun B hB hR hE0 hN => ?_)
  have hE := BE.of hE0
  refine a_iload_n hB dX10_isLimit_0 rfl ?_
  refine a_iconstN (v := 0) hB dX10_isLimit_1 (by decide) ?_
  refine a_bipushN (v := 99) hB dX10_isLimit_2 (by decide) ?_
  refine a_callSr hB (c_X10_within_N (by omega) (by omega) (by omega)) mk_X10_within ml_X10_46 dX10_isLimit_4 rfl rfl [] rfl (by decide) (fit_of hR (by decide)) (Nat.le_of_ble_eq_true rfl) ?_
  exact a_zret hB hE rfl (by decide) dX10_isLimit_7 (Nat.le_of_ble_eq_true rfl) (Nat.le_of_ble_eq_true rfl) (AKeep.of rfl) ⟨rfl, rfl⟩
set_option maxHeartbeats 4000000 in
set_option maxRecDepth 100000 in
theorem c_X10_isPart_N {G : GP} {ma z : Nat → Nat} {sf : Nat → UInt64} {st : Nat} {hh : Nat → Nat} {sh : Nat → UInt64} {len : Nat} {tx : Nat → Nat} {th : Nat} {wy mo td : Nat → Nat} {re lo to : Nat} {rw : Nat → Nat} {ha : Int64} {p : Nat} (hp : p < z 0) (h6 : z 0 ≤ 6) : AMd G sX10_isPart [.ref (ma 0), .int (nI p)] (wM G ma z sf st hh sh len tx th wy mo td re lo to rw ha) (some (.int (nI 1))) (wM G ma z sf st hh sh len tx th wy mo td re lo to rw ha) := by
  refine AM.of (σ := sX10_isPart) (by decide +kernel) (by decide +kernel) (Nat.le_of_ble_eq_true rfl) (fun B hB hR hE0 hN => ?_)
  have hE := BE.of hE0
  refine a_iload_n hB dX10_isPart_0 rfl ?_
  refine a_iconstN (v := 0) hB dX10_isPart_1 (by decide) ?_
  refine a_aload_n hB dX10_isPart_2 rfl ?_
  refine a_get (T := TX10) (ci := 10) hB dX10_isPart_3 0 fl_X10_7 lay_X10 rfl (by decide) rfl 0 rfl rfl ?_
  refine a_iconstN (v := 0) hB dX10_isPart_6 (by decide) ?_
  refine a_ialoadN hB dX10_isPart_7 1 rfl (by omega) (by decide) ?_
  refine a_iconstN (v := 1) hB dX10_isPart_8 (by decide) ?_
  refine a_isubN hB dX10_isPart_9 (by omega) ?_
  refine a_callSr hB (c_X10_within_N (by omega) (by omega) (by omega)) mk_X10_within ml_X10_46 dX10_isPart_10 rfl rfl [] rfl (by decide) (fit_of hR (by decide)) (Nat.le_of_ble_eq_true rfl) ?_
  exact a_zret hB hE rfl (by decide) dX10_isPart_13 (Nat.le_of_ble_eq_true rfl) (Nat.le_of_ble_eq_true rfl) (AKeep.of rfl) ⟨rfl, rfl⟩
def rmF (z : Nat → Nat) (a : Nat) : Nat → Nat → Nat
  | 0 => z
  | i + 1 => uN (rmF z a i) (a + i) (rmF z a i (a + i + 6))
theorem rmF_0 (z : Nat → Nat) {a : Nat} (h : 1 ≤ a) : ∀ i, rmF z a i 0 = z 0
  | 0 => rfl
  | i + 1 => by
    show (if 0 = a + i then _ else rmF z a i 0) = z 0
    rw [if_neg (by omega)]
    exact rmF_0 z h i
def ldC (b : Nat) {α : Type} (z h : Nat → α) : Nat → Nat → α
  | 0 => z
  | i + 1 => uN (ldC b z h i) i (h (b + i))
set_option maxHeartbeats 4000000 in
set_option maxRecDepth 100000 in
theorem c_X10_removeFrom {G : GP} {ma z : Nat → Nat} {sf : Nat → UInt64} {st : Nat} {hh : Nat → Nat} {sh : Nat → UInt64} {len : Nat} {tx : Nat → Nat} {th : Nat} {wy mo td : Nat → Nat} {re lo to : Nat} {rw : Nat → Nat} {ha : Int64} {a p : Nat} (h1 : 1 ≤ a) (h47 : a ≤ 47) (hp : p ≤ z 0) (h5 : z 0 ≤ 5) : AMd G sX10_removeFrom [.ref (ma 0), .int (nI a), .int (nI p)] (wM G ma z sf st hh sh len tx th wy mo td re lo to rw ha) none (wM G ma (rmF z (a + 6 * p) (6 * z 0 - 6 * p)) sf st hh sh len tx th wy mo td re lo to rw ha) := by
  refine AM.of (σ := sX10_removeFrom) (by decide +kernel) (by decide +kernel) (Nat.le_of_ble_eq_true rfl) (fun B hB hR hE0 hN => ?_)
  have hE := BE.of hE0
  refine a_iload_n hB dX10_removeFrom_0 rfl ?_
  refine a_bipushN (v := 6) hB dX10_removeFrom_1 (by decide) ?_
  refine a_iload_n hB dX10_removeFrom_3 rfl ?_
  refine a_imulN hB dX10_removeFrom_4 ?_
  refine a_iaddN hB dX10_removeFrom_5 ?_
  refine a_istore_n hB dX10_removeFrom_6 (by decide) ?_
  have lp7 : ∀ (j7 i : Nat), i + j7 = 6 * z 0 - 6 * p → aW G sX10_removeFrom B 7 [(0, .ref (ma 0)), (1, .int (nI a)), (2, .int (nI p)), (3, .int (nI (a + 6 * p + i)))] [] (wM G ma (rmF z (a + 6 * p) i) sf st hh sh len tx th wy mo td re lo to rw ha) 0 0 := by
    intro j7
    induction j7 with
    | zero =>
      intro i hi
      have e0 := rmF_0 z (a := a + 6 * p) (by omega) i
      refine a_iload_n hB dX10_removeFrom_7 rfl ?_
      refine a_iload_n hB dX10_removeFrom_8 rfl ?_
      refine a_bipushN (v := 6) hB dX10_removeFrom_9 (by decide) ?_
      refine a_aload_n hB dX10_removeFrom_11 rfl ?_
      refine a_get (T := TX10) (ci := 10) hB dX10_removeFrom_12 0 fl_X10_7 lay_X10 rfl (by decide) rfl 0 rfl rfl ?_
      refine a_iconstN (v := 0) hB dX10_removeFrom_15 (by decide) ?_
      refine a_ialoadN hB dX10_removeFrom_16 1 rfl (by omega) (by decide) ?_
      refine a_imulN hB dX10_removeFrom_17 ?_
      refine a_iaddN hB dX10_removeFrom_18 ?_
      refine a_icmp_geN_t (tgt := 43) hB dX10_removeFrom_19 (by decide) (by omega) (by rw [e0]; omega) (by rw [e0]; omega) ?_
      exact a_vret hB hE rfl dX10_removeFrom_43 (Nat.le_of_ble_eq_true rfl) (Nat.le_of_ble_eq_true rfl) (AKeep.of rfl) ⟨rfl, by rw [show i = 6 * z 0 - 6 * p by omega]⟩
    | succ j7 ih7 =>
      intro i hi
      have e0 := rmF_0 z (a := a + 6 * p) (by omega) i
      refine a_iload_n hB dX10_removeFrom_7 rfl ?_
      refine a_iload_n hB dX10_removeFrom_8 rfl ?_
      refine a_bipushN (v := 6) hB dX10_removeFrom_9 (by decide) ?_
      refine a_aload_n hB dX10_removeFrom_11 rfl ?_
      refine a_get (T := TX10) (ci := 10) hB dX10_removeFrom_12 0 fl_X10_7 lay_X10 rfl (by decide) rfl 0 rfl rfl ?_
      refine a_iconstN (v := 0) hB dX10_removeFrom_15 (by decide) ?_
      refine a_ialoadN hB dX10_removeFrom_16 1 rfl (by omega) (by decide) ?_
      refine a_imulN hB dX10_removeFrom_17 ?_
      refine a_iaddN hB dX10_removeFrom_18 ?_
      refine a_icmp_geN_f (tgt := 43) hB dX10_removeFrom_19 (by decide) (by omega) (by rw [e0]; omega) (by rw [e0]; omega) ?_
      refine a_aload_n hB dX10_removeFrom_22 rfl ?_
      refine a_get (T := TX10) (ci := 10) hB dX10_removeFrom_23 0 fl_X10_7 lay_X10 rfl (by decide) rfl 0 rfl rfl ?_
      refine a_iload_n hB dX10_removeFrom_26 rfl ?_
      refine a_aload_n hB dX10_removeFrom_27 rfl ?_
      refine a_get (T := TX10) (ci := 10) hB dX10_removeFrom_28 0 fl_X10_7 lay_X10 rfl (by decide) rfl 0 rfl rfl ?_
      refine a_iload_n hB dX10_removeFrom_31 rfl ?_
      refine a_bipushN (v := 6) hB dX10_removeFrom_32 (by decide) ?_
      refine a_iaddN hB dX10_removeFrom_34 ?_
      refine a_ialoadN hB dX10_removeFrom_35 1 rfl (by omega) (by decide) ?_
      refine a_iastoreN hB dX10_removeFrom_36 1 rfl (by omega) (by decide) ?_
      refine a_iincN (b := 1) hB dX10_removeFrom_37 rfl (by decide) (by decide) ?_
      refine a_goto (tgt := 7) hB dX10_removeFrom_40 (by decide) ?_
      exact aW_at [0, 1, 2, 3] rfl rfl rfl (ih7 (i + 1) (by omega))
  exact aW_at [0, 1, 2, 3] rfl rfl rfl (lp7 (6 * z 0 - 6 * p) 0 (by omega))
set_option maxHeartbeats 4000000 in
set_option maxRecDepth 100000 in
theorem c_X10_limit_ok {G : GP} {ma z : Nat → Nat} {sf : Nat → UInt64} {st : Nat} {hh : Nat → Nat} {sh : Nat → UInt64} {len : Nat} {tx : Nat → Nat} {th : Nat} {wy mo td : Nat → Nat} {re lo to : Nat} {rw : Nat → Nat} {ha : Int64} {v : Nat} (hv : v ≤ 99) (hs : st ≤ 6) : AMd G sX10_limit [.ref (ma 0), .int (nI v)] (wM G ma z sf st hh sh len tx th wy mo td re lo to rw ha) (some (.int (nI (z 1)))) (wM G ma (uN (fg z 6) 1 v) (fs0 sf 4) (min (st + 1) 6) (svH z hh st) (svT sf sh st) len tx 0 wy mo td re lo to rw ha) := by
  refine AM.of (σ := sX10_limit) (by decide +kernel) (by decide +kernel) (Nat.le_of_ble_eq_true rfl) (fun B hB hR hE0 hN => ?_)
  have hE := BE.of hE0
  refine a_aload_n hB dX10_limit_0 rfl ?_
  refine a_iload_n hB dX10_limit_1 rfl ?_
  refine a_callSr hB (c_X10_isLimit_N (by omega)) mk_X10_isLimit ml_X10_120 dX10_limit_2 rfl rfl [] rfl (by decide) (fit_of hR (by decide)) (Nat.le_of_ble_eq_true rfl) ?_
  refine a_if_eqN_f (tgt := 12) hB dX10_limit_5 (by decide) (by omega) (by omega) ?_
  refine a_iconstN (v := 0) hB dX10_limit_8 (by decide) ?_
  refine a_goto (tgt := 13) hB dX10_limit_9 (by decide) ?_
  refine a_put (T := TX10) (ci := 10) hB dX10_limit_13 7 fl_X10_39 lay_X10 tyX10 tyX10_ok nmX10 rfl (by decide) rfl rfl 0 rfl rfl rfl rfl (Nat.le_of_ble_eq_true rfl) ?_
  refine a_aload_n hB dX10_limit_16 rfl ?_
  refine a_get (T := TX10) (ci := 10) hB dX10_limit_17 7 fl_X10_39 lay_X10 rfl (by decide) rfl 0 rfl rfl ?_
  refine a_if_leN_t (tgt := 25) hB dX10_limit_20 (by decide) (by omega) (by omega) ?_
  refine a_aload_n hB dX10_limit_25 rfl ?_
  refine a_callVd (w2 := wM G ma z sf (min (st + 1) 6) (svH z hh st) (svT sf sh st) len tx 0 wy mo td re lo to rw ha) (q0 := 0) hB (c_X10_save (by omega)) mk_X10_save ml_X10_104 dX10_limit_26 rfl rfl [0, 1, 2, 3, 4, 5, 6, 7, 8, 9] rfl (by decide) rfl rfl (fit_of hR (by decide)) (Nat.le_of_ble_eq_true rfl) (wput_all rfl rfl) ?_
  refine a_aload_n hB dX10_limit_29 rfl ?_
  refine a_callVd (w2 := wM G ma (fg z 6) (fs0 sf 4) (min (st + 1) 6) (svH z hh st) (svT sf sh st) len tx 0 wy mo td re lo to rw ha) (q0 := 0) hB (c_X10_forgets) mk_X10_forgets ml_X10_107 dX10_limit_30 rfl rfl [0, 1, 2, 3, 4, 5, 6, 7, 8, 9] rfl (by decide) rfl rfl (fit_of hR (by decide)) (Nat.le_of_ble_eq_true rfl) (wput_all rfl rfl) ?_
  refine a_istore_n hB dX10_limit_33 (by decide) ?_
  refine a_aload_n hB dX10_limit_34 rfl ?_
  refine a_get (T := TX10) (ci := 10) hB dX10_limit_35 0 fl_X10_7 lay_X10 rfl (by decide) rfl 0 rfl rfl ?_
  refine a_iconstN (v := 1) hB dX10_limit_38 (by decide) ?_
  refine a_ialoadN hB dX10_limit_39 1 rfl (by omega) (by decide) ?_
  refine a_istore_n hB dX10_limit_40 (by decide) ?_
  refine a_aload_n hB dX10_limit_41 rfl ?_
  refine a_get (T := TX10) (ci := 10) hB dX10_limit_42 0 fl_X10_7 lay_X10 rfl (by decide) rfl 0 rfl rfl ?_
  refine a_iconstN (v := 1) hB dX10_limit_45 (by decide) ?_
  refine a_iload_n hB dX10_limit_46 rfl ?_
  refine a_iastoreN hB dX10_limit_47 1 rfl (by omega) (by decide) ?_
  refine a_iload_n hB dX10_limit_48 rfl ?_
  exact a_iret hB hE rfl dX10_limit_49 (Nat.le_of_ble_eq_true rfl) (Nat.le_of_ble_eq_true rfl) (AKeep.of rfl) ⟨rfl, rfl⟩
set_option maxHeartbeats 4000000 in
set_option maxRecDepth 100000 in
theorem c_X10_limit_r {G : GP} {ma z : Nat → Nat} {sf : Nat → UInt64} {st : Nat} {hh : Nat → Nat} {sh : Nat → UInt64} {len : Nat} {tx : Nat → Nat} {th : Nat} {wy mo td : Nat → Nat} {re lo to : Nat} {rw : Nat → Nat} {ha : Int64} {x : Int32} (h : x < nI 0 ∨ nI 99 < x) : AMd G sX10_limit [.ref (ma 0), .int x] (wM G ma z sf st hh sh len tx th wy mo td re lo to rw ha) (some (.int (nI 0))) (wM G ma z sf st hh sh len tx 1 wy mo td re lo to rw ha) := by
  refine AM.of (σ := sX10_limit) (by decide +kernel) (by decide +kernel) (Nat.le_of_ble_eq_true rfl) (fun B hB hR hE0 hN => ?_)
  have hE := BE.of hE0
  refine a_aload_n hB dX10_limit_0 rfl ?_
  refine a_iload_n hB dX10_limit_1 rfl ?_
  refine a_callSr hB (c_X10_isLimit_n h) mk_X10_isLimit ml_X10_120 dX10_limit_2 rfl rfl [] rfl (by decide) (fit_of hR (by decide)) (Nat.le_of_ble_eq_true rfl) ?_
  refine a_if_eqN_t (tgt := 12) hB dX10_limit_5 (by decide) (by omega) (by omega) ?_
  refine a_iconstN (v := 1) hB dX10_limit_12 (by decide) ?_
  refine a_put (T := TX10) (ci := 10) hB dX10_limit_13 7 fl_X10_39 lay_X10 tyX10 tyX10_ok nmX10 rfl (by decide) rfl rfl 0 rfl rfl rfl rfl (Nat.le_of_ble_eq_true rfl) ?_
  refine a_aload_n hB dX10_limit_16 rfl ?_
  refine a_get (T := TX10) (ci := 10) hB dX10_limit_17 7 fl_X10_39 lay_X10 rfl (by decide) rfl 0 rfl rfl ?_
  refine a_if_leN_f (tgt := 25) hB dX10_limit_20 (by decide) (by omega) (by omega) ?_
  refine a_iconstN (v := 0) hB dX10_limit_23 (by decide) ?_
  exact a_iret hB hE rfl dX10_limit_24 (Nat.le_of_ble_eq_true rfl) (Nat.le_of_ble_eq_true rfl) (AKeep.of rfl) ⟨rfl, rfl⟩
set_option maxHeartbeats 4000000 in
set_option maxRecDepth 100000 in
theorem c_X10_seed_ok {G : GP} {ma z : Nat → Nat} {sf : Nat → UInt64} {st : Nat} {hh : Nat → Nat} {sh : Nat → UInt64} {len : Nat} {tx : Nat → Nat} {th : Nat} {wy mo td : Nat → Nat} {re lo to : Nat} {rw : Nat → Nat} {ha : Int64} {v : Nat} (hv : v < 2 ^ 31) (hs : st ≤ 6) : AMd G sX10_seed [.ref (ma 0), .int (nI v)] (wM G ma z sf st hh sh len tx th wy mo td re lo to rw ha) (some (.int (nI (z 2)))) (wM G ma (uN z 2 v) sf (min (st + 1) 6) (svH z hh st) (svT sf sh st) len tx 0 wy mo td re lo to rw ha) := by
  refine AM.of (σ := sX10_seed) (by decide +kernel) (by decide +kernel) (Nat.le_of_ble_eq_true rfl) (fun B hB hR hE0 hN => ?_)
  have hE := BE.of hE0
  refine a_aload_n hB dX10_seed_0 rfl ?_
  refine a_iload_n hB dX10_seed_1 rfl ?_
  refine a_if_geN_t (tgt := 9) hB dX10_seed_2 (by decide) (by omega) ?_
  refine a_iconstN (v := 0) hB dX10_seed_9 (by decide) ?_
  refine a_put (T := TX10) (ci := 10) hB dX10_seed_10 7 fl_X10_39 lay_X10 tyX10 tyX10_ok nmX10 rfl (by decide) rfl rfl 0 rfl rfl rfl rfl (Nat.le_of_ble_eq_true rfl) ?_
  refine a_aload_n hB dX10_seed_13 rfl ?_
  refine a_get (T := TX10) (ci := 10) hB dX10_seed_14 7 fl_X10_39 lay_X10 rfl (by decide) rfl 0 rfl rfl ?_
  refine a_if_leN_t (tgt := 22) hB dX10_seed_17 (by decide) (by omega) (by omega) ?_
  refine a_aload_n hB dX10_seed_22 rfl ?_
  refine a_callVd (w2 := wM G ma z sf (min (st + 1) 6) (svH z hh st) (svT sf sh st) len tx 0 wy mo td re lo to rw ha) (q0 := 0) hB (c_X10_save (by omega)) mk_X10_save ml_X10_104 dX10_seed_23 rfl rfl [0, 1, 2, 3, 4, 5, 6, 7, 8, 9] rfl (by decide) rfl rfl (fit_of hR (by decide)) (Nat.le_of_ble_eq_true rfl) (wput_all rfl rfl) ?_
  refine a_aload_n hB dX10_seed_26 rfl ?_
  refine a_get (T := TX10) (ci := 10) hB dX10_seed_27 0 fl_X10_7 lay_X10 rfl (by decide) rfl 0 rfl rfl ?_
  refine a_iconstN (v := 2) hB dX10_seed_30 (by decide) ?_
  refine a_ialoadN hB dX10_seed_31 1 rfl (by omega) (by decide) ?_
  refine a_istore_n hB dX10_seed_32 (by decide) ?_
  refine a_aload_n hB dX10_seed_33 rfl ?_
  refine a_get (T := TX10) (ci := 10) hB dX10_seed_34 0 fl_X10_7 lay_X10 rfl (by decide) rfl 0 rfl rfl ?_
  refine a_iconstN (v := 2) hB dX10_seed_37 (by decide) ?_
  refine a_iload_n hB dX10_seed_38 rfl ?_
  refine a_iastoreN hB dX10_seed_39 1 rfl (by omega) (by decide) ?_
  refine a_iload_n hB dX10_seed_40 rfl ?_
  exact a_iret hB hE rfl dX10_seed_41 (Nat.le_of_ble_eq_true rfl) (Nat.le_of_ble_eq_true rfl) (AKeep.of rfl) ⟨rfl, rfl⟩
set_option maxHeartbeats 4000000 in
set_option maxRecDepth 100000 in
theorem c_X10_seed_r {G : GP} {ma z : Nat → Nat} {sf : Nat → UInt64} {st : Nat} {hh : Nat → Nat} {sh : Nat → UInt64} {len : Nat} {tx : Nat → Nat} {th : Nat} {wy mo td : Nat → Nat} {re lo to : Nat} {rw : Nat → Nat} {ha : Int64} {x : Int32} (h : x < 0) : AMd G sX10_seed [.ref (ma 0), .int x] (wM G ma z sf st hh sh len tx th wy mo td re lo to rw ha) (some (.int (nI 0))) (wM G ma z sf st hh sh len tx 1 wy mo td re lo to rw ha) := by
  refine AM.of (σ := sX10_seed) (by decide +kernel) (by decide +kernel) (Nat.le_of_ble_eq_true rfl) (fun B hB hR hE0 hN => ?_)
  have hE := BE.of hE0
  refine a_aload_n hB dX10_seed_0 rfl ?_
  refine a_iload_n hB dX10_seed_1 rfl ?_
  refine a_if_ge_f (tgt := 9) hB dX10_seed_2 (by decide) (Int32.not_le.mpr h) ?_
  refine a_iconstN (v := 1) hB dX10_seed_5 (by decide) ?_
  refine a_goto (tgt := 10) hB dX10_seed_6 (by decide) ?_
  refine a_put (T := TX10) (ci := 10) hB dX10_seed_10 7 fl_X10_39 lay_X10 tyX10 tyX10_ok nmX10 rfl (by decide) rfl rfl 0 rfl rfl rfl rfl (Nat.le_of_ble_eq_true rfl) ?_
  refine a_aload_n hB dX10_seed_13 rfl ?_
  refine a_get (T := TX10) (ci := 10) hB dX10_seed_14 7 fl_X10_39 lay_X10 rfl (by decide) rfl 0 rfl rfl ?_
  refine a_if_leN_f (tgt := 22) hB dX10_seed_17 (by decide) (by omega) (by omega) ?_
  refine a_iconstN (v := 0) hB dX10_seed_20 (by decide) ?_
  exact a_iret hB hE rfl dX10_seed_21 (Nat.le_of_ble_eq_true rfl) (Nat.le_of_ble_eq_true rfl) (AKeep.of rfl) ⟨rfl, rfl⟩
set_option maxHeartbeats 4000000 in
set_option maxRecDepth 100000 in
theorem c_X10_forget {G : GP} {ma z : Nat → Nat} {sf : Nat → UInt64} {st : Nat} {hh : Nat → Nat} {sh : Nat → UInt64} {len : Nat} {tx : Nat → Nat} {th : Nat} {wy mo td : Nat → Nat} {re lo to : Nat} {rw : Nat → Nat} {ha : Int64} (hs : st ≤ 6) : AMd G sX10_forget [.ref (ma 0)] (wM G ma z sf st hh sh len tx th wy mo td re lo to rw ha) (some (.int (nI (z 3)))) (wM G ma (fg z 6) (fs0 sf 4) (min (st + 1) 6) (svH z hh st) (svT sf sh st) len tx 0 wy mo td re lo to rw ha) := by
  refine AM.of (σ := sX10_forget) (by decide +kernel) (by decide +kernel) (Nat.le_of_ble_eq_true rfl) (fun B hB hR hE0 hN => ?_)
  have hE := BE.of hE0
  refine a_aload_n hB dX10_forget_0 rfl ?_
  refine a_iconstN (v := 0) hB dX10_forget_1 (by decide) ?_
  refine a_put (T := TX10) (ci := 10) hB dX10_forget_2 7 fl_X10_39 lay_X10 tyX10 tyX10_ok nmX10 rfl (by decide) rfl rfl 0 rfl rfl rfl rfl (Nat.le_of_ble_eq_true rfl) ?_
  refine a_aload_n hB dX10_forget_5 rfl ?_
  refine a_callVd (w2 := wM G ma z sf (min (st + 1) 6) (svH z hh st) (svT sf sh st) len tx 0 wy mo td re lo to rw ha) (q0 := 0) hB (c_X10_save (by omega)) mk_X10_save ml_X10_104 dX10_forget_6 rfl rfl [0, 1, 2, 3, 4, 5, 6, 7, 8, 9] rfl (by decide) rfl rfl (fit_of hR (by decide)) (Nat.le_of_ble_eq_true rfl) (wput_all rfl rfl) ?_
  refine a_aload_n hB dX10_forget_9 rfl ?_
  refine a_callVd (w2 := wM G ma (fg z 6) (fs0 sf 4) (min (st + 1) 6) (svH z hh st) (svT sf sh st) len tx 0 wy mo td re lo to rw ha) (q0 := 0) hB (c_X10_forgets) mk_X10_forgets ml_X10_107 dX10_forget_10 rfl rfl [0, 1, 2, 3, 4, 5, 6, 7, 8, 9] rfl (by decide) rfl rfl (fit_of hR (by decide)) (Nat.le_of_ble_eq_true rfl) (wput_all rfl rfl) ?_
  exact a_iret hB hE rfl dX10_forget_13 (Nat.le_of_ble_eq_true rfl) (Nat.le_of_ble_eq_true rfl) (AKeep.of rfl) ⟨rfl, rfl⟩
set_option maxHeartbeats 4000000 in
set_option maxRecDepth 100000 in
theorem c_X10_append_ok {G : GP} {ma z : Nat → Nat} {sf : Nat → UInt64} {st : Nat} {hh : Nat → Nat} {sh : Nat → UInt64} {len : Nat} {tx : Nat → Nat} {th : Nat} {wy mo td : Nat → Nat} {re lo to : Nat} {rw : Nat → Nat} {ha : Int64} {v : Nat} (h1 : 33 ≤ v) (h2 : v ≤ 126) (hl : len < 60) : AMd G sX10_append [.ref (ma 0), .int (nI v)] (wM G ma z sf st hh sh len tx th wy mo td re lo to rw ha) (some (.int (nI (len + 1)))) (wM G ma z sf st hh sh (len + 1) (uN tx len v) 0 wy mo td re lo to rw ha) := by
  refine AM.of (σ := sX10_append) (by decide +kernel) (by decide +kernel) (Nat.le_of_ble_eq_true rfl) (fun B hB hR hE0 hN => ?_)
  have hE := BE.of hE0
  refine a_aload_n hB dX10_append_0 rfl ?_
  refine a_iload_n hB dX10_append_1 rfl ?_
  refine a_bipushN (v := 33) hB dX10_append_2 (by decide) ?_
  refine a_bipushN (v := 126) hB dX10_append_4 (by decide) ?_
  refine a_callSr hB (c_X10_within_N (by omega) (by omega) (by omega)) mk_X10_within ml_X10_46 dX10_append_6 rfl rfl [] rfl (by decide) (fit_of hR (by decide)) (Nat.le_of_ble_eq_true rfl) ?_
  refine a_if_neN_t (tgt := 16) hB dX10_append_9 (by decide) (by omega) (by omega) ?_
  refine a_aload_n hB dX10_append_16 rfl ?_
  refine a_get (T := TX10) (ci := 10) hB dX10_append_17 5 fl_X10_126 lay_X10 rfl (by decide) rfl 0 rfl rfl ?_
  refine a_bipushN (v := 60) hB dX10_append_20 (by decide) ?_
  refine a_icmp_neN_t (tgt := 29) hB dX10_append_22 (by decide) (by omega) (by omega) (by omega) ?_
  refine a_iconstN (v := 0) hB dX10_append_29 (by decide) ?_
  refine a_put (T := TX10) (ci := 10) hB dX10_append_30 7 fl_X10_39 lay_X10 tyX10 tyX10_ok nmX10 rfl (by decide) rfl rfl 0 rfl rfl rfl rfl (Nat.le_of_ble_eq_true rfl) ?_
  refine a_aload_n hB dX10_append_33 rfl ?_
  refine a_get (T := TX10) (ci := 10) hB dX10_append_34 7 fl_X10_39 lay_X10 rfl (by decide) rfl 0 rfl rfl ?_
  refine a_if_leN_t (tgt := 42) hB dX10_append_37 (by decide) (by omega) (by omega) ?_
  refine a_aload_n hB dX10_append_42 rfl ?_
  refine a_get (T := TX10) (ci := 10) hB dX10_append_43 6 fl_X10_23 lay_X10 rfl (by decide) rfl 0 rfl rfl ?_
  refine a_aload_n hB dX10_append_46 rfl ?_
  refine a_get (T := TX10) (ci := 10) hB dX10_append_47 5 fl_X10_126 lay_X10 rfl (by decide) rfl 0 rfl rfl ?_
  refine a_iload_n hB dX10_append_50 rfl ?_
  refine a_iastoreN hB dX10_append_51 5 rfl (by omega) (by decide) ?_
  refine a_aload_n hB dX10_append_52 rfl ?_
  refine a_dup hB dX10_append_53 rfl ?_
  refine a_get (T := TX10) (ci := 10) hB dX10_append_54 5 fl_X10_126 lay_X10 rfl (by decide) rfl 0 rfl rfl ?_
  refine a_iconstN (v := 1) hB dX10_append_57 (by decide) ?_
  refine a_iaddN hB dX10_append_58 ?_
  refine a_put (T := TX10) (ci := 10) hB dX10_append_59 5 fl_X10_126 lay_X10 tyX10 tyX10_ok nmX10 rfl (by decide) rfl rfl 0 rfl rfl rfl rfl (Nat.le_of_ble_eq_true rfl) ?_
  refine a_aload_n hB dX10_append_62 rfl ?_
  refine a_get (T := TX10) (ci := 10) hB dX10_append_63 5 fl_X10_126 lay_X10 rfl (by decide) rfl 0 rfl rfl ?_
  exact a_iret hB hE rfl dX10_append_66 (Nat.le_of_ble_eq_true rfl) (Nat.le_of_ble_eq_true rfl) (AKeep.of rfl) ⟨rfl, rfl⟩
set_option maxHeartbeats 4000000 in
set_option maxRecDepth 100000 in
theorem c_X10_append_r {G : GP} {ma z : Nat → Nat} {sf : Nat → UInt64} {st : Nat} {hh : Nat → Nat} {sh : Nat → UInt64} {len : Nat} {tx : Nat → Nat} {th : Nat} {wy mo td : Nat → Nat} {re lo to : Nat} {rw : Nat → Nat} {ha : Int64} {x : Int32} (h : x < nI 33 ∨ nI 126 < x) : AMd G sX10_append [.ref (ma 0), .int x] (wM G ma z sf st hh sh len tx th wy mo td re lo to rw ha) (some (.int (nI 0))) (wM G ma z sf st hh sh len tx 1 wy mo td re lo to rw ha) := by
  refine AM.of (σ := sX10_append) (by decide +kernel) (by decide +kernel) (Nat.le_of_ble_eq_true rfl) (fun B hB hR hE0 hN => ?_)
  have hE := BE.of hE0
  refine a_aload_n hB dX10_append_0 rfl ?_
  refine a_iload_n hB dX10_append_1 rfl ?_
  refine a_bipushN (v := 33) hB dX10_append_2 (by decide) ?_
  refine a_bipushN (v := 126) hB dX10_append_4 (by decide) ?_
  refine a_callSr hB (c_X10_within_n h) mk_X10_within ml_X10_46 dX10_append_6 rfl rfl [] rfl (by decide) (fit_of hR (by decide)) (Nat.le_of_ble_eq_true rfl) ?_
  refine a_if_neN_f (tgt := 16) hB dX10_append_9 (by decide) (by omega) (by omega) ?_
  refine a_iconstN (v := 1) hB dX10_append_12 (by decide) ?_
  refine a_goto (tgt := 30) hB dX10_append_13 (by decide) ?_
  refine a_put (T := TX10) (ci := 10) hB dX10_append_30 7 fl_X10_39 lay_X10 tyX10 tyX10_ok nmX10 rfl (by decide) rfl rfl 0 rfl rfl rfl rfl (Nat.le_of_ble_eq_true rfl) ?_
  refine a_aload_n hB dX10_append_33 rfl ?_
  refine a_get (T := TX10) (ci := 10) hB dX10_append_34 7 fl_X10_39 lay_X10 rfl (by decide) rfl 0 rfl rfl ?_
  refine a_if_leN_f (tgt := 42) hB dX10_append_37 (by decide) (by omega) (by omega) ?_
  refine a_iconstN (v := 0) hB dX10_append_40 (by decide) ?_
  exact a_iret hB hE rfl dX10_append_41 (Nat.le_of_ble_eq_true rfl) (Nat.le_of_ble_eq_true rfl) (AKeep.of rfl) ⟨rfl, rfl⟩
set_option maxHeartbeats 4000000 in
set_option maxRecDepth 100000 in
theorem c_X10_append_s {G : GP} {ma z : Nat → Nat} {sf : Nat → UInt64} {st : Nat} {hh : Nat → Nat} {sh : Nat → UInt64} {len : Nat} {tx : Nat → Nat} {th : Nat} {wy mo td : Nat → Nat} {re lo to : Nat} {rw : Nat → Nat} {ha : Int64} {v : Nat} (h1 : 33 ≤ v) (h2 : v ≤ 126) (hl : len = 60) : AMd G sX10_append [.ref (ma 0), .int (nI v)] (wM G ma z sf st hh sh len tx th wy mo td re lo to rw ha) (some (.int (nI 0))) (wM G ma z sf st hh sh len tx 2 wy mo td re lo to rw ha) := by
  refine AM.of (σ := sX10_append) (by decide +kernel) (by decide +kernel) (Nat.le_of_ble_eq_true rfl) (fun B hB hR hE0 hN => ?_)
  have hE := BE.of hE0
  refine a_aload_n hB dX10_append_0 rfl ?_
  refine a_iload_n hB dX10_append_1 rfl ?_
  refine a_bipushN (v := 33) hB dX10_append_2 (by decide) ?_
  refine a_bipushN (v := 126) hB dX10_append_4 (by decide) ?_
  refine a_callSr hB (c_X10_within_N (by omega) (by omega) (by omega)) mk_X10_within ml_X10_46 dX10_append_6 rfl rfl [] rfl (by decide) (fit_of hR (by decide)) (Nat.le_of_ble_eq_true rfl) ?_
  refine a_if_neN_t (tgt := 16) hB dX10_append_9 (by decide) (by omega) (by omega) ?_
  refine a_aload_n hB dX10_append_16 rfl ?_
  refine a_get (T := TX10) (ci := 10) hB dX10_append_17 5 fl_X10_126 lay_X10 rfl (by decide) rfl 0 rfl rfl ?_
  refine a_bipushN (v := 60) hB dX10_append_20 (by decide) ?_
  refine a_icmp_neN_f (tgt := 29) hB dX10_append_22 (by decide) (by omega) (by omega) (by omega) ?_
  refine a_iconstN (v := 2) hB dX10_append_25 (by decide) ?_
  refine a_goto (tgt := 30) hB dX10_append_26 (by decide) ?_
  refine a_put (T := TX10) (ci := 10) hB dX10_append_30 7 fl_X10_39 lay_X10 tyX10 tyX10_ok nmX10 rfl (by decide) rfl rfl 0 rfl rfl rfl rfl (Nat.le_of_ble_eq_true rfl) ?_
  refine a_aload_n hB dX10_append_33 rfl ?_
  refine a_get (T := TX10) (ci := 10) hB dX10_append_34 7 fl_X10_39 lay_X10 rfl (by decide) rfl 0 rfl rfl ?_
  refine a_if_leN_f (tgt := 42) hB dX10_append_37 (by decide) (by omega) (by omega) ?_
  refine a_iconstN (v := 0) hB dX10_append_40 (by decide) ?_
  exact a_iret hB hE rfl dX10_append_41 (Nat.le_of_ble_eq_true rfl) (Nat.le_of_ble_eq_true rfl) (AKeep.of rfl) ⟨rfl, rfl⟩
set_option maxHeartbeats 4000000 in
set_option maxRecDepth 100000 in
theorem c_X10_clearBuffer {G : GP} {ma z : Nat → Nat} {sf : Nat → UInt64} {st : Nat} {hh : Nat → Nat} {sh : Nat → UInt64} {len : Nat} {tx : Nat → Nat} {th : Nat} {wy mo td : Nat → Nat} {re lo to : Nat} {rw : Nat → Nat} {ha : Int64}  : AMd G sX10_clearBuffer [.ref (ma 0)] (wM G ma z sf st hh sh len tx th wy mo td re lo to rw ha) (some (.int (nI len))) (wM G ma z sf st hh sh 0 tx 0 wy mo td re lo to rw ha) := by
  refine AM.of (σ := sX10_clearBuffer) (by decide +kernel) (by decide +kernel) (Nat.le_of_ble_eq_true rfl) (fun B hB hR hE0 hN => ?_)
  have hE := BE.of hE0
  refine a_aload_n hB dX10_clearBuffer_0 rfl ?_
  refine a_iconstN (v := 0) hB dX10_clearBuffer_1 (by decide) ?_
  refine a_put (T := TX10) (ci := 10) hB dX10_clearBuffer_2 7 fl_X10_39 lay_X10 tyX10 tyX10_ok nmX10 rfl (by decide) rfl rfl 0 rfl rfl rfl rfl (Nat.le_of_ble_eq_true rfl) ?_
  refine a_aload_n hB dX10_clearBuffer_5 rfl ?_
  refine a_get (T := TX10) (ci := 10) hB dX10_clearBuffer_6 5 fl_X10_126 lay_X10 rfl (by decide) rfl 0 rfl rfl ?_
  refine a_istore_n hB dX10_clearBuffer_9 (by decide) ?_
  refine a_aload_n hB dX10_clearBuffer_10 rfl ?_
  refine a_iconstN (v := 0) hB dX10_clearBuffer_11 (by decide) ?_
  refine a_put (T := TX10) (ci := 10) hB dX10_clearBuffer_12 5 fl_X10_126 lay_X10 tyX10 tyX10_ok nmX10 rfl (by decide) rfl rfl 0 rfl rfl rfl rfl (Nat.le_of_ble_eq_true rfl) ?_
  refine a_iload_n hB dX10_clearBuffer_15 rfl ?_
  exact a_iret hB hE rfl dX10_clearBuffer_16 (Nat.le_of_ble_eq_true rfl) (Nat.le_of_ble_eq_true rfl) (AKeep.of rfl) ⟨rfl, rfl⟩
set_option maxHeartbeats 4000000 in
set_option maxRecDepth 100000 in
theorem c_X10_undo_ok {G : GP} {ma z : Nat → Nat} {sf : Nat → UInt64} {st : Nat} {hh : Nat → Nat} {sh : Nat → UInt64} {len : Nat} {tx : Nat → Nat} {th : Nat} {wy mo td : Nat → Nat} {re lo to : Nat} {rw : Nat → Nat} {ha : Int64} (h0 : 0 < st) (hs : st ≤ 6) : AMd G sX10_undo [.ref (ma 0)] (wM G ma z sf st hh sh len tx th wy mo td re lo to rw ha) (some (.int (nI (st - 1)))) (wM G ma (ldC (83 * (st - 1)) z hh 83) (ldC (4 * (st - 1)) sf sh 4) (st - 1) hh sh len tx 0 wy mo td re lo to rw ha) := by
  refine AM.of (σ := sX10_undo) (by decide +kernel) (by decide +kernel) (Nat.le_of_ble_eq_true rfl) (fun B hB hR hE0 hN => ?_)
  have hE := BE.of hE0
  refine a_aload_n hB dX10_undo_0 rfl ?_
  refine a_aload_n hB dX10_undo_1 rfl ?_
  refine a_get (T := TX10) (ci := 10) hB dX10_undo_2 2 fl_X10_43 lay_X10 rfl (by decide) rfl 0 rfl rfl ?_
  refine a_if_leN_f (tgt := 12) hB dX10_undo_5 (by decide) (by omega) (by omega) ?_
  refine a_iconstN (v := 0) hB dX10_undo_8 (by decide) ?_
  refine a_goto (tgt := 13) hB dX10_undo_9 (by decide) ?_
  refine a_put (T := TX10) (ci := 10) hB dX10_undo_13 7 fl_X10_39 lay_X10 tyX10 tyX10_ok nmX10 rfl (by decide) rfl rfl 0 rfl rfl rfl rfl (Nat.le_of_ble_eq_true rfl) ?_
  refine a_aload_n hB dX10_undo_16 rfl ?_
  refine a_get (T := TX10) (ci := 10) hB dX10_undo_17 7 fl_X10_39 lay_X10 rfl (by decide) rfl 0 rfl rfl ?_
  refine a_if_leN_t (tgt := 25) hB dX10_undo_20 (by decide) (by omega) (by omega) ?_
  refine a_aload_n hB dX10_undo_25 rfl ?_
  refine a_dup hB dX10_undo_26 rfl ?_
  refine a_get (T := TX10) (ci := 10) hB dX10_undo_27 2 fl_X10_43 lay_X10 rfl (by decide) rfl 0 rfl rfl ?_
  refine a_iconstN (v := 1) hB dX10_undo_30 (by decide) ?_
  refine a_isubN hB dX10_undo_31 (by omega) ?_
  refine a_put (T := TX10) (ci := 10) hB dX10_undo_32 2 fl_X10_43 lay_X10 tyX10 tyX10_ok nmX10 rfl (by decide) rfl rfl 0 rfl rfl rfl rfl (Nat.le_of_ble_eq_true rfl) ?_
  refine a_iconstN (v := 0) hB dX10_undo_35 (by decide) ?_
  refine a_istore_n hB dX10_undo_36 (by decide) ?_
  have lp37 : ∀ (j37 i : Nat), i + j37 = 83 → aW G sX10_undo B 37 [(0, .ref (ma 0)), (1, .int (nI i))] [] (wM G ma (ldC (83 * (st - 1)) z hh i) sf (st - 1) hh sh len tx 0 wy mo td re lo to rw ha) 0 0 := by
    intro j37
    induction j37 with
    | zero =>
      intro i hi
      refine a_iload_n hB dX10_undo_37 rfl ?_
      refine a_bipushN (v := 83) hB dX10_undo_38 (by decide) ?_
      refine a_icmp_geN_t (tgt := 69) hB dX10_undo_40 (by decide) (by omega) (by omega) (by omega) ?_
      refine a_iconstN (v := 0) hB dX10_undo_69 (by decide) ?_
      refine a_istore_n hB dX10_undo_70 (by decide) ?_
      have lp71 : ∀ (j71 i : Nat), i + j71 = 4 → aW G sX10_undo B 71 [(0, .ref (ma 0)), (1, .int (nI i))] [] (wM G ma (ldC (83 * (st - 1)) z hh 83) (ldC (4 * (st - 1)) sf sh i) (st - 1) hh sh len tx 0 wy mo td re lo to rw ha) 0 0 := by
        intro j71
        induction j71 with
        | zero =>
          intro i hi
          refine a_iload_n hB dX10_undo_71 rfl ?_
          refine a_iconstN (v := 4) hB dX10_undo_72 (by decide) ?_
          refine a_icmp_geN_t (tgt := 101) hB dX10_undo_73 (by decide) (by omega) (by omega) (by omega) ?_
          refine a_aload_n hB dX10_undo_101 rfl ?_
          refine a_get (T := TX10) (ci := 10) hB dX10_undo_102 2 fl_X10_43 lay_X10 rfl (by decide) rfl 0 rfl rfl ?_
          exact a_iret hB hE rfl dX10_undo_105 (Nat.le_of_ble_eq_true rfl) (Nat.le_of_ble_eq_true rfl) (AKeep.of rfl) ⟨rfl, by rw [show i = 4 by omega]⟩
        | succ j71 ih71 =>
          intro i hi
          refine a_iload_n hB dX10_undo_71 rfl ?_
          refine a_iconstN (v := 4) hB dX10_undo_72 (by decide) ?_
          refine a_icmp_geN_f (tgt := 101) hB dX10_undo_73 (by decide) (by omega) (by omega) (by omega) ?_
          refine a_aload_n hB dX10_undo_76 rfl ?_
          refine a_get (T := TX10) (ci := 10) hB dX10_undo_77 1 fl_X10_13 lay_X10 rfl (by decide) rfl 0 rfl rfl ?_
          refine a_iload_n hB dX10_undo_80 rfl ?_
          refine a_aload_n hB dX10_undo_81 rfl ?_
          refine a_get (T := TX10) (ci := 10) hB dX10_undo_82 4 fl_X10_20 lay_X10 rfl (by decide) rfl 0 rfl rfl ?_
          refine a_iconstN (v := 4) hB dX10_undo_85 (by decide) ?_
          refine a_aload_n hB dX10_undo_86 rfl ?_
          refine a_get (T := TX10) (ci := 10) hB dX10_undo_87 2 fl_X10_43 lay_X10 rfl (by decide) rfl 0 rfl rfl ?_
          refine a_imulN hB dX10_undo_90 ?_
          refine a_iload_n hB dX10_undo_91 rfl ?_
          refine a_iaddN hB dX10_undo_92 ?_
          refine a_daloadN hB dX10_undo_93 4 rfl (by omega) (by decide) ?_
          refine a_dastoreN hB dX10_undo_94 2 rfl (by omega) (by decide) ?_
          refine a_iincN (b := 1) hB dX10_undo_95 rfl (by decide) (by decide) ?_
          refine a_goto (tgt := 71) hB dX10_undo_98 (by decide) ?_
          exact aW_at [0, 1] rfl rfl rfl (ih71 (i + 1) (by omega))
      exact aW_at [0, 1] rfl rfl (by rw [show i = 83 by omega]; rfl) (lp71 (4) 0 (by omega))
    | succ j37 ih37 =>
      intro i hi
      refine a_iload_n hB dX10_undo_37 rfl ?_
      refine a_bipushN (v := 83) hB dX10_undo_38 (by decide) ?_
      refine a_icmp_geN_f (tgt := 69) hB dX10_undo_40 (by decide) (by omega) (by omega) (by omega) ?_
      refine a_aload_n hB dX10_undo_43 rfl ?_
      refine a_get (T := TX10) (ci := 10) hB dX10_undo_44 0 fl_X10_7 lay_X10 rfl (by decide) rfl 0 rfl rfl ?_
      refine a_iload_n hB dX10_undo_47 rfl ?_
      refine a_aload_n hB dX10_undo_48 rfl ?_
      refine a_get (T := TX10) (ci := 10) hB dX10_undo_49 3 fl_X10_17 lay_X10 rfl (by decide) rfl 0 rfl rfl ?_
      refine a_bipushN (v := 83) hB dX10_undo_52 (by decide) ?_
      refine a_aload_n hB dX10_undo_54 rfl ?_
      refine a_get (T := TX10) (ci := 10) hB dX10_undo_55 2 fl_X10_43 lay_X10 rfl (by decide) rfl 0 rfl rfl ?_
      refine a_imulN hB dX10_undo_58 ?_
      refine a_iload_n hB dX10_undo_59 rfl ?_
      refine a_iaddN hB dX10_undo_60 ?_
      refine a_ialoadN hB dX10_undo_61 3 rfl (by omega) (by decide) ?_
      refine a_iastoreN hB dX10_undo_62 1 rfl (by omega) (by decide) ?_
      refine a_iincN (b := 1) hB dX10_undo_63 rfl (by decide) (by decide) ?_
      refine a_goto (tgt := 37) hB dX10_undo_66 (by decide) ?_
      exact aW_at [0, 1] rfl rfl rfl (ih37 (i + 1) (by omega))
  exact aW_at [0, 1] rfl rfl rfl (lp37 (83) 0 (by omega))
set_option maxHeartbeats 4000000 in
set_option maxRecDepth 100000 in
theorem c_X10_undo_s {G : GP} {ma z : Nat → Nat} {sf : Nat → UInt64} {st : Nat} {hh : Nat → Nat} {sh : Nat → UInt64} {len : Nat} {tx : Nat → Nat} {th : Nat} {wy mo td : Nat → Nat} {re lo to : Nat} {rw : Nat → Nat} {ha : Int64} (h0 : st = 0) : AMd G sX10_undo [.ref (ma 0)] (wM G ma z sf st hh sh len tx th wy mo td re lo to rw ha) (some (.int (nI 0))) (wM G ma z sf st hh sh len tx 1 wy mo td re lo to rw ha) := by
  refine AM.of (σ := sX10_undo) (by decide +kernel) (by decide +kernel) (Nat.le_of_ble_eq_true rfl) (fun B hB hR hE0 hN => ?_)
  have hE := BE.of hE0
  refine a_aload_n hB dX10_undo_0 rfl ?_
  refine a_aload_n hB dX10_undo_1 rfl ?_
  refine a_get (T := TX10) (ci := 10) hB dX10_undo_2 2 fl_X10_43 lay_X10 rfl (by decide) rfl 0 rfl rfl ?_
  refine a_if_leN_t (tgt := 12) hB dX10_undo_5 (by decide) (by omega) (by omega) ?_
  refine a_iconstN (v := 1) hB dX10_undo_12 (by decide) ?_
  refine a_put (T := TX10) (ci := 10) hB dX10_undo_13 7 fl_X10_39 lay_X10 tyX10 tyX10_ok nmX10 rfl (by decide) rfl rfl 0 rfl rfl rfl rfl (Nat.le_of_ble_eq_true rfl) ?_
  refine a_aload_n hB dX10_undo_16 rfl ?_
  refine a_get (T := TX10) (ci := 10) hB dX10_undo_17 7 fl_X10_39 lay_X10 rfl (by decide) rfl 0 rfl rfl ?_
  refine a_if_leN_f (tgt := 25) hB dX10_undo_20 (by decide) (by omega) (by omega) ?_
  refine a_iconstN (v := 0) hB dX10_undo_23 (by decide) ?_
  exact a_iret hB hE rfl dX10_undo_24 (Nat.le_of_ble_eq_true rfl) (Nat.le_of_ble_eq_true rfl) (AKeep.of rfl) ⟨rfl, rfl⟩
set_option maxHeartbeats 4000000 in
set_option maxRecDepth 100000 in
theorem c_X10_removePart_r {G : GP} {ma z : Nat → Nat} {sf : Nat → UInt64} {st : Nat} {hh : Nat → Nat} {sh : Nat → UInt64} {len : Nat} {tx : Nat → Nat} {th : Nat} {wy mo td : Nat → Nat} {re lo to : Nat} {rw : Nat → Nat} {ha : Int64} {x : Int32} (hz : 1 ≤ z 0) (h : x < nI 0 ∨ nI (z 0 - 1) < x) : AMd G sX10_removePart [.ref (ma 0), .int x] (wM G ma z sf st hh sh len tx th wy mo td re lo to rw ha) (some (.int (nI 0))) (wM G ma z sf st hh sh len tx 1 wy mo td re lo to rw ha) := by
  refine AM.of (σ := sX10_removePart) (by decide +kernel) (by decide +kernel) (Nat.le_of_ble_eq_true rfl) (fun B hB hR hE0 hN => ?_)
  have hE := BE.of hE0
  refine a_aload_n hB dX10_removePart_0 rfl ?_
  refine a_aload_n hB dX10_removePart_1 rfl ?_
  refine a_iload_n hB dX10_removePart_2 rfl ?_
  refine a_callVr (q0 := 0) hB (c_X10_isPart_n hz h) mk_X10_isPart ml_X10_113 dX10_removePart_3 rfl rfl [0, 1, 2, 3, 4, 5, 6, 7, 8, 9] rfl (by decide) rfl rfl (fit_of hR (by decide)) (Nat.le_of_ble_eq_true rfl) ?_
  refine a_if_eqN_t (tgt := 13) hB dX10_removePart_6 (by decide) (by omega) (by omega) ?_
  refine a_iconstN (v := 1) hB dX10_removePart_13 (by decide) ?_
  refine a_put (T := TX10) (ci := 10) hB dX10_removePart_14 7 fl_X10_39 lay_X10 tyX10 tyX10_ok nmX10 rfl (by decide) rfl rfl 0 rfl rfl rfl rfl (Nat.le_of_ble_eq_true rfl) ?_
  refine a_aload_n hB dX10_removePart_17 rfl ?_
  refine a_get (T := TX10) (ci := 10) hB dX10_removePart_18 7 fl_X10_39 lay_X10 rfl (by decide) rfl 0 rfl rfl ?_
  refine a_if_leN_f (tgt := 26) hB dX10_removePart_21 (by decide) (by omega) (by omega) ?_
  refine a_iconstN (v := 0) hB dX10_removePart_24 (by decide) ?_
  exact a_iret hB hE rfl dX10_removePart_25 (Nat.le_of_ble_eq_true rfl) (Nat.le_of_ble_eq_true rfl) (AKeep.of rfl) ⟨rfl, rfl⟩
set_option maxHeartbeats 4000000 in
set_option maxRecDepth 100000 in
theorem c_X10_removePart_0 {G : GP} {ma z : Nat → Nat} {sf : Nat → UInt64} {st : Nat} {hh : Nat → Nat} {sh : Nat → UInt64} {len : Nat} {tx : Nat → Nat} {th : Nat} {wy mo td : Nat → Nat} {re lo to : Nat} {rw : Nat → Nat} {ha : Int64} {x : Int32} (hz : z 0 = 0) : AMd G sX10_removePart [.ref (ma 0), .int x] (wM G ma z sf st hh sh len tx th wy mo td re lo to rw ha) (some (.int (nI 0))) (wM G ma z sf st hh sh len tx 1 wy mo td re lo to rw ha) := by
  refine AM.of (σ := sX10_removePart) (by decide +kernel) (by decide +kernel) (Nat.le_of_ble_eq_true rfl) (fun B hB hR hE0 hN => ?_)
  have hE := BE.of hE0
  refine a_aload_n hB dX10_removePart_0 rfl ?_
  refine a_aload_n hB dX10_removePart_1 rfl ?_
  refine a_iload_n hB dX10_removePart_2 rfl ?_
  refine a_callVr (q0 := 0) hB (c_X10_isPart_0 hz) mk_X10_isPart ml_X10_113 dX10_removePart_3 rfl rfl [0, 1, 2, 3, 4, 5, 6, 7, 8, 9] rfl (by decide) rfl rfl (fit_of hR (by decide)) (Nat.le_of_ble_eq_true rfl) ?_
  refine a_if_eqN_t (tgt := 13) hB dX10_removePart_6 (by decide) (by omega) (by omega) ?_
  refine a_iconstN (v := 1) hB dX10_removePart_13 (by decide) ?_
  refine a_put (T := TX10) (ci := 10) hB dX10_removePart_14 7 fl_X10_39 lay_X10 tyX10 tyX10_ok nmX10 rfl (by decide) rfl rfl 0 rfl rfl rfl rfl (Nat.le_of_ble_eq_true rfl) ?_
  refine a_aload_n hB dX10_removePart_17 rfl ?_
  refine a_get (T := TX10) (ci := 10) hB dX10_removePart_18 7 fl_X10_39 lay_X10 rfl (by decide) rfl 0 rfl rfl ?_
  refine a_if_leN_f (tgt := 26) hB dX10_removePart_21 (by decide) (by omega) (by omega) ?_
  refine a_iconstN (v := 0) hB dX10_removePart_24 (by decide) ?_
  exact a_iret hB hE rfl dX10_removePart_25 (Nat.le_of_ble_eq_true rfl) (Nat.le_of_ble_eq_true rfl) (AKeep.of rfl) ⟨rfl, rfl⟩
