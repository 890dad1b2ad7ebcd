set_option maxHeartbeats 4000000 in
set_option maxRecDepth 100000 in
theorem c_X10_mix {G : GP} {ma z : Nat → Nat} {sf : Nat → UInt64} {st : Nat} {hh : Nat → Nat} {sh : Nat → UInt64} {len : Nat} {tx : Nat → Nat} {th : Nat} {wy mo td : Nat → Nat} {re lo to : Nat} {rw : Nat → Nat} {ha : Int64} {v : Int64} : AMd G sX10_mix [.ref (ma 0), .long v] (wM G ma z sf st hh sh len tx th wy mo td re lo to rw ha) none (wM G ma z sf st hh sh len tx th wy mo td re lo to rw (hsh ha v)) := by
  refine AM.of (σ := sX10_mix) (by decide +kernel) (by decide +kernel) (Nat.le_of_ble_eq_true rfl) (fun B hB hR hE0 hN => ?_)
  have hE := BE.of hE0
  refine a_aload_n hB dX10_mix_0 rfl ?_
  refine a_ldc2N (v := 31) hB dX10_mix_1 kk_X10_209 (by decide) ?_
  refine a_aload_n hB dX10_mix_4 rfl ?_
  refine a_get (T := TX10) (ci := 10) hB dX10_mix_5 15 fl_X10_211 lay_X10 rfl (by decide) rfl 0 rfl rfl ?_
  refine a_lmul hB dX10_mix_8 ?_
  refine a_lload_n hB dX10_mix_9 rfl ?_
  refine a_ladd hB dX10_mix_10 ?_
  refine a_put (T := TX10) (ci := 10) hB dX10_mix_11 15 fl_X10_211 lay_X10 tyX10 tyX10_ok nmX10 rfl (by decide) rfl rfl 0 rfl rfl rfl rfl (Nat.le_of_ble_eq_true rfl) ?_
  exact a_vret hB hE rfl dX10_mix_14 (Nat.le_of_ble_eq_true rfl) (Nat.le_of_ble_eq_true rfl) (AKeep.of rfl) ⟨rfl, rfl⟩
set_option maxHeartbeats 4000000 in
set_option maxRecDepth 100000 in
theorem c_X10_endSum_1 {G : GP} {ma z : Nat → Nat} {sf : Nat → UInt64} {st : Nat} {hh : Nat → Nat} {sh : Nat → UInt64} {len : Nat} {tx : Nat → Nat} {th : Nat} {wy mo td : Nat → Nat} {re lo to : Nat} {rw : Nat → Nat} {ha : Int64} (h6 : z 0 ≤ 6) (hw : ∀ p l, p < 6 → l < 6 → gt (wq z) p l ≤ 9) (hpos : ∀ p, p < z 0 → ∃ l, l < 6 ∧ 0 < gt (wq z) p l) : AMd G sX10_endSum [.ref (ma 0), .int (nI 1)] (wM G ma z sf st hh sh len tx th wy mo td re lo to rw ha) (some (.int (nI (sumN (fun p => lo6 (gt (wq z) p)) (z 0))))) (wM G ma z sf st hh sh len tx th wy mo td re lo to rw ha) := by
  refine AM.of (σ := sX10_endSum) (by decide +kernel) (by decide +kernel) (Nat.le_of_ble_eq_true rfl) (fun B hB hR hE0 hN => ?_)
  have hE := BE.of hE0
  refine a_iconstN (v := 0) hB dX10_endSum_0 (by decide) ?_
  refine a_istore_n hB dX10_endSum_1 (by decide) ?_
  refine a_iconstN (v := 0) hB dX10_endSum_2 (by decide) ?_
  refine a_istore_n hB dX10_endSum_3 (by decide) ?_
  have lp4 : ∀ (j4 i : Nat), i + j4 = z 0 → aW G sX10_endSum B 4 [(0, .ref (ma 0)), (1, .int (nI 1)), (2, .int (nI (sumN (fun p => lo6 (gt (wq z) p)) i))), (3, .int (nI i))] [] (wM G ma z sf st hh sh len tx th wy mo td re lo to rw ha) 0 0 := by
    intro j4
    induction j4 with
    | zero =>
      intro i hi
      refine a_iload_n hB dX10_endSum_4 rfl ?_
      refine a_aload_n hB dX10_endSum_5 rfl ?_
      refine a_get (T := TX10) (ci := 10) hB dX10_endSum_6 0 fl_X10_7 lay_X10 rfl (by decide) rfl 0 rfl rfl ?_
      refine a_iconstN (v := 0) hB dX10_endSum_9 (by decide) ?_
      refine a_ialoadN hB dX10_endSum_10 1 rfl (by omega) (by decide) ?_
      refine a_icmp_geN_t (tgt := 44) hB dX10_endSum_11 (by decide) (by omega) (by omega) (by omega) ?_
      refine a_iload_n hB dX10_endSum_44 rfl ?_
      exact a_iret hB hE rfl dX10_endSum_45 (Nat.le_of_ble_eq_true rfl) (Nat.le_of_ble_eq_true rfl) (AKeep.of rfl) ⟨by rw [show i = z 0 by omega], rfl⟩
    | succ j4 ih4 =>
      intro i hi
      have g3 := lo6_spec (hpos i (by omega))
      refine a_iload_n hB dX10_endSum_4 rfl ?_
      refine a_aload_n hB dX10_endSum_5 rfl ?_
      refine a_get (T := TX10) (ci := 10) hB dX10_endSum_6 0 fl_X10_7 lay_X10 rfl (by decide) rfl 0 rfl rfl ?_
      refine a_iconstN (v := 0) hB dX10_endSum_9 (by decide) ?_
      refine a_ialoadN hB dX10_endSum_10 1 rfl (by omega) (by decide) ?_
      refine a_icmp_geN_f (tgt := 44) hB dX10_endSum_11 (by decide) (by omega) (by omega) (by omega) ?_
      refine a_iload_n hB dX10_endSum_14 rfl ?_
      refine a_if_eqN_f (tgt := 26) hB dX10_endSum_15 (by decide) (by omega) (by omega) ?_
      refine a_aload_n hB dX10_endSum_18 rfl ?_
      refine a_iload_n hB dX10_endSum_19 rfl ?_
      refine a_callVr (q0 := 0) hB (c_X10_leastLoad (p := i) (r := lo6 (gt (wq z) i)) (by omega) g3.1 g3.2.1 g3.2.2 (Nat.lt_of_le_of_lt (hw _ _ (by omega) g3.1) (by decide))) mk_X10_leastLoad ml_X10_147 dX10_endSum_20 rfl rfl [0, 1, 2, 3, 4, 5, 6, 7, 8, 9] rfl (by decide) rfl rfl (fit_of hR (by decide)) (Nat.le_of_ble_eq_true rfl) ?_
      refine a_goto (tgt := 31) hB dX10_endSum_23 (by decide) ?_
      refine a_istore hB dX10_endSum_31 (by decide) ?_
      refine a_iload_n hB dX10_endSum_33 rfl ?_
      refine a_iload hB dX10_endSum_34 rfl ?_
      refine a_iaddN hB dX10_endSum_36 ?_
      refine a_istore_n hB dX10_endSum_37 (by decide) ?_
      refine a_iincN (b := 1) hB dX10_endSum_38 rfl (by decide) (by decide) ?_
      refine a_goto (tgt := 4) hB dX10_endSum_41 (by decide) ?_
      exact aW_at [0, 1, 2, 3] rfl rfl rfl (ih4 (i + 1) (by omega))
  exact aW_at [0, 1, 2, 3] rfl rfl rfl (lp4 (z 0) 0 (by omega))
set_option maxHeartbeats 4000000 in
set_option maxRecDepth 100000 in
theorem c_X10_endSum_0 {G : GP} {ma z : Nat → Nat} {sf : Nat → UInt64} {st : Nat} {hh : Nat → Nat} {sh : Nat → UInt64} {len : Nat} {tx : Nat → Nat} {th : Nat} {wy mo td : Nat → Nat} {re lo to : Nat} {rw : Nat → Nat} {ha : Int64} (h6 : z 0 ≤ 6) (hw : ∀ p l, p < 6 → l < 6 → gt (wq z) p l ≤ 9) (hpos : ∀ p, p < z 0 → ∃ l, l < 6 ∧ 0 < gt (wq z) p l) : AMd G sX10_endSum [.ref (ma 0), .int (nI 0)] (wM G ma z sf st hh sh len tx th wy mo td re lo to rw ha) (some (.int (nI (sumN (fun p => hi6 (gt (wq z) p)) (z 0))))) (wM G ma z sf st hh sh len tx th wy mo td re lo to rw ha) := by
  refine AM.of (σ := sX10_endSum) (by decide +kernel) (by decide +kernel) (Nat.le_of_ble_eq_true rfl) (fun B hB hR hE0 hN => ?_)
  have hE := BE.of hE0
  refine a_iconstN (v := 0) hB dX10_endSum_0 (by decide) ?_
  refine a_istore_n hB dX10_endSum_1 (by decide) ?_
  refine a_iconstN (v := 0) hB dX10_endSum_2 (by decide) ?_
  refine a_istore_n hB dX10_endSum_3 (by decide) ?_
  have lp4 : ∀ (j4 i : Nat), i + j4 = z 0 → aW G sX10_endSum B 4 [(0, .ref (ma 0)), (1, .int (nI 0)), (2, .int (nI (sumN (fun p => hi6 (gt (wq z) p)) i))), (3, .int (nI i))] [] (wM G ma z sf st hh sh len tx th wy mo td re lo to rw ha) 0 0 := by
    intro j4
    induction j4 with
    | zero =>
      intro i hi
      refine a_iload_n hB dX10_endSum_4 rfl ?_
      refine a_aload_n hB dX10_endSum_5 rfl ?_
      refine a_get (T := TX10) (ci := 10) hB dX10_endSum_6 0 fl_X10_7 lay_X10 rfl (by decide) rfl 0 rfl rfl ?_
      refine a_iconstN (v := 0) hB dX10_endSum_9 (by decide) ?_
      refine a_ialoadN hB dX10_endSum_10 1 rfl (by omega) (by decide) ?_
      refine a_icmp_geN_t (tgt := 44) hB dX10_endSum_11 (by decide) (by omega) (by omega) (by omega) ?_
      refine a_iload_n hB dX10_endSum_44 rfl ?_
      exact a_iret hB hE rfl dX10_endSum_45 (Nat.le_of_ble_eq_true rfl) (Nat.le_of_ble_eq_true rfl) (AKeep.of rfl) ⟨by rw [show i = z 0 by omega], rfl⟩
    | succ j4 ih4 =>
      intro i hi
      have g3 := hi6_spec (hpos i (by omega))
      refine a_iload_n hB dX10_endSum_4 rfl ?_
      refine a_aload_n hB dX10_endSum_5 rfl ?_
      refine a_get (T := TX10) (ci := 10) hB dX10_endSum_6 0 fl_X10_7 lay_X10 rfl (by decide) rfl 0 rfl rfl ?_
      refine a_iconstN (v := 0) hB dX10_endSum_9 (by decide) ?_
      refine a_ialoadN hB dX10_endSum_10 1 rfl (by omega) (by decide) ?_
      refine a_icmp_geN_f (tgt := 44) hB dX10_endSum_11 (by decide) (by omega) (by omega) (by omega) ?_
      refine a_iload_n hB dX10_endSum_14 rfl ?_
      refine a_if_eqN_t (tgt := 26) hB dX10_endSum_15 (by decide) (by omega) (by omega) ?_
      refine a_aload_n hB dX10_endSum_26 rfl ?_
      refine a_iload_n hB dX10_endSum_27 rfl ?_
      refine a_callVr (q0 := 0) hB (c_X10_greatestLoad (p := i) (r := hi6 (gt (wq z) i)) (by omega) g3.1 g3.2.1 g3.2.2 (Nat.lt_of_le_of_lt (hw _ _ (by omega) g3.1) (by decide))) mk_X10_greatestLoad ml_X10_150 dX10_endSum_28 rfl rfl [0, 1, 2, 3, 4, 5, 6, 7, 8, 9] rfl (by decide) rfl rfl (fit_of hR (by decide)) (Nat.le_of_ble_eq_true rfl) ?_
      refine a_istore hB dX10_endSum_31 (by decide) ?_
      refine a_iload_n hB dX10_endSum_33 rfl ?_
      refine a_iload hB dX10_endSum_34 rfl ?_
      refine a_iaddN hB dX10_endSum_36 ?_
      refine a_istore_n hB dX10_endSum_37 (by decide) ?_
      refine a_iincN (b := 1) hB dX10_endSum_38 rfl (by decide) (by decide) ?_
      refine a_goto (tgt := 4) hB dX10_endSum_41 (by decide) ?_
      exact aW_at [0, 1, 2, 3] rfl rfl rfl (ih4 (i + 1) (by omega))
  exact aW_at [0, 1, 2, 3] rfl rfl rfl (lp4 (z 0) 0 (by omega))
