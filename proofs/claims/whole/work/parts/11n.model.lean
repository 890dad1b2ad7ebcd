set_option maxHeartbeats 4000000 in
set_option maxRecDepth 100000 in
theorem c_X10_limitNow {G : GP} {ma z : Nat → Nat} {sf : Nat → UInt64} {st : Nat} {hh : Nat → Nat} {sh : Nat → UInt64} {len : Nat} {tx : Nat → Nat} {th : Nat} {wy mo td : Nat → Nat} {re lo to : Nat} {rw : Nat → Nat} {ha : Int64} {th9 r : Nat} (h6 : z 0 ≤ 6) (hw : ∀ p, p < z 0 → ∀ l, l < 6 → gt (wq z) p l < 2 ^ 31) (ht : th9 ≤ 1000) (hr : r ≤ 99) (hb : ∀ s, wfrom (cnF (wq z) (-1) wy (z 0)) s ≤ 24794911296) (h1 : wfrom (cnF (wq z) (-1) wy (z 0)) r * 1000 ≤ wfrom (cnF (wq z) (-1) wy (z 0)) 0 * th9) (h0 : ∀ l, l < r → ¬ wfrom (cnF (wq z) (-1) wy (z 0)) l * 1000 ≤ wfrom (cnF (wq z) (-1) wy (z 0)) 0 * th9) : AMd G sX10_limitNow [.ref (ma 0), .int (nI th9)] (wM G ma z sf st hh sh len tx th wy mo td re lo to rw ha) (some (.int (nI r))) (wM G ma z sf st hh sh len tx th (cnF (wq z) (-1) wy (z 0)) mo td re lo to rw ha) := by
  refine AM.of (σ := sX10_limitNow) (by decide +kernel) (by decide +kernel) (Nat.le_of_ble_eq_true rfl) (fun B hB hR hE0 hN => ?_)
  have hE := BE.of hE0
  refine a_aload_n hB dX10_limitNow_0 rfl ?_
  refine a_iconst (v := -1) hB dX10_limitNow_1 (by decide) ?_
  refine a_callVd (w2 := wM G ma z sf st hh sh len tx th (cnF (wq z) (-1) wy (z 0)) mo td re lo to rw ha) (q0 := 0) hB (c_X10_layWays (wo := -1) h6 hw) mk_X10_layWays ml_X10_82 dX10_limitNow_2 rfl rfl [0, 1, 2, 3, 4, 5, 6, 7, 8, 9] rfl (by decide) rfl rfl (fit_of hR (by decide)) (Nat.le_of_ble_eq_true rfl) (wput_all rfl rfl) ?_
  refine a_iconstN (v := 0) hB dX10_limitNow_5 (by decide) ?_
  refine a_istore_n hB dX10_limitNow_6 (by decide) ?_
  have lp7 : ∀ (j7 i : Nat), i + j7 = r → aW G sX10_limitNow B 7 [(0, .ref (ma 0)), (1, .int (nI th9)), (2, .int (nI i))] [] (wM G ma z sf st hh sh len tx th (cnF (wq z) (-1) wy (z 0)) mo td re lo to rw ha) 0 0 := by
    intro j7
    induction j7 with
    | zero =>
      intro i hi
      have b1 : wfrom (cnF (wq z) (-1) wy (z 0)) i * 1000 < 2 ^ 63 := by have := hb i; omega
      have b2 : wfrom (cnF (wq z) (-1) wy (z 0)) 0 * th9 < 2 ^ 63 := Nat.lt_of_le_of_lt (Nat.mul_le_mul (hb 0) ht) (by decide)
      refine a_aload_n hB dX10_limitNow_7 rfl ?_
      refine a_iload_n hB dX10_limitNow_8 rfl ?_
      refine a_callVr (q0 := 0) hB (c_X10_waysFrom (wy := (cnF (wq z) (-1) wy (z 0))) (by omega)) mk_X10_waysFrom ml_X10_85 dX10_limitNow_9 rfl rfl [0, 1, 2, 3, 4, 5, 6, 7, 8, 9] rfl (by decide) rfl rfl (fit_of hR (by decide)) (Nat.le_of_ble_eq_true rfl) ?_
      refine a_ldc2N (v := 1000) hB dX10_limitNow_12 kk_X10_190 (by decide) ?_
      refine a_lmulN hB dX10_limitNow_15 ?_
      refine a_aload_n hB dX10_limitNow_16 rfl ?_
      refine a_iconstN (v := 0) hB dX10_limitNow_17 (by decide) ?_
      refine a_callVr (q0 := 0) hB (c_X10_waysFrom (wy := (cnF (wq z) (-1) wy (z 0))) (by omega)) mk_X10_waysFrom ml_X10_85 dX10_limitNow_18 rfl rfl [0, 1, 2, 3, 4, 5, 6, 7, 8, 9] rfl (by decide) rfl rfl (fit_of hR (by decide)) (Nat.le_of_ble_eq_true rfl) ?_
      refine a_iload_n hB dX10_limitNow_21 rfl ?_
      refine a_i2lN hB dX10_limitNow_22 (by omega) ?_
      refine a_lmulN hB dX10_limitNow_23 ?_
      refine a_lcmp hB dX10_limitNow_24 ?_
      refine a_if_leL_t (tgt := 34) hB dX10_limitNow_25 (by decide) b1 b2 (by rw [show i = r by omega]; exact h1) ?_
      refine a_iload_n hB dX10_limitNow_34 rfl ?_
      exact a_iret hB hE rfl dX10_limitNow_35 (Nat.le_of_ble_eq_true rfl) (Nat.le_of_ble_eq_true rfl) (AKeep.of rfl) ⟨by rw [show i = r by omega], rfl⟩
    | succ j7 ih7 =>
      intro i hi
      have b1 : wfrom (cnF (wq z) (-1) wy (z 0)) i * 1000 < 2 ^ 63 := by have := hb i; omega
      have b2 : wfrom (cnF (wq z) (-1) wy (z 0)) 0 * th9 < 2 ^ 63 := Nat.lt_of_le_of_lt (Nat.mul_le_mul (hb 0) ht) (by decide)
      refine a_aload_n hB dX10_limitNow_7 rfl ?_
      refine a_iload_n hB dX10_limitNow_8 rfl ?_
      refine a_callVr (q0 := 0) hB (c_X10_waysFrom (wy := (cnF (wq z) (-1) wy (z 0))) (by omega)) mk_X10_waysFrom ml_X10_85 dX10_limitNow_9 rfl rfl [0, 1, 2, 3, 4, 5, 6, 7, 8, 9] rfl (by decide) rfl rfl (fit_of hR (by decide)) (Nat.le_of_ble_eq_true rfl) ?_
      refine a_ldc2N (v := 1000) hB dX10_limitNow_12 kk_X10_190 (by decide) ?_
      refine a_lmulN hB dX10_limitNow_15 ?_
      refine a_aload_n hB dX10_limitNow_16 rfl ?_
      refine a_iconstN (v := 0) hB dX10_limitNow_17 (by decide) ?_
      refine a_callVr (q0 := 0) hB (c_X10_waysFrom (wy := (cnF (wq z) (-1) wy (z 0))) (by omega)) mk_X10_waysFrom ml_X10_85 dX10_limitNow_18 rfl rfl [0, 1, 2, 3, 4, 5, 6, 7, 8, 9] rfl (by decide) rfl rfl (fit_of hR (by decide)) (Nat.le_of_ble_eq_true rfl) ?_
      refine a_iload_n hB dX10_limitNow_21 rfl ?_
      refine a_i2lN hB dX10_limitNow_22 (by omega) ?_
      refine a_lmulN hB dX10_limitNow_23 ?_
      refine a_lcmp hB dX10_limitNow_24 ?_
      refine a_if_leL_f (tgt := 34) hB dX10_limitNow_25 (by decide) b1 b2 (h0 i (by omega)) ?_
      refine a_iincN (b := 1) hB dX10_limitNow_28 rfl (by decide) (by decide) ?_
      refine a_goto (tgt := 7) hB dX10_limitNow_31 (by decide) ?_
      exact aW_at [0, 1, 2] rfl rfl rfl (ih7 (i + 1) (by omega))
  exact aW_at [0, 1, 2] rfl rfl rfl (lp7 (r) 0 (by omega))
