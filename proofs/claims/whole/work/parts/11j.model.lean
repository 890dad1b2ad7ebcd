set_option maxHeartbeats 4000000 in
set_option maxRecDepth 100000 in
theorem c_X10_likeliestWays {G : GP} {ma z : Nat → Nat} {sf : Nat → UInt64} {st : Nat} {hh : Nat → Nat} {sh : Nat → UInt64} {len : Nat} {tx : Nat → Nat} {th : Nat} {wy mo td : Nat → Nat} {re lo to : Nat} {rw : Nat → Nat} {ha : Int64} (h6 : z 0 ≤ 6) (hw : ∀ p l, p < 6 → l < 6 → gt (wq z) p l ≤ 9) (hl : z 1 ≤ 99) : AMd G sX10_likeliestWays [.ref (ma 0)] (wM G ma z sf st hh sh len tx th wy mo td re lo to rw ha) (some (.int (nI (bm (wq z) (z 0) (z 0) (z 1))))) (wM G ma z sf st hh sh len tx th wy (lkm (wq z) mo (z 0) 0 0) td re lo to rw ha) := by
  refine AM.of (σ := sX10_likeliestWays) (by decide +kernel) (by decide +kernel) (Nat.le_of_ble_eq_true rfl) (fun B hB hR hE0 hN => ?_)
  have hE := BE.of hE0
  refine a_aload_n hB dX10_likeliestWays_0 rfl ?_
  refine a_callVd (w2 := wM G ma z sf st hh sh len tx th wy (lkm (wq z) mo (z 0) 0 0) td re lo to rw ha) (q0 := 0) hB (c_X10_layMost h6 hw) mk_X10_layMost ml_X10_93 dX10_likeliestWays_1 rfl rfl [0, 1, 2, 3, 4, 5, 6, 7, 8, 9] rfl (by decide) rfl rfl (fit_of hR (by decide)) (Nat.le_of_ble_eq_true rfl) (wput_all rfl rfl) ?_
  refine a_aload_n hB dX10_likeliestWays_4 rfl ?_
  refine a_get (T := TX10) (ci := 10) hB dX10_likeliestWays_5 9 fl_X10_30 lay_X10 rfl (by decide) rfl 0 rfl rfl ?_
  refine a_aload_n hB dX10_likeliestWays_8 rfl ?_
  refine a_get (T := TX10) (ci := 10) hB dX10_likeliestWays_9 0 fl_X10_7 lay_X10 rfl (by decide) rfl 0 rfl rfl ?_
  refine a_iconstN (v := 1) hB dX10_likeliestWays_12 (by decide) ?_
  refine a_ialoadN hB dX10_likeliestWays_13 1 rfl (by omega) (by decide) ?_
  refine a_ialoadN hB dX10_likeliestWays_14 7 rfl (by omega) (by decide) ?_
  exact a_iret hB hE rfl dX10_likeliestWays_15 (Nat.le_of_ble_eq_true rfl) (Nat.le_of_ble_eq_true rfl) (AKeep.of rfl) ⟨by rw [show lkm (wq z) mo (z 0) 0 0 (z 1) = _ from (congrArg (lkm (wq z) mo (z 0) 0 0) (show z 1 = 100 * 0 + z 1 by omega)).trans (lkm_at (Nat.zero_le _) (Nat.le_refl _) (by omega))]; rfl, rfl⟩
