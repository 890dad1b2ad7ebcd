theorem c_X10_waysNow {G : GP} {ma z : Nat → Nat} {sf : Nat → UInt64} {st : Nat} {hh : Nat → Nat} {sh : Nat → UInt64} {len : Nat} {tx : Nat → Nat} {th : Nat} {wy mo td : Nat → Nat} {re lo to : Nat} {rw : Nat → Nat} {ha : Int64} {s b : Nat} (h6 : z 0 ≤ 6) (hw : ∀ p, p < z 0 → ∀ l, l < 6 → gt (wq z) p l < 2 ^ 31) (hs : s ≤ 99) (hb : b ≤ 1) : AMd G sX10_waysNow [.ref (ma 0), .int (nI s), .int (nI b)] (wM G ma z sf st hh sh len tx th wy mo td re lo to rw ha) (some (.long (lN (if b = 0 then (if s < 31 then (cnF (wq z) (-1) wy (z 0)) s else 0) else wfrom (cnF (wq z) (-1) wy (z 0)) s)))) (wM G ma z sf st hh sh len tx th (cnF (wq z) (-1) wy (z 0)) mo td re lo to rw ha) := by
  rcases (show b = 0 ∨ b = 1 by omega) with rfl | rfl
  · rw [if_pos rfl]
    rcases Nat.lt_or_ge s 31 with h | h
    · rw [if_pos h]; exact c_X10_waysNow_0 h6 hw h
    · rw [if_neg (by omega)]; exact c_X10_waysNow_h h6 hw hs h
  · rw [if_neg (by decide)]; exact c_X10_waysNow_1 h6 hw hs
set_option maxHeartbeats 4000000 in
set_option maxRecDepth 100000 in
theorem c_X10_ways_ok {G : GP} {ma z : Nat → Nat} {sf : Nat → UInt64} {st : Nat} {hh : Nat → Nat} {sh : Nat → UInt64} {len : Nat} {tx : Nat → Nat} {th : Nat} {wy mo td : Nat → Nat} {re lo to : Nat} {rw : Nat → Nat} {ha : Int64} {s b : Nat} (h6 : z 0 ≤ 6) (hw : ∀ p, p < z 0 → ∀ l, l < 6 → gt (wq z) p l < 2 ^ 31) (hs : s ≤ 99) (hb : b ≤ 1) : AMd G sX10_ways [.ref (ma 0), .int (nI s), .int (nI b)] (wM G ma z sf st hh sh len tx th wy mo td re lo to rw ha) (some (.long (lN (if b = 0 then (if s < 31 then (cnF (wq z) (-1) wy (z 0)) s else 0) else wfrom (cnF (wq z) (-1) wy (z 0)) s)))) (wM G ma z sf st hh sh len tx 0 (cnF (wq z) (-1) wy (z 0)) mo td re lo to rw ha) := by
  refine AM.of (σ := sX10_ways) (by decide +kernel) (by decide +kernel) (Nat.le_of_ble_eq_true rfl) (fun B hB hR hE0 hN => ?_)
  have hE := BE.of hE0
  refine a_aload_n hB dX10_ways_0 rfl ?_
  refine a_iload_n hB dX10_ways_1 rfl ?_
  refine a_callSr hB (c_X10_isLimit_N (by omega)) mk_X10_isLimit ml_X10_120 dX10_ways_2 rfl rfl [] rfl (by decide) (fit_of hR (by decide)) (Nat.le_of_ble_eq_true rfl) ?_
  refine a_if_eqN_f (tgt := 12) hB dX10_ways_5 (by decide) (by omega) (by omega) ?_
  refine a_iconstN (v := 0) hB dX10_ways_8 (by decide) ?_
  refine a_goto (tgt := 13) hB dX10_ways_9 (by decide) ?_
  refine a_put (T := TX10) (ci := 10) hB dX10_ways_13 7 fl_X10_39 lay_X10 tyX10 tyX10_ok nmX10 rfl (by decide) rfl rfl 0 rfl rfl rfl rfl (Nat.le_of_ble_eq_true rfl) ?_
  refine a_aload_n hB dX10_ways_16 rfl ?_
  refine a_get (T := TX10) (ci := 10) hB dX10_ways_17 7 fl_X10_39 lay_X10 rfl (by decide) rfl 0 rfl rfl ?_
  refine a_if_leN_t (tgt := 27) hB dX10_ways_20 (by decide) (by omega) (by omega) ?_
  refine a_aload_n hB dX10_ways_27 rfl ?_
  refine a_iload_n hB dX10_ways_28 rfl ?_
  refine a_iload_n hB dX10_ways_29 rfl ?_
  refine a_callVd (w2 := wM G ma z sf st hh sh len tx 0 (cnF (wq z) (-1) wy (z 0)) mo td re lo to rw ha) (q0 := 0) hB (c_X10_waysNow h6 hw hs hb) mk_X10_waysNow ml_X10_160 dX10_ways_30 rfl rfl [0, 1, 2, 3, 4, 5, 6, 7, 8, 9] rfl (by decide) rfl rfl (fit_of hR (by decide)) (Nat.le_of_ble_eq_true rfl) (wput_all rfl rfl) ?_
  exact a_lret hB hE rfl dX10_ways_33 (Nat.le_of_ble_eq_true rfl) (Nat.le_of_ble_eq_true rfl) (AKeep.of rfl) ⟨rfl, rfl⟩
