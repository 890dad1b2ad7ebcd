theorem c_X10_partNow {G : GP} {ma z : Nat → Nat} {sf : Nat → UInt64} {st : Nat} {hh : Nat → Nat} {sh : Nat → UInt64} {len : Nat} {tx : Nat → Nat} {th : Nat} {wy mo td : Nat → Nat} {re lo to : Nat} {rw : Nat → Nat} {ha : Int64} {k : Nat} {p : Nat} (hp : p < 6) (hw : ∀ l, l < 6 → gt (wq z) p l ≤ 9) (hpos : ∃ l, l < 6 ∧ 0 < gt (wq z) p l) (hn : z 3 < 2 ^ 31) (hk : k ≤ 6) : AMd G sX10_partNow [.ref (ma 0), .int (nI p), .int (nI k)] (wM G ma z sf st hh sh len tx th wy mo td re lo to rw ha) (some (.int (mP z p k))) (wM G ma z sf st hh sh len tx th wy mo td re lo to rw ha) := by
  rcases (show k = 0 ∨ k = 1 ∨ k = 2 ∨ k = 3 ∨ k = 4 ∨ k = 5 ∨ k = 6 by omega) with rfl | rfl | rfl | rfl | rfl | rfl | rfl
  · exact c_X10_partNow_0 hp hw hpos hn
  · exact c_X10_partNow_1 hp hw hpos hn
  · exact c_X10_partNow_2 hp hw hpos hn
  · exact c_X10_partNow_3 hp hw hpos hn
  · exact c_X10_partNow_4 hp hw hpos hn
  · exact c_X10_partNow_5 hp hw hpos hn
  · exact c_X10_partNow_6 hp hw hpos hn
set_option maxHeartbeats 4000000 in
set_option maxRecDepth 100000 in
theorem c_X10_part_ok {G : GP} {ma z : Nat → Nat} {sf : Nat → UInt64} {st : Nat} {hh : Nat → Nat} {sh : Nat → UInt64} {len : Nat} {tx : Nat → Nat} {th : Nat} {wy mo td : Nat → Nat} {re lo to : Nat} {rw : Nat → Nat} {ha : Int64} {p k : Nat} (hp : p < z 0) (h6 : z 0 ≤ 6) (hw : ∀ l, l < 6 → gt (wq z) p l ≤ 9) (hpos : ∃ l, l < 6 ∧ 0 < gt (wq z) p l) (hn : z 3 < 2 ^ 31) (hk : k ≤ 6) : AMd G sX10_part [.ref (ma 0), .int (nI p), .int (nI k)] (wM G ma z sf st hh sh len tx th wy mo td re lo to rw ha) (some (.int (mP z p k))) (wM G ma z sf st hh sh len tx 0 wy mo td re lo to rw ha) := by
  refine AM.of (σ := sX10_part) (by decide +kernel) (by decide +kernel) (Nat.le_of_ble_eq_true rfl) (fun B hB hR hE0 hN => ?_)
  have hE := BE.of hE0
  refine a_aload_n hB dX10_part_0 rfl ?_
  refine a_aload_n hB dX10_part_1 rfl ?_
  refine a_iload_n hB dX10_part_2 rfl ?_
  refine a_callVr (q0 := 0) hB (c_X10_isPart_N hp h6) mk_X10_isPart ml_X10_113 dX10_part_3 rfl rfl [0, 1, 2, 3, 4, 5, 6, 7, 8, 9] rfl (by decide) rfl rfl (fit_of hR (by decide)) (Nat.le_of_ble_eq_true rfl) ?_
  refine a_if_neN_t (tgt := 13) hB dX10_part_6 (by decide) (by omega) (by omega) ?_
  refine a_iload_n hB dX10_part_13 rfl ?_
  refine a_iconstN (v := 0) hB dX10_part_14 (by decide) ?_
  refine a_bipushN (v := 6) hB dX10_part_15 (by decide) ?_
  refine a_callSr hB (c_X10_within_N (by omega) (by omega) (by omega)) mk_X10_within ml_X10_46 dX10_part_17 rfl rfl [] rfl (by decide) (fit_of hR (by decide)) (Nat.le_of_ble_eq_true rfl) ?_
  refine a_if_eqN_f (tgt := 27) hB dX10_part_20 (by decide) (by omega) (by omega) ?_
  refine a_iconstN (v := 0) hB dX10_part_23 (by decide) ?_
  refine a_goto (tgt := 28) hB dX10_part_24 (by decide) ?_
  refine a_put (T := TX10) (ci := 10) hB dX10_part_28 7 fl_X10_39 lay_X10 tyX10 tyX10_ok nmX10 rfl (by decide) rfl rfl 0 rfl rfl rfl rfl (Nat.le_of_ble_eq_true rfl) ?_
  refine a_aload_n hB dX10_part_31 rfl ?_
  refine a_get (T := TX10) (ci := 10) hB dX10_part_32 7 fl_X10_39 lay_X10 rfl (by decide) rfl 0 rfl rfl ?_
  refine a_if_leN_t (tgt := 42) hB dX10_part_35 (by decide) (by omega) (by omega) ?_
  refine a_aload_n hB dX10_part_42 rfl ?_
  refine a_iload_n hB dX10_part_43 rfl ?_
  refine a_iload_n hB dX10_part_44 rfl ?_
  refine a_callVr (q0 := 0) hB (c_X10_partNow (p := p) (k := k) (by omega) hw hpos hn hk) mk_X10_partNow ml_X10_157 dX10_part_45 rfl rfl [0, 1, 2, 3, 4, 5, 6, 7, 8, 9] rfl (by decide) rfl rfl (fit_of hR (by decide)) (Nat.le_of_ble_eq_true rfl) ?_
  exact a_iret hB hE rfl dX10_part_48 (Nat.le_of_ble_eq_true rfl) (Nat.le_of_ble_eq_true rfl) (AKeep.of rfl) ⟨rfl, rfl⟩
