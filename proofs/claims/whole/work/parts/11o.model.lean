def mP (z : Nat → Nat) (p : Nat) : Nat → Int32
  | 0 => nI (tot (wq z) p)
  | 1 => nI (tot (tq z) p)
  | 2 => nI (lo6 (gt (wq z) p))
  | 3 => nI (hi6 (gt (wq z) p))
  | 4 => nI (mom (wq z) p)
  | 5 => nI (mom (tq z) p)
  | _ => if z 3 = 0 then -1 else nI (z (5 + p))
set_option maxHeartbeats 4000000 in
set_option maxRecDepth 100000 in
theorem c_X10_partNow_0 {G : GP} {ma z : Nat → Nat} {sf : Nat → UInt64} {st : Nat} {hh : Nat → Nat} {sh : Nat → UInt64} {len : Nat} {tx : Nat → Nat} {th : Nat} {wy mo td : Nat → Nat} {re lo to : Nat} {rw : Nat → Nat} {ha : Int64} {p : Nat} (hp : p < 6) (hw : ∀ l, l < 6 → gt (wq z) p l ≤ 9) (hpos : ∃ l, l < 6 ∧ 0 < gt (wq z) p l) (hn : z 3 < 2 ^ 31) : AMd G sX10_partNow [.ref (ma 0), .int (nI p), .int (nI 0)] (wM G ma z sf st hh sh len tx th wy mo td re lo to rw ha) (some (.int (mP z p 0))) (wM G ma z sf st hh sh len tx th wy mo td re lo to rw ha) := by
  refine AM.of (σ := sX10_partNow) (by decide +kernel) (by decide +kernel) (Nat.le_of_ble_eq_true rfl) (fun B hB hR hE0 hN => ?_)
  have hE := BE.of hE0
  have g3 := lo6_spec hpos
  have g4 := hi6_spec hpos
  refine a_iload_n hB dX10_partNow_0 rfl ?_
  refine a_tableIn (off := 39) (tgt := 40) hB dX10_partNow_1 (by decide) (by decide) (by decide) (by decide) ?_
  refine a_aload_n hB dX10_partNow_40 rfl ?_
  refine a_iload_n hB dX10_partNow_41 rfl ?_
  refine a_callVr (q0 := 0) hB (c_X10_totalOf (by omega)) mk_X10_totalOf ml_X10_68 dX10_partNow_42 rfl rfl [0, 1, 2, 3, 4, 5, 6, 7, 8, 9] rfl (by decide) rfl rfl (fit_of hR (by decide)) (Nat.le_of_ble_eq_true rfl) ?_
  exact a_iret hB hE rfl dX10_partNow_45 (Nat.le_of_ble_eq_true rfl) (Nat.le_of_ble_eq_true rfl) (AKeep.of rfl) ⟨rfl, rfl⟩
set_option maxHeartbeats 4000000 in
set_option maxRecDepth 100000 in
theorem c_X10_partNow_1 {G : GP} {ma z : Nat → Nat} {sf : Nat → UInt64} {st : Nat} {hh : Nat → Nat} {sh : Nat → UInt64} {len : Nat} {tx : Nat → Nat} {th : Nat} {wy mo td : Nat → Nat} {re lo to : Nat} {rw : Nat → Nat} {ha : Int64} {p : Nat} (hp : p < 6) (hw : ∀ l, l < 6 → gt (wq z) p l ≤ 9) (hpos : ∃ l, l < 6 ∧ 0 < gt (wq z) p l) (hn : z 3 < 2 ^ 31) : AMd G sX10_partNow [.ref (ma 0), .int (nI p), .int (nI 1)] (wM G ma z sf st hh sh len tx th wy mo td re lo to rw ha) (some (.int (mP z p 1))) (wM G ma z sf st hh sh len tx th wy mo td re lo to rw ha) := by
  refine AM.of (σ := sX10_partNow) (by decide +kernel) (by decide +kernel) (Nat.le_of_ble_eq_true rfl) (fun B hB hR hE0 hN => ?_)
  have hE := BE.of hE0
  have g3 := lo6_spec hpos
  have g4 := hi6_spec hpos
  refine a_iload_n hB dX10_partNow_0 rfl ?_
  refine a_tableIn (off := 45) (tgt := 46) hB dX10_partNow_1 (by decide) (by decide) (by decide) (by decide) ?_
  refine a_aload_n hB dX10_partNow_46 rfl ?_
  refine a_iload_n hB dX10_partNow_47 rfl ?_
  refine a_callVr (q0 := 0) hB (c_X10_tiltedTotalOf (by omega)) mk_X10_tiltedTotalOf ml_X10_64 dX10_partNow_48 rfl rfl [0, 1, 2, 3, 4, 5, 6, 7, 8, 9] rfl (by decide) rfl rfl (fit_of hR (by decide)) (Nat.le_of_ble_eq_true rfl) ?_
  exact a_iret hB hE rfl dX10_partNow_51 (Nat.le_of_ble_eq_true rfl) (Nat.le_of_ble_eq_true rfl) (AKeep.of rfl) ⟨rfl, rfl⟩
set_option maxHeartbeats 4000000 in
set_option maxRecDepth 100000 in
theorem c_X10_partNow_2 {G : GP} {ma z : Nat → Nat} {sf : Nat → UInt64} {st : Nat} {hh : Nat → Nat} {sh : Nat → UInt64} {len : Nat} {tx : Nat → Nat} {th : Nat} {wy mo td : Nat → Nat} {re lo to : Nat} {rw : Nat → Nat} {ha : Int64} {p : Nat} (hp : p < 6) (hw : ∀ l, l < 6 → gt (wq z) p l ≤ 9) (hpos : ∃ l, l < 6 ∧ 0 < gt (wq z) p l) (hn : z 3 < 2 ^ 31) : AMd G sX10_partNow [.ref (ma 0), .int (nI p), .int (nI 2)] (wM G ma z sf st hh sh len tx th wy mo td re lo to rw ha) (some (.int (mP z p 2))) (wM G ma z sf st hh sh len tx th wy mo td re lo to rw ha) := by
  refine AM.of (σ := sX10_partNow) (by decide +kernel) (by decide +kernel) (Nat.le_of_ble_eq_true rfl) (fun B hB hR hE0 hN => ?_)
  have hE := BE.of hE0
  have g3 := lo6_spec hpos
  have g4 := hi6_spec hpos
  refine a_iload_n hB dX10_partNow_0 rfl ?_
  refine a_tableIn (off := 51) (tgt := 52) hB dX10_partNow_1 (by decide) (by decide) (by decide) (by decide) ?_
  refine a_aload_n hB dX10_partNow_52 rfl ?_
  refine a_iload_n hB dX10_partNow_53 rfl ?_
  refine a_callVr (q0 := 0) hB (c_X10_leastLoad (p := p) (r := lo6 (gt (wq z) p)) hp g3.1 g3.2.1 g3.2.2 (Nat.lt_of_le_of_lt (hw _ g3.1) (by decide))) mk_X10_leastLoad ml_X10_147 dX10_partNow_54 rfl rfl [0, 1, 2, 3, 4, 5, 6, 7, 8, 9] rfl (by decide) rfl rfl (fit_of hR (by decide)) (Nat.le_of_ble_eq_true rfl) ?_
  exact a_iret hB hE rfl dX10_partNow_57 (Nat.le_of_ble_eq_true rfl) (Nat.le_of_ble_eq_true rfl) (AKeep.of rfl) ⟨rfl, rfl⟩
set_option maxHeartbeats 4000000 in
set_option maxRecDepth 100000 in
theorem c_X10_partNow_3 {G : GP} {ma z : Nat → Nat} {sf : Nat → UInt64} {st : Nat} {hh : Nat → Nat} {sh : Nat → UInt64} {len : Nat} {tx : Nat → Nat} {th : Nat} {wy mo td : Nat → Nat} {re lo to : Nat} {rw : Nat → Nat} {ha : Int64} {p : Nat} (hp : p < 6) (hw : ∀ l, l < 6 → gt (wq z) p l ≤ 9) (hpos : ∃ l, l < 6 ∧ 0 < gt (wq z) p l) (hn : z 3 < 2 ^ 31) : AMd G sX10_partNow [.ref (ma 0), .int (nI p), .int (nI 3)] (wM G ma z sf st hh sh len tx th wy mo td re lo to rw ha) (some (.int (mP z p 3))) (wM G ma z sf st hh sh len tx th wy mo td re lo to rw ha) := by
  refine AM.of (σ := sX10_partNow) (by decide +kernel) (by decide +kernel) (Nat.le_of_ble_eq_true rfl) (fun B hB hR hE0 hN => ?_)
  have hE := BE.of hE0
  have g3 := lo6_spec hpos
  have g4 := hi6_spec hpos
  refine a_iload_n hB dX10_partNow_0 rfl ?_
  refine a_tableIn (off := 57) (tgt := 58) hB dX10_partNow_1 (by decide) (by decide) (by decide) (by decide) ?_
  refine a_aload_n hB dX10_partNow_58 rfl ?_
  refine a_iload_n hB dX10_partNow_59 rfl ?_
  refine a_callVr (q0 := 0) hB (c_X10_greatestLoad (p := p) (r := hi6 (gt (wq z) p)) hp g4.1 g4.2.1 g4.2.2 (Nat.lt_of_le_of_lt (hw _ g4.1) (by decide))) mk_X10_greatestLoad ml_X10_150 dX10_partNow_60 rfl rfl [0, 1, 2, 3, 4, 5, 6, 7, 8, 9] rfl (by decide) rfl rfl (fit_of hR (by decide)) (Nat.le_of_ble_eq_true rfl) ?_
  exact a_iret hB hE rfl dX10_partNow_63 (Nat.le_of_ble_eq_true rfl) (Nat.le_of_ble_eq_true rfl) (AKeep.of rfl) ⟨rfl, rfl⟩
set_option maxHeartbeats 4000000 in
set_option maxRecDepth 100000 in
theorem c_X10_partNow_4 {G : GP} {ma z : Nat → Nat} {sf : Nat → UInt64} {st : Nat} {hh : Nat → Nat} {sh : Nat → UInt64} {len : Nat} {tx : Nat → Nat} {th : Nat} {wy mo td : Nat → Nat} {re lo to : Nat} {rw : Nat → Nat} {ha : Int64} {p : Nat} (hp : p < 6) (hw : ∀ l, l < 6 → gt (wq z) p l ≤ 9) (hpos : ∃ l, l < 6 ∧ 0 < gt (wq z) p l) (hn : z 3 < 2 ^ 31) : AMd G sX10_partNow [.ref (ma 0), .int (nI p), .int (nI 4)] (wM G ma z sf st hh sh len tx th wy mo td re lo to rw ha) (some (.int (mP z p 4))) (wM G ma z sf st hh sh len tx th wy mo td re lo to rw ha) := by
  refine AM.of (σ := sX10_partNow) (by decide +kernel) (by decide +kernel) (Nat.le_of_ble_eq_true rfl) (fun B hB hR hE0 hN => ?_)
  have hE := BE.of hE0
  have g3 := lo6_spec hpos
  have g4 := hi6_spec hpos
  refine a_iload_n hB dX10_partNow_0 rfl ?_
  refine a_tableIn (off := 63) (tgt := 64) hB dX10_partNow_1 (by decide) (by decide) (by decide) (by decide) ?_
  refine a_aload_n hB dX10_partNow_64 rfl ?_
  refine a_iload_n hB dX10_partNow_65 rfl ?_
  refine a_iload_n hB dX10_partNow_66 rfl ?_
  refine a_iconstN (v := 5) hB dX10_partNow_67 (by decide) ?_
  refine a_icmp_neN_t (tgt := 75) hB dX10_partNow_68 (by decide) (by omega) (by omega) (by omega) ?_
  refine a_iconstN (v := 0) hB dX10_partNow_75 (by decide) ?_
  refine a_callVr (q0 := 0) hB (c_X10_loadSum_0 hp) mk_X10_loadSum ml_X10_153 dX10_partNow_76 rfl rfl [0, 1, 2, 3, 4, 5, 6, 7, 8, 9] rfl (by decide) rfl rfl (fit_of hR (by decide)) (Nat.le_of_ble_eq_true rfl) ?_
  exact a_iret hB hE rfl dX10_partNow_79 (Nat.le_of_ble_eq_true rfl) (Nat.le_of_ble_eq_true rfl) (AKeep.of rfl) ⟨rfl, rfl⟩
set_option maxHeartbeats 4000000 in
set_option maxRecDepth 100000 in
theorem c_X10_partNow_5 {G : GP} {ma z : Nat → Nat} {sf : Nat → UInt64} {st : Nat} {hh : Nat → Nat} {sh : Nat → UInt64} {len : Nat} {tx : Nat → Nat} {th : Nat} {wy mo td : Nat → Nat} {re lo to : Nat} {rw : Nat → Nat} {ha : Int64} {p : Nat} (hp : p < 6) (hw : ∀ l, l < 6 → gt (wq z) p l ≤ 9) (hpos : ∃ l, l < 6 ∧ 0 < gt (wq z) p l) (hn : z 3 < 2 ^ 31) : AMd G sX10_partNow [.ref (ma 0), .int (nI p), .int (nI 5)] (wM G ma z sf st hh sh len tx th wy mo td re lo to rw ha) (some (.int (mP z p 5))) (wM G ma z sf st hh sh len tx th wy mo td re lo to rw ha) := by
  refine AM.of (σ := sX10_partNow) (by decide +kernel) (by decide +kernel) (Nat.le_of_ble_eq_true rfl) (fun B hB hR hE0 hN => ?_)
  have hE := BE.of hE0
  have g3 := lo6_spec hpos
  have g4 := hi6_spec hpos
  refine a_iload_n hB dX10_partNow_0 rfl ?_
  refine a_tableIn (off := 63) (tgt := 64) hB dX10_partNow_1 (by decide) (by decide) (by decide) (by decide) ?_
  refine a_aload_n hB dX10_partNow_64 rfl ?_
  refine a_iload_n hB dX10_partNow_65 rfl ?_
  refine a_iload_n hB dX10_partNow_66 rfl ?_
  refine a_iconstN (v := 5) hB dX10_partNow_67 (by decide) ?_
  refine a_icmp_neN_f (tgt := 75) hB dX10_partNow_68 (by decide) (by omega) (by omega) (by omega) ?_
  refine a_iconstN (v := 1) hB dX10_partNow_71 (by decide) ?_
  refine a_goto (tgt := 76) hB dX10_partNow_72 (by decide) ?_
  refine a_callVr (q0 := 0) hB (c_X10_loadSum_1 hp) mk_X10_loadSum ml_X10_153 dX10_partNow_76 rfl rfl [0, 1, 2, 3, 4, 5, 6, 7, 8, 9] rfl (by decide) rfl rfl (fit_of hR (by decide)) (Nat.le_of_ble_eq_true rfl) ?_
  exact a_iret hB hE rfl dX10_partNow_79 (Nat.le_of_ble_eq_true rfl) (Nat.le_of_ble_eq_true rfl) (AKeep.of rfl) ⟨rfl, rfl⟩
set_option maxHeartbeats 4000000 in
set_option maxRecDepth 100000 in
theorem c_X10_partNow_6 {G : GP} {ma z : Nat → Nat} {sf : Nat → UInt64} {st : Nat} {hh : Nat → Nat} {sh : Nat → UInt64} {len : Nat} {tx : Nat → Nat} {th : Nat} {wy mo td : Nat → Nat} {re lo to : Nat} {rw : Nat → Nat} {ha : Int64} {p : Nat} (hp : p < 6) (hw : ∀ l, l < 6 → gt (wq z) p l ≤ 9) (hpos : ∃ l, l < 6 ∧ 0 < gt (wq z) p l) (hn : z 3 < 2 ^ 31) : AMd G sX10_partNow [.ref (ma 0), .int (nI p), .int (nI 6)] (wM G ma z sf st hh sh len tx th wy mo td re lo to rw ha) (some (.int (mP z p 6))) (wM G ma z sf st hh sh len tx th wy mo td re lo to rw ha) := by
  refine AM.of (σ := sX10_partNow) (by decide +kernel) (by decide +kernel) (Nat.le_of_ble_eq_true rfl) (fun B hB hR hE0 hN => ?_)
  have hE := BE.of hE0
  have g3 := lo6_spec hpos
  have g4 := hi6_spec hpos
  refine a_iload_n hB dX10_partNow_0 rfl ?_
  refine a_tableOut (tgt := 80) hB dX10_partNow_1 (by decide) (by decide) ?_
  refine a_aload_n hB dX10_partNow_80 rfl ?_
  refine a_get (T := TX10) (ci := 10) hB dX10_partNow_81 0 fl_X10_7 lay_X10 rfl (by decide) rfl 0 rfl rfl ?_
  refine a_iconstN (v := 3) hB dX10_partNow_84 (by decide) ?_
  refine a_ialoadN hB dX10_partNow_85 1 rfl (by omega) (by decide) ?_
  refine a_if_neN (tgt := 93) hB dX10_partNow_86 (by decide) (by omega) (fun c86 => ?_) (fun c86 => ?_)
  · refine a_aload_n hB dX10_partNow_93 rfl ?_
    refine a_get (T := TX10) (ci := 10) hB dX10_partNow_94 0 fl_X10_7 lay_X10 rfl (by decide) rfl 0 rfl rfl ?_
    refine a_iconstN (v := 5) hB dX10_partNow_97 (by decide) ?_
    refine a_iload_n hB dX10_partNow_98 rfl ?_
    refine a_iaddN hB dX10_partNow_99 ?_
    refine a_ialoadN hB dX10_partNow_100 1 rfl (by omega) (by decide) ?_
    exact a_iret hB hE rfl dX10_partNow_101 (Nat.le_of_ble_eq_true rfl) (Nat.le_of_ble_eq_true rfl) (AKeep.of rfl) ⟨by show _ = some (Value.int (if z 3 = 0 then -1 else nI (z (5 + p)))); first | (rw [if_pos (by omega)]; done) | (rw [if_neg (by omega)]; done), rfl⟩
  · refine a_iconst (v := -1) hB dX10_partNow_89 (by decide) ?_
    refine a_goto (tgt := 101) hB dX10_partNow_90 (by decide) ?_
    exact a_iret hB hE rfl dX10_partNow_101 (Nat.le_of_ble_eq_true rfl) (Nat.le_of_ble_eq_true rfl) (AKeep.of rfl) ⟨by show _ = some (Value.int (if z 3 = 0 then -1 else nI (z (5 + p)))); first | (rw [if_pos (by omega)]; done) | (rw [if_neg (by omega)]; done), rfl⟩
