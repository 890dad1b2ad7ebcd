set_option maxHeartbeats 4000000 in
set_option maxRecDepth 100000 in
theorem c_X10_firstError_r {G : GP} {ma z : Nat → Nat} {sf : Nat → UInt64} {st : Nat} {hh : Nat → Nat} {sh : Nat → UInt64} {len : Nat} {tx : Nat → Nat} {th : Nat} {wy mo td : Nat → Nat} {re lo to : Nat} {rw : Nat → Nat} {ha : Int64} {r : Nat} (hl : len ≤ 60) (hcs : ∀ i, i < len → tx i ≤ 126) (hr : r ≤ len) (h0 : ∀ i, i < r → ¬ mtA (mtK td tx i) (tx i) = 0) (hz : r < len → mtA (mtK td tx r) (tx r) = 0) : AMd G sX10_firstError [.ref (ma 0)] (wM G ma z sf st hh sh len tx th wy mo td re lo to rw ha) (some (.int (nI r))) (wM G ma z sf st hh sh len tx 0 wy mo (mtK td tx (r)).1 (mtK td tx (r)).2.1 (mtK td tx (r)).2.2.1 (mtK td tx (r)).2.2.2 rw ha) := by
  refine AM.of (σ := sX10_firstError) (by decide +kernel) (by decide +kernel) (Nat.le_of_ble_eq_true rfl) (fun B hB hR hE0 hN => ?_)
  have hE := BE.of hE0
  refine a_aload_n hB dX10_firstError_0 rfl ?_
  refine a_iconstN (v := 0) hB dX10_firstError_1 (by decide) ?_
  refine a_put (T := TX10) (ci := 10) hB dX10_firstError_2 7 fl_X10_39 lay_X10 tyX10 tyX10_ok nmX10 rfl (by decide) rfl rfl 0 rfl rfl rfl rfl (Nat.le_of_ble_eq_true rfl) ?_
  refine a_aload_n hB dX10_firstError_5 rfl ?_
  refine a_callVd (w2 := wM G ma z sf st hh sh len tx 0 wy mo (mtK td tx (r)).1 (mtK td tx (r)).2.1 (mtK td tx (r)).2.2.1 (mtK td tx (r)).2.2.2 rw ha) (q0 := 0) hB (c_X10_rightUpTo_r hl hcs hr h0 hz) mk_X10_rightUpTo ml_X10_144 dX10_firstError_6 rfl rfl [0, 1, 2, 3, 4, 5, 6, 7, 8, 9] rfl (by decide) rfl rfl (fit_of hR (by decide)) (Nat.le_of_ble_eq_true rfl) (wput_all rfl rfl) ?_
  exact a_iret hB hE rfl dX10_firstError_9 (Nat.le_of_ble_eq_true rfl) (Nat.le_of_ble_eq_true rfl) (AKeep.of rfl) ⟨rfl, rfl⟩
set_option maxHeartbeats 4000000 in
set_option maxRecDepth 100000 in
theorem c_X10_addAll_r1 {G : GP} {ma z : Nat → Nat} {sf : Nat → UInt64} {st : Nat} {hh : Nat → Nat} {sh : Nat → UInt64} {len : Nat} {tx : Nat → Nat} {th : Nat} {wy mo td : Nat → Nat} {re lo to : Nat} {rw : Nat → Nat} {ha : Int64} {r : Nat} (hl : len ≤ 60) (hcs : ∀ i, i < len → tx i ≤ 126) (hr : r ≤ len) (h0 : ∀ i, i < r → ¬ mtA (mtK td tx i) (tx i) = 0) (hz : r < len → mtA (mtK td tx r) (tx r) = 0) (hne : r < len) : AMd G sX10_addAll [.ref (ma 0)] (wM G ma z sf st hh sh len tx th wy mo td re lo to rw ha) (some (.int (nI 0))) (wM G ma z sf st hh sh len tx 1 wy mo (mtK td tx (r)).1 (mtK td tx (r)).2.1 (mtK td tx (r)).2.2.1 (mtK td tx (r)).2.2.2 rw ha) := by
  refine AM.of (σ := sX10_addAll) (by decide +kernel) (by decide +kernel) (Nat.le_of_ble_eq_true rfl) (fun B hB hR hE0 hN => ?_)
  have hE := BE.of hE0
  refine a_aload_n hB dX10_addAll_0 rfl ?_
  refine a_callVd (w2 := wM G ma z sf st hh sh len tx th wy mo (mtK td tx (r)).1 (mtK td tx (r)).2.1 (mtK td tx (r)).2.2.1 (mtK td tx (r)).2.2.2 rw ha) (q0 := 0) hB (c_X10_rightUpTo_r hl hcs hr h0 hz) mk_X10_rightUpTo ml_X10_144 dX10_addAll_1 rfl rfl [0, 1, 2, 3, 4, 5, 6, 7, 8, 9] rfl (by decide) rfl rfl (fit_of hR (by decide)) (Nat.le_of_ble_eq_true rfl) (wput_all rfl rfl) ?_
  refine a_aload_n hB dX10_addAll_4 rfl ?_
  refine a_get (T := TX10) (ci := 10) hB dX10_addAll_5 5 fl_X10_126 lay_X10 rfl (by decide) rfl 0 rfl rfl ?_
  refine a_icmp_neN_t (tgt := 22) hB dX10_addAll_8 (by decide) (by omega) (by omega) (by omega) ?_
  refine a_iconstN (v := 0) hB dX10_addAll_22 (by decide) ?_
  refine a_istore_n hB dX10_addAll_23 (by decide) ?_
  refine a_aload_n hB dX10_addAll_24 rfl ?_
  refine a_iload_n hB dX10_addAll_25 rfl ?_
  refine a_if_neN_f (tgt := 33) hB dX10_addAll_26 (by decide) (by omega) (by omega) ?_
  refine a_iconstN (v := 1) hB dX10_addAll_29 (by decide) ?_
  refine a_goto (tgt := 56) hB dX10_addAll_30 (by decide) ?_
  refine a_put (T := TX10) (ci := 10) hB dX10_addAll_56 7 fl_X10_39 lay_X10 tyX10 tyX10_ok nmX10 rfl (by decide) rfl rfl 0 rfl rfl rfl rfl (Nat.le_of_ble_eq_true rfl) ?_
  refine a_aload_n hB dX10_addAll_59 rfl ?_
  refine a_get (T := TX10) (ci := 10) hB dX10_addAll_60 7 fl_X10_39 lay_X10 rfl (by decide) rfl 0 rfl rfl ?_
  refine a_if_leN_f (tgt := 68) hB dX10_addAll_63 (by decide) (by omega) (by omega) ?_
  refine a_iconstN (v := 0) hB dX10_addAll_66 (by decide) ?_
  exact a_iret hB hE rfl dX10_addAll_67 (Nat.le_of_ble_eq_true rfl) (Nat.le_of_ble_eq_true rfl) (AKeep.of rfl) ⟨rfl, rfl⟩
set_option maxHeartbeats 4000000 in
set_option maxRecDepth 100000 in
theorem c_X10_addAll_r2 {G : GP} {ma z : Nat → Nat} {sf : Nat → UInt64} {st : Nat} {hh : Nat → Nat} {sh : Nat → UInt64} {len : Nat} {tx : Nat → Nat} {th : Nat} {wy mo td : Nat → Nat} {re lo to : Nat} {rw : Nat → Nat} {ha : Int64} {r : Nat} (hl : len ≤ 60) (hcs : ∀ i, i < len → tx i ≤ 126) (hr : r ≤ len) (h0 : ∀ i, i < r → ¬ mtA (mtK td tx i) (tx i) = 0) (hz : r < len → mtA (mtK td tx r) (tx r) = 0) (hne : r = len) (hto : (mtK td tx r).2.2.2 = 0) : AMd G sX10_addAll [.ref (ma 0)] (wM G ma z sf st hh sh len tx th wy mo td re lo to rw ha) (some (.int (nI 0))) (wM G ma z sf st hh sh len tx 1 wy mo (mtK td tx (r)).1 (mtK td tx (r)).2.1 (mtK td tx (r)).2.2.1 (mtK td tx (r)).2.2.2 rw ha) := by
  refine AM.of (σ := sX10_addAll) (by decide +kernel) (by decide +kernel) (Nat.le_of_ble_eq_true rfl) (fun B hB hR hE0 hN => ?_)
  have hE := BE.of hE0
  obtain ⟨v1, v2, v3⟩ := mtK_inv td tx r
  refine a_aload_n hB dX10_addAll_0 rfl ?_
  refine a_callVd (w2 := wM G ma z sf st hh sh len tx th wy mo (mtK td tx (r)).1 (mtK td tx (r)).2.1 (mtK td tx (r)).2.2.1 (mtK td tx (r)).2.2.2 rw ha) (q0 := 0) hB (c_X10_rightUpTo_r hl hcs hr h0 hz) mk_X10_rightUpTo ml_X10_144 dX10_addAll_1 rfl rfl [0, 1, 2, 3, 4, 5, 6, 7, 8, 9] rfl (by decide) rfl rfl (fit_of hR (by decide)) (Nat.le_of_ble_eq_true rfl) (wput_all rfl rfl) ?_
  refine a_aload_n hB dX10_addAll_4 rfl ?_
  refine a_get (T := TX10) (ci := 10) hB dX10_addAll_5 5 fl_X10_126 lay_X10 rfl (by decide) rfl 0 rfl rfl ?_
  refine a_icmp_neN_f (tgt := 22) hB dX10_addAll_8 (by decide) (by omega) (by omega) (by omega) ?_
  refine a_aload_n hB dX10_addAll_11 rfl ?_
  refine a_get (T := TX10) (ci := 10) hB dX10_addAll_12 13 fl_X10_135 lay_X10 rfl (by decide) rfl 0 rfl rfl ?_
  refine a_if_leN_t (tgt := 22) hB dX10_addAll_15 (by decide) (by omega) hto ?_
  refine a_iconstN (v := 0) hB dX10_addAll_22 (by decide) ?_
  refine a_istore_n hB dX10_addAll_23 (by decide) ?_
  refine a_aload_n hB dX10_addAll_24 rfl ?_
  refine a_iload_n hB dX10_addAll_25 rfl ?_
  refine a_if_neN_f (tgt := 33) hB dX10_addAll_26 (by decide) (by omega) (by omega) ?_
  refine a_iconstN (v := 1) hB dX10_addAll_29 (by decide) ?_
  refine a_goto (tgt := 56) hB dX10_addAll_30 (by decide) ?_
  refine a_put (T := TX10) (ci := 10) hB dX10_addAll_56 7 fl_X10_39 lay_X10 tyX10 tyX10_ok nmX10 rfl (by decide) rfl rfl 0 rfl rfl rfl rfl (Nat.le_of_ble_eq_true rfl) ?_
  refine a_aload_n hB dX10_addAll_59 rfl ?_
  refine a_get (T := TX10) (ci := 10) hB dX10_addAll_60 7 fl_X10_39 lay_X10 rfl (by decide) rfl 0 rfl rfl ?_
  refine a_if_leN_f (tgt := 68) hB dX10_addAll_63 (by decide) (by omega) (by omega) ?_
  refine a_iconstN (v := 0) hB dX10_addAll_66 (by decide) ?_
  exact a_iret hB hE rfl dX10_addAll_67 (Nat.le_of_ble_eq_true rfl) (Nat.le_of_ble_eq_true rfl) (AKeep.of rfl) ⟨rfl, rfl⟩
set_option maxHeartbeats 4000000 in
set_option maxRecDepth 100000 in
theorem c_X10_addAll_s {G : GP} {ma z : Nat → Nat} {sf : Nat → UInt64} {st : Nat} {hh : Nat → Nat} {sh : Nat → UInt64} {len : Nat} {tx : Nat → Nat} {th : Nat} {wy mo td : Nat → Nat} {re lo to : Nat} {rw : Nat → Nat} {ha : Int64} {r : Nat} (hl : len ≤ 60) (hcs : ∀ i, i < len → tx i ≤ 126) (hr : r ≤ len) (h0 : ∀ i, i < r → ¬ mtA (mtK td tx i) (tx i) = 0) (hz : r < len → mtA (mtK td tx r) (tx r) = 0) (hne : r = len) (hto : ¬ (mtK td tx r).2.2.2 = 0) (h6 : z 0 ≤ 6) (hs : 6 < z 0 + (mtK td tx r).2.1 + 1) : AMd G sX10_addAll [.ref (ma 0)] (wM G ma z sf st hh sh len tx th wy mo td re lo to rw ha) (some (.int (nI 0))) (wM G ma z sf st hh sh len tx 2 wy mo (mtK td tx (r)).1 (mtK td tx (r)).2.1 (mtK td tx (r)).2.2.1 (mtK td tx (r)).2.2.2 rw ha) := by
  refine AM.of (σ := sX10_addAll) (by decide +kernel) (by decide +kernel) (Nat.le_of_ble_eq_true rfl) (fun B hB hR hE0 hN => ?_)
  have hE := BE.of hE0
  obtain ⟨v1, v2, v3⟩ := mtK_inv td tx r
  refine a_aload_n hB dX10_addAll_0 rfl ?_
  refine a_callVd (w2 := wM G ma z sf st hh sh len tx th wy mo (mtK td tx (r)).1 (mtK td tx (r)).2.1 (mtK td tx (r)).2.2.1 (mtK td tx (r)).2.2.2 rw ha) (q0 := 0) hB (c_X10_rightUpTo_r hl hcs hr h0 hz) mk_X10_rightUpTo ml_X10_144 dX10_addAll_1 rfl rfl [0, 1, 2, 3, 4, 5, 6, 7, 8, 9] rfl (by decide) rfl rfl (fit_of hR (by decide)) (Nat.le_of_ble_eq_true rfl) (wput_all rfl rfl) ?_
  refine a_aload_n hB dX10_addAll_4 rfl ?_
  refine a_get (T := TX10) (ci := 10) hB dX10_addAll_5 5 fl_X10_126 lay_X10 rfl (by decide) rfl 0 rfl rfl ?_
  refine a_icmp_neN_f (tgt := 22) hB dX10_addAll_8 (by decide) (by omega) (by omega) (by omega) ?_
  refine a_aload_n hB dX10_addAll_11 rfl ?_
  refine a_get (T := TX10) (ci := 10) hB dX10_addAll_12 13 fl_X10_135 lay_X10 rfl (by decide) rfl 0 rfl rfl ?_
  refine a_if_leN_f (tgt := 22) hB dX10_addAll_15 (by decide) (by omega) hto ?_
  refine a_iconstN (v := 1) hB dX10_addAll_18 (by decide) ?_
  refine a_goto (tgt := 23) hB dX10_addAll_19 (by decide) ?_
  refine a_istore_n hB dX10_addAll_23 (by decide) ?_
  refine a_aload_n hB dX10_addAll_24 rfl ?_
  refine a_iload_n hB dX10_addAll_25 rfl ?_
  refine a_if_neN_t (tgt := 33) hB dX10_addAll_26 (by decide) (by omega) (by omega) ?_
  refine a_aload_n hB dX10_addAll_33 rfl ?_
  refine a_get (T := TX10) (ci := 10) hB dX10_addAll_34 0 fl_X10_7 lay_X10 rfl (by decide) rfl 0 rfl rfl ?_
  refine a_iconstN (v := 0) hB dX10_addAll_37 (by decide) ?_
  refine a_ialoadN hB dX10_addAll_38 1 rfl (by omega) (by decide) ?_
  refine a_aload_n hB dX10_addAll_39 rfl ?_
  refine a_get (T := TX10) (ci := 10) hB dX10_addAll_40 11 fl_X10_129 lay_X10 rfl (by decide) rfl 0 rfl rfl ?_
  refine a_iaddN hB dX10_addAll_43 ?_
  refine a_iconstN (v := 1) hB dX10_addAll_44 (by decide) ?_
  refine a_iaddN hB dX10_addAll_45 ?_
  refine a_bipushN (v := 6) hB dX10_addAll_46 (by decide) ?_
  refine a_icmp_leN_f (tgt := 55) hB dX10_addAll_48 (by decide) (by omega) (by omega) (by omega) ?_
  refine a_iconstN (v := 2) hB dX10_addAll_51 (by decide) ?_
  refine a_goto (tgt := 56) hB dX10_addAll_52 (by decide) ?_
  refine a_put (T := TX10) (ci := 10) hB dX10_addAll_56 7 fl_X10_39 lay_X10 tyX10 tyX10_ok nmX10 rfl (by decide) rfl rfl 0 rfl rfl rfl rfl (Nat.le_of_ble_eq_true rfl) ?_
  refine a_aload_n hB dX10_addAll_59 rfl ?_
  refine a_get (T := TX10) (ci := 10) hB dX10_addAll_60 7 fl_X10_39 lay_X10 rfl (by decide) rfl 0 rfl rfl ?_
  refine a_if_leN_f (tgt := 68) hB dX10_addAll_63 (by decide) (by omega) (by omega) ?_
  refine a_iconstN (v := 0) hB dX10_addAll_66 (by decide) ?_
  exact a_iret hB hE rfl dX10_addAll_67 (Nat.le_of_ble_eq_true rfl) (Nat.le_of_ble_eq_true rfl) (AKeep.of rfl) ⟨rfl, rfl⟩
def aaL (z td : Nat → Nat) (p : Nat) : Nat → Nat → Nat
  | 0 => z
  | l + 1 => uN (aaL z td p l) (11 + 6 * aaL z td p l 0 + l) (td (6 * p + l))
def aaP (z td : Nat → Nat) : Nat → Nat → Nat
  | 0 => z
  | p + 1 => uN (lpz (aaL (aaP z td p) td p 6) (aaL (aaP z td p) td p 6 0) 6) 0 (lpz (aaL (aaP z td p) td p 6) (aaL (aaP z td p) td p 6 0) 6 0 + 1)
theorem aaL_lo {z td : Nat → Nat} {p j : Nat} (h : j < 11) : ∀ l, aaL z td p l j = z j
  | 0 => rfl
  | l + 1 => by
    show (if j = 11 + 6 * aaL z td p l 0 + l then _ else aaL z td p l j) = z j
    rw [if_neg (by omega)]
    exact aaL_lo h l
theorem lpz_lo {z : Nat → Nat} {p j : Nat} (h : j < 47) : ∀ l, lpz z p l j = z j
  | 0 => rfl
  | l + 1 => by
    show (if j = 47 + 6 * p + l then _ else lpz z p l j) = z j
    rw [if_neg (by omega)]
    exact lpz_lo h l
theorem aaP_0 {z td : Nat → Nat} : ∀ p, aaP z td p 0 = z 0 + p
  | 0 => rfl
  | p + 1 => by
    show lpz (aaL (aaP z td p) td p 6) (aaL (aaP z td p) td p 6 0) 6 0 + 1 = z 0 + (p + 1)
    rw [lpz_lo (by decide), aaL_lo (by decide), aaP_0 p]
    omega
set_option maxHeartbeats 4000000 in
set_option maxRecDepth 100000 in
theorem c_X10_addAll_ok {G : GP} {ma z : Nat → Nat} {sf : Nat → UInt64} {st : Nat} {hh : Nat → Nat} {sh : Nat → UInt64} {len : Nat} {tx : Nat → Nat} {th : Nat} {wy mo td : Nat → Nat} {re lo to : Nat} {rw : Nat → Nat} {ha : Int64} {r : Nat} (hl : len ≤ 60) (hcs : ∀ i, i < len → tx i ≤ 126) (hr : r ≤ len) (h0 : ∀ i, i < r → ¬ mtA (mtK td tx i) (tx i) = 0) (hz : r < len → mtA (mtK td tx r) (tx r) = 0) (hne : r = len) (hto : ¬ (mtK td tx r).2.2.2 = 0) (h6 : z 0 ≤ 6) (hsp : z 0 + (mtK td tx r).2.1 + 1 ≤ 6) (hs : st ≤ 6) : AMd G sX10_addAll [.ref (ma 0)] (wM G ma z sf st hh sh len tx th wy mo td re lo to rw ha) (some (.int (nI (aaP (fg z 6) (mtK td tx r).1 ((mtK td tx r).2.1 + 1) 0)))) (wM G ma (aaP (fg z 6) (mtK td tx r).1 ((mtK td tx r).2.1 + 1)) (fs0 sf 4) (min (st + 1) 6) (svH z hh st) (svT sf sh st) 0 tx 0 wy mo (mtK td tx (r)).1 (mtK td tx (r)).2.1 (mtK td tx (r)).2.2.1 (mtK td tx (r)).2.2.2 rw ha) := by
  refine AM.of (σ := sX10_addAll) (by decide +kernel) (by decide +kernel) (Nat.le_of_ble_eq_true rfl) (fun B hB hR hE0 hN => ?_)
  have hE := BE.of hE0
  obtain ⟨v1, v2, v3⟩ := mtK_inv td tx r
  refine a_aload_n hB dX10_addAll_0 rfl ?_
  refine a_callVd (w2 := wM G ma z sf st hh sh len tx th wy mo (mtK td tx (r)).1 (mtK td tx (r)).2.1 (mtK td tx (r)).2.2.1 (mtK td tx (r)).2.2.2 rw ha) (q0 := 0) hB (c_X10_rightUpTo_r hl hcs hr h0 hz) mk_X10_rightUpTo ml_X10_144 dX10_addAll_1 rfl rfl [0, 1, 2, 3, 4, 5, 6, 7, 8, 9] rfl (by decide) rfl rfl (fit_of hR (by decide)) (Nat.le_of_ble_eq_true rfl) (wput_all rfl rfl) ?_
  refine a_aload_n hB dX10_addAll_4 rfl ?_
  refine a_get (T := TX10) (ci := 10) hB dX10_addAll_5 5 fl_X10_126 lay_X10 rfl (by decide) rfl 0 rfl rfl ?_
  refine a_icmp_neN_f (tgt := 22) hB dX10_addAll_8 (by decide) (by omega) (by omega) (by omega) ?_
  refine a_aload_n hB dX10_addAll_11 rfl ?_
  refine a_get (T := TX10) (ci := 10) hB dX10_addAll_12 13 fl_X10_135 lay_X10 rfl (by decide) rfl 0 rfl rfl ?_
  refine a_if_leN_f (tgt := 22) hB dX10_addAll_15 (by decide) (by omega) hto ?_
  refine a_iconstN (v := 1) hB dX10_addAll_18 (by decide) ?_
  refine a_goto (tgt := 23) hB dX10_addAll_19 (by decide) ?_
  refine a_istore_n hB dX10_addAll_23 (by decide) ?_
  refine a_aload_n hB dX10_addAll_24 rfl ?_
  refine a_iload_n hB dX10_addAll_25 rfl ?_
  refine a_if_neN_t (tgt := 33) hB dX10_addAll_26 (by decide) (by omega) (by omega) ?_
  refine a_aload_n hB dX10_addAll_33 rfl ?_
  refine a_get (T := TX10) (ci := 10) hB dX10_addAll_34 0 fl_X10_7 lay_X10 rfl (by decide) rfl 0 rfl rfl ?_
  refine a_iconstN (v := 0) hB dX10_addAll_37 (by decide) ?_
  refine a_ialoadN hB dX10_addAll_38 1 rfl (by omega) (by decide) ?_
  refine a_aload_n hB dX10_addAll_39 rfl ?_
  refine a_get (T := TX10) (ci := 10) hB dX10_addAll_40 11 fl_X10_129 lay_X10 rfl (by decide) rfl 0 rfl rfl ?_
  refine a_iaddN hB dX10_addAll_43 ?_
  refine a_iconstN (v := 1) hB dX10_addAll_44 (by decide) ?_
  refine a_iaddN hB dX10_addAll_45 ?_
  refine a_bipushN (v := 6) hB dX10_addAll_46 (by decide) ?_
  refine a_icmp_leN_t (tgt := 55) hB dX10_addAll_48 (by decide) (by omega) (by omega) (by omega) ?_
  refine a_iconstN (v := 0) hB dX10_addAll_55 (by decide) ?_
  refine a_put (T := TX10) (ci := 10) hB dX10_addAll_56 7 fl_X10_39 lay_X10 tyX10 tyX10_ok nmX10 rfl (by decide) rfl rfl 0 rfl rfl rfl rfl (Nat.le_of_ble_eq_true rfl) ?_
  refine a_aload_n hB dX10_addAll_59 rfl ?_
  refine a_get (T := TX10) (ci := 10) hB dX10_addAll_60 7 fl_X10_39 lay_X10 rfl (by decide) rfl 0 rfl rfl ?_
  refine a_if_leN_t (tgt := 68) hB dX10_addAll_63 (by decide) (by omega) (by omega) ?_
  refine a_aload_n hB dX10_addAll_68 rfl ?_
  refine a_callVd (w2 := wM G ma z sf (min (st + 1) 6) (svH z hh st) (svT sf sh st) len tx 0 wy mo (mtK td tx (r)).1 (mtK td tx (r)).2.1 (mtK td tx (r)).2.2.1 (mtK td tx (r)).2.2.2 rw ha) (q0 := 0) hB (c_X10_save (by omega)) mk_X10_save ml_X10_104 dX10_addAll_69 rfl rfl [0, 1, 2, 3, 4, 5, 6, 7, 8, 9] rfl (by decide) rfl rfl (fit_of hR (by decide)) (Nat.le_of_ble_eq_true rfl) (wput_all rfl rfl) ?_
  refine a_aload_n hB dX10_addAll_72 rfl ?_
  refine a_callVd (w2 := wM G ma (fg z 6) (fs0 sf 4) (min (st + 1) 6) (svH z hh st) (svT sf sh st) len tx 0 wy mo (mtK td tx (r)).1 (mtK td tx (r)).2.1 (mtK td tx (r)).2.2.1 (mtK td tx (r)).2.2.2 rw ha) (q0 := 0) hB (c_X10_forgets) mk_X10_forgets ml_X10_107 dX10_addAll_73 rfl rfl [0, 1, 2, 3, 4, 5, 6, 7, 8, 9] rfl (by decide) rfl rfl (fit_of hR (by decide)) (Nat.le_of_ble_eq_true rfl) (wput_all rfl rfl) ?_
  refine a_istore_n hB dX10_addAll_76 (by decide) ?_
  refine a_aload_n hB dX10_addAll_77 rfl ?_
  refine a_iconstN (v := 0) hB dX10_addAll_78 (by decide) ?_
  refine a_put (T := TX10) (ci := 10) hB dX10_addAll_79 5 fl_X10_126 lay_X10 tyX10 tyX10_ok nmX10 rfl (by decide) rfl rfl 0 rfl rfl rfl rfl (Nat.le_of_ble_eq_true rfl) ?_
  refine a_iconstN (v := 0) hB dX10_addAll_82 (by decide) ?_
  refine a_istore_n hB dX10_addAll_83 (by decide) ?_
  have lp84 : ∀ (j84 i : Nat), i + j84 = (mtK td tx r).2.1 + 1 → aW G sX10_addAll B 84 [(0, .ref (ma 0)), (1, .int (nI 1)), (2, .int (nI (z 3))), (3, .int (nI i))] [] (wM G ma (aaP (fg z 6) (mtK td tx r).1 i) (fs0 sf 4) (min (st + 1) 6) (svH z hh st) (svT sf sh st) 0 tx 0 wy mo (mtK td tx (r)).1 (mtK td tx (r)).2.1 (mtK td tx (r)).2.2.1 (mtK td tx (r)).2.2.2 rw ha) 0 0 := by
    intro j84
    induction j84 with
    | zero =>
      intro i hi
      refine a_iload_n hB dX10_addAll_84 rfl ?_
      refine a_aload_n hB dX10_addAll_85 rfl ?_
      refine a_get (T := TX10) (ci := 10) hB dX10_addAll_86 11 fl_X10_129 lay_X10 rfl (by decide) rfl 0 rfl rfl ?_
      refine a_icmp_gtN_t (tgt := 166) hB dX10_addAll_89 (by decide) (by omega) (by omega) (by omega) ?_
      refine a_aload_n hB dX10_addAll_166 rfl ?_
      refine a_get (T := TX10) (ci := 10) hB dX10_addAll_167 0 fl_X10_7 lay_X10 rfl (by decide) rfl 0 rfl rfl ?_
      refine a_iconstN (v := 0) hB dX10_addAll_170 (by decide) ?_
      refine a_ialoadN hB dX10_addAll_171 1 rfl (by omega) (by decide) ?_
      exact a_iret hB hE rfl dX10_addAll_172 (Nat.le_of_ble_eq_true rfl) (Nat.le_of_ble_eq_true rfl) (AKeep.of rfl) ⟨by rw [show i = (mtK td tx r).2.1 + 1 by omega], by rw [show i = (mtK td tx r).2.1 + 1 by omega]⟩
    | succ j84 ih84 =>
      intro i hi
      have ep : (aaP (fg z 6) (mtK td tx r).1 i) 0 = z 0 + i := aaP_0 i
      have ea : (aaL (aaP (fg z 6) (mtK td tx r).1 i) (mtK td tx r).1 i 6) 0 = z 0 + i := (aaL_lo (by decide) 6).trans ep
      refine a_iload_n hB dX10_addAll_84 rfl ?_
      refine a_aload_n hB dX10_addAll_85 rfl ?_
      refine a_get (T := TX10) (ci := 10) hB dX10_addAll_86 11 fl_X10_129 lay_X10 rfl (by decide) rfl 0 rfl rfl ?_
      refine a_icmp_gtN_f (tgt := 166) hB dX10_addAll_89 (by decide) (by omega) (by omega) (by omega) ?_
      refine a_iconstN (v := 0) hB dX10_addAll_92 (by decide) ?_
      refine a_istore hB dX10_addAll_93 (by decide) ?_
      have lp95 : ∀ (j95 u : Nat), u + j95 = 6 → aW G sX10_addAll B 95 [(0, .ref (ma 0)), (1, .int (nI 1)), (2, .int (nI (z 3))), (3, .int (nI i)), (4, .int (nI u))] [] (wM G ma (aaL (aaP (fg z 6) (mtK td tx r).1 i) (mtK td tx r).1 i u) (fs0 sf 4) (min (st + 1) 6) (svH z hh st) (svT sf sh st) 0 tx 0 wy mo (mtK td tx (r)).1 (mtK td tx (r)).2.1 (mtK td tx (r)).2.2.1 (mtK td tx (r)).2.2.2 rw ha) 0 0 := by
        intro j95
        induction j95 with
        | zero =>
          intro u hi
          obtain rfl : u = 6 := by omega
          refine a_iload hB dX10_addAll_95 rfl ?_
          refine a_bipushN (v := 6) hB dX10_addAll_97 (by decide) ?_
          refine a_icmp_geN_t (tgt := 140) hB dX10_addAll_99 (by decide) (by omega) (by omega) (by omega) ?_
          refine a_aload_n hB dX10_addAll_140 rfl ?_
          refine a_aload_n hB dX10_addAll_141 rfl ?_
          refine a_get (T := TX10) (ci := 10) hB dX10_addAll_142 0 fl_X10_7 lay_X10 rfl (by decide) rfl 0 rfl rfl ?_
          refine a_iconstN (v := 0) hB dX10_addAll_145 (by decide) ?_
          refine a_ialoadN hB dX10_addAll_146 1 rfl (by omega) (by decide) ?_
          refine a_callVd (w2 := wM G ma (lpz (aaL (aaP (fg z 6) (mtK td tx r).1 i) (mtK td tx r).1 i 6) ((aaL (aaP (fg z 6) (mtK td tx r).1 i) (mtK td tx r).1 i 6) 0) 6) (fs0 sf 4) (min (st + 1) 6) (svH z hh st) (svT sf sh st) 0 tx 0 wy mo (mtK td tx (r)).1 (mtK td tx (r)).2.1 (mtK td tx (r)).2.2.1 (mtK td tx (r)).2.2.2 rw ha) (q0 := 0) hB (c_X10_layPart (z := (aaL (aaP (fg z 6) (mtK td tx r).1 i) (mtK td tx r).1 i 6)) (p := (aaL (aaP (fg z 6) (mtK td tx r).1 i) (mtK td tx r).1 i 6) 0) (by rw [ea]; omega)) mk_X10_layPart ml_X10_110 dX10_addAll_147 rfl rfl [0, 1, 2, 3, 4, 5, 6, 7, 8, 9] rfl (by decide) rfl rfl (fit_of hR (by decide)) (Nat.le_of_ble_eq_true rfl) (wput_all rfl rfl) ?_
          refine a_aload_n hB dX10_addAll_150 rfl ?_
          refine a_get (T := TX10) (ci := 10) hB dX10_addAll_151 0 fl_X10_7 lay_X10 rfl (by decide) rfl 0 rfl rfl ?_
          refine a_iconstN (v := 0) hB dX10_addAll_154 (by decide) ?_
          refine a_dup2_11 hB dX10_addAll_155 rfl rfl ?_
          refine a_ialoadN hB dX10_addAll_156 1 rfl (by omega) (by decide) ?_
          refine a_iconstN (v := 1) hB dX10_addAll_157 (by decide) ?_
          refine a_iaddN hB dX10_addAll_158 ?_
          refine a_iastoreN hB dX10_addAll_159 1 rfl (by omega) (by decide) ?_
          refine a_iincN (b := 1) hB dX10_addAll_160 rfl (by decide) (by decide) ?_
          refine a_goto (tgt := 84) hB dX10_addAll_163 (by decide) ?_
          exact aW_at [0, 1, 2, 3] rfl rfl rfl (ih84 (i + 1) (by omega))
        | succ j95 ih95 =>
          intro u hi
          have eu : (aaL (aaP (fg z 6) (mtK td tx r).1 i) (mtK td tx r).1 i u) 0 = z 0 + i := (aaL_lo (by decide) u).trans ep
          refine a_iload hB dX10_addAll_95 rfl ?_
          refine a_bipushN (v := 6) hB dX10_addAll_97 (by decide) ?_
          refine a_icmp_geN_f (tgt := 140) hB dX10_addAll_99 (by decide) (by omega) (by omega) (by omega) ?_
          refine a_aload_n hB dX10_addAll_102 rfl ?_
          refine a_get (T := TX10) (ci := 10) hB dX10_addAll_103 0 fl_X10_7 lay_X10 rfl (by decide) rfl 0 rfl rfl ?_
          refine a_bipushN (v := 11) hB dX10_addAll_106 (by decide) ?_
          refine a_bipushN (v := 6) hB dX10_addAll_108 (by decide) ?_
          refine a_aload_n hB dX10_addAll_110 rfl ?_
          refine a_get (T := TX10) (ci := 10) hB dX10_addAll_111 0 fl_X10_7 lay_X10 rfl (by decide) rfl 0 rfl rfl ?_
          refine a_iconstN (v := 0) hB dX10_addAll_114 (by decide) ?_
          refine a_ialoadN hB dX10_addAll_115 1 rfl (by omega) (by decide) ?_
          refine a_imulN hB dX10_addAll_116 ?_
          refine a_iaddN hB dX10_addAll_117 ?_
          refine a_iload hB dX10_addAll_118 rfl ?_
          refine a_iaddN hB dX10_addAll_120 ?_
          refine a_aload_n hB dX10_addAll_121 rfl ?_
          refine a_get (T := TX10) (ci := 10) hB dX10_addAll_122 10 fl_X10_33 lay_X10 rfl (by decide) rfl 0 rfl rfl ?_
          refine a_bipushN (v := 6) hB dX10_addAll_125 (by decide) ?_
          refine a_iload_n hB dX10_addAll_127 rfl ?_
          refine a_imulN hB dX10_addAll_128 ?_
          refine a_iload hB dX10_addAll_129 rfl ?_
          refine a_iaddN hB dX10_addAll_131 ?_
          refine a_ialoadN hB dX10_addAll_132 8 rfl (by omega) (by decide) ?_
          refine a_iastoreN hB dX10_addAll_133 1 rfl (by rw [eu]; omega) (by decide) ?_
          refine a_iincN (b := 1) hB dX10_addAll_134 rfl (by decide) (by decide) ?_
          refine a_goto (tgt := 95) hB dX10_addAll_137 (by decide) ?_
          exact aW_at [0, 1, 2, 3, 4] rfl rfl rfl (ih95 (u + 1) (by omega))
      exact aW_at [0, 1, 2, 3, 4] rfl rfl rfl (lp95 (6) 0 (by omega))
  exact aW_at [0, 1, 2, 3] rfl rfl rfl (lp84 ((mtK td tx r).2.1 + 1) 0 (by omega))
/-- a row's sum and correction, up to part i -/
def crS (P : PV) (r : Nat → Nat) : Nat → Nat × UInt64
  | 0 => (0, FP.dconst1)
  | i + 1 => ((crS P r i).1 + r i, corr (crS P r i).2 (gt P.wt i (r i)) (tot P.tl i) (tot P.wt i) (gt P.tl i (r i)))
def crF (P : PV) (r : Nat → Nat) : Nat := lfr (fun i => gt P.wt i (r i) = 0) P.parts 0
/-- the correction of a row; 0.0 if it has no way, or isn't asked for -/
def crV (P : PV) (r : Nat → Nat) (b : Nat) : UInt64 := if crF P r < P.parts then FP.dconst0 else if b = 1 ∧ (crS P r P.parts).1 < P.limit then FP.dconst0 else (crS P r P.parts).2
def PV.crOK (P : PV) : Prop := ∀ (r : Nat → Nat) (i : Nat), i < P.parts → (∀ j, j ≤ i → r j < 6) → (∀ j, j ≤ i → ¬ gt P.wt j (r j) = 0) → corrOK (crS P r i).2 (gt P.wt i (r i)) (tot P.tl i) (tot P.wt i) (gt P.tl i (r i))
theorem crS_le {P : PV} {r : Nat → Nat} {n : Nat} (h : ∀ i, i < n → r i < 6) : ∀ i, i ≤ n → (crS P r i).1 ≤ 5 * i
  | 0, _ => Nat.zero_le _
  | i + 1, q => by
    have h1 := crS_le (P := P) h i (by omega)
    have h2 := h i (by omega)
    show (crS P r i).1 + r i ≤ _
    omega
set_option maxHeartbeats 4000000 in
set_option maxRecDepth 100000 in
theorem c_X10_correctionOf_0 {G : GP} {ma z : Nat → Nat} {sf : Nat → UInt64} {st : Nat} {hh : Nat → Nat} {sh : Nat → UInt64} {len : Nat} {tx : Nat → Nat} {th : Nat} {wy mo td : Nat → Nat} {re lo to : Nat} {rw : Nat → Nat} {ha : Int64} {b : Nat} (hb : b ≤ 1) (hl : z 1 ≤ 99) (h6 : z 0 ≤ 6) (hw : ∀ p l, p < 6 → l < 6 → gt (wq z) p l ≤ 9) (hr : ∀ i, i < z 0 → rw i < 6) (hc : (ZP z sf).crOK) {r : Nat} (hr0 : r < z 0) (hn0 : ∀ j, j < r → ¬ gt (wq z) j (rw j) = 0) (hz : gt (wq z) r (rw r) = 0) : AMd G sX10_correctionOf [.ref (ma 0), .int (nI b)] (wM G ma z sf st hh sh len tx th wy mo td re lo to rw ha) (some (.double FP.dconst0)) (wM G ma z sf st hh sh len tx th wy mo td re lo to rw ha) := by
  refine AM.of (σ := sX10_correctionOf) (by decide +kernel) (by decide +kernel) (Nat.le_of_ble_eq_true rfl) (fun B hB hR hE0 hN => ?_)
  have hE := BE.of hE0
  refine a_iconstN (v := 0) hB dX10_correctionOf_0 (by decide) ?_
  refine a_istore_n hB dX10_correctionOf_1 (by decide) ?_
  refine a_dconst1 hB dX10_correctionOf_2 ?_
  refine a_dstore_n hB dX10_correctionOf_3 (by decide) ?_
  refine a_iconstN (v := 0) hB dX10_correctionOf_4 (by decide) ?_
  refine a_istore hB dX10_correctionOf_5 (by decide) ?_
  have lp7 : ∀ (j7 i : Nat), i + j7 = r → aW G sX10_correctionOf B 7 [(0, .ref (ma 0)), (1, .int (nI b)), (2, .int (nI (crS (ZP z sf) rw i).1)), (3, .double (crS (ZP z sf) rw i).2), (5, .int (nI i))] [] (wM G ma z sf st hh sh len tx th wy mo td re lo to rw ha) 0 0 := by
    intro j7
    induction j7 with
    | zero =>
      intro i hi
      obtain rfl : i = r := by omega
      have hi0 : i < z 0 := hr0
      have hri := hr i hi0
      have hgw := hw i (rw i) (by omega) hri
      refine a_iload hB dX10_correctionOf_7 rfl ?_
      refine a_aload_n hB dX10_correctionOf_9 rfl ?_
      refine a_get (T := TX10) (ci := 10) hB dX10_correctionOf_10 0 fl_X10_7 lay_X10 rfl (by decide) rfl 0 rfl rfl ?_
      refine a_iconstN (v := 0) hB dX10_correctionOf_13 (by decide) ?_
      refine a_ialoadN hB dX10_correctionOf_14 1 rfl (by omega) (by decide) ?_
      refine a_icmp_geN_f (tgt := 67) hB dX10_correctionOf_15 (by decide) (by omega) (by omega) (by omega) ?_
      refine a_aload_n hB dX10_correctionOf_18 rfl ?_
      refine a_iload hB dX10_correctionOf_19 rfl ?_
      refine a_aload_n hB dX10_correctionOf_21 rfl ?_
      refine a_get (T := TX10) (ci := 10) hB dX10_correctionOf_22 14 fl_X10_36 lay_X10 rfl (by decide) rfl 0 rfl rfl ?_
      refine a_iload hB dX10_correctionOf_25 rfl ?_
      refine a_ialoadN hB dX10_correctionOf_27 9 rfl (by omega) (by decide) ?_
      refine a_callVr (q0 := 0) hB (c_X10_weightOf (p := i) (l := rw i) (by omega) hri) mk_X10_weightOf ml_X10_50 dX10_correctionOf_28 rfl rfl [0, 1, 2, 3, 4, 5, 6, 7, 8, 9] rfl (by decide) rfl rfl (fit_of hR (by decide)) (Nat.le_of_ble_eq_true rfl) ?_
      refine a_if_neN_f (tgt := 36) hB dX10_correctionOf_31 (by decide) (by omega) hz ?_
      refine a_dconst0 hB dX10_correctionOf_34 ?_
      exact a_dret hB hE rfl dX10_correctionOf_35 (Nat.le_of_ble_eq_true rfl) (Nat.le_of_ble_eq_true rfl) (AKeep.of rfl) ⟨rfl, rfl⟩
    | succ j7 ih7 =>
      intro i hi
      have hi0 : i < z 0 := by omega
      have hri := hr i hi0
      have hgw := hw i (rw i) (by omega) hri
      refine a_iload hB dX10_correctionOf_7 rfl ?_
      refine a_aload_n hB dX10_correctionOf_9 rfl ?_
      refine a_get (T := TX10) (ci := 10) hB dX10_correctionOf_10 0 fl_X10_7 lay_X10 rfl (by decide) rfl 0 rfl rfl ?_
      refine a_iconstN (v := 0) hB dX10_correctionOf_13 (by decide) ?_
      refine a_ialoadN hB dX10_correctionOf_14 1 rfl (by omega) (by decide) ?_
      refine a_icmp_geN_f (tgt := 67) hB dX10_correctionOf_15 (by decide) (by omega) (by omega) (by omega) ?_
      refine a_aload_n hB dX10_correctionOf_18 rfl ?_
      refine a_iload hB dX10_correctionOf_19 rfl ?_
      refine a_aload_n hB dX10_correctionOf_21 rfl ?_
      refine a_get (T := TX10) (ci := 10) hB dX10_correctionOf_22 14 fl_X10_36 lay_X10 rfl (by decide) rfl 0 rfl rfl ?_
      refine a_iload hB dX10_correctionOf_25 rfl ?_
      refine a_ialoadN hB dX10_correctionOf_27 9 rfl (by omega) (by decide) ?_
      refine a_callVr (q0 := 0) hB (c_X10_weightOf (p := i) (l := rw i) (by omega) hri) mk_X10_weightOf ml_X10_50 dX10_correctionOf_28 rfl rfl [0, 1, 2, 3, 4, 5, 6, 7, 8, 9] rfl (by decide) rfl rfl (fit_of hR (by decide)) (Nat.le_of_ble_eq_true rfl) ?_
      refine a_if_neN_t (tgt := 36) hB dX10_correctionOf_31 (by decide) (by omega) (hn0 i (by omega)) ?_
      refine a_iload_n hB dX10_correctionOf_36 rfl ?_
      refine a_aload_n hB dX10_correctionOf_37 rfl ?_
      refine a_get (T := TX10) (ci := 10) hB dX10_correctionOf_38 14 fl_X10_36 lay_X10 rfl (by decide) rfl 0 rfl rfl ?_
      refine a_iload hB dX10_correctionOf_41 rfl ?_
      refine a_ialoadN hB dX10_correctionOf_43 9 rfl (by omega) (by decide) ?_
      refine a_iaddN hB dX10_correctionOf_44 ?_
      refine a_istore_n hB dX10_correctionOf_45 (by decide) ?_
      refine a_aload_n hB dX10_correctionOf_46 rfl ?_
      refine a_dload_n hB dX10_correctionOf_47 rfl ?_
      refine a_iload hB dX10_correctionOf_48 rfl ?_
      refine a_aload_n hB dX10_correctionOf_50 rfl ?_
      refine a_get (T := TX10) (ci := 10) hB dX10_correctionOf_51 14 fl_X10_36 lay_X10 rfl (by decide) rfl 0 rfl rfl ?_
      refine a_iload hB dX10_correctionOf_54 rfl ?_
      refine a_ialoadN hB dX10_correctionOf_56 9 rfl (by omega) (by decide) ?_
      refine a_callVr (q0 := 0) hB (c_X10_corrected (c := (crS (ZP z sf) rw i).2) (p := i) (l := rw i) (by omega) hri (hc rw i hi0 (fun j hj => hr j (by omega)) (fun j hj => hn0 j (by omega)))) mk_X10_corrected ml_X10_74 dX10_correctionOf_57 rfl rfl [0, 1, 2, 3, 4, 5, 6, 7, 8, 9] rfl (by decide) rfl rfl (fit_of hR (by decide)) (Nat.le_of_ble_eq_true rfl) ?_
      refine a_dstore_n hB dX10_correctionOf_60 (by decide) ?_
      refine a_iincN (b := 1) hB dX10_correctionOf_61 rfl (by decide) (by decide) ?_
      refine a_goto (tgt := 7) hB dX10_correctionOf_64 (by decide) ?_
      exact aW_at [0, 1, 2, 3, 4] rfl rfl rfl (ih7 (i + 1) (by omega))
  exact aW_at [0, 1, 2, 3, 4] rfl rfl rfl (lp7 (r) 0 (by omega))
set_option maxHeartbeats 4000000 in
set_option maxRecDepth 100000 in
theorem c_X10_correctionOf_n {G : GP} {ma z : Nat → Nat} {sf : Nat → UInt64} {st : Nat} {hh : Nat → Nat} {sh : Nat → UInt64} {len : Nat} {tx : Nat → Nat} {th : Nat} {wy mo td : Nat → Nat} {re lo to : Nat} {rw : Nat → Nat} {ha : Int64} {b : Nat} (hb : b ≤ 1) (hl : z 1 ≤ 99) (h6 : z 0 ≤ 6) (hw : ∀ p l, p < 6 → l < 6 → gt (wq z) p l ≤ 9) (hr : ∀ i, i < z 0 → rw i < 6) (hc : (ZP z sf).crOK) (hn0 : ∀ j, j < z 0 → ¬ gt (wq z) j (rw j) = 0) : AMd G sX10_correctionOf [.ref (ma 0), .int (nI b)] (wM G ma z sf st hh sh len tx th wy mo td re lo to rw ha) (some (.double (if b = 1 ∧ (crS (ZP z sf) rw (z 0)).1 < z 1 then FP.dconst0 else (crS (ZP z sf) rw (z 0)).2))) (wM G ma z sf st hh sh len tx th wy mo td re lo to rw ha) := by
  refine AM.of (σ := sX10_correctionOf) (by decide +kernel) (by decide +kernel) (Nat.le_of_ble_eq_true rfl) (fun B hB hR hE0 hN => ?_)
  have hE := BE.of hE0
  refine a_iconstN (v := 0) hB dX10_correctionOf_0 (by decide) ?_
  refine a_istore_n hB dX10_correctionOf_1 (by decide) ?_
  refine a_dconst1 hB dX10_correctionOf_2 ?_
  refine a_dstore_n hB dX10_correctionOf_3 (by decide) ?_
  refine a_iconstN (v := 0) hB dX10_correctionOf_4 (by decide) ?_
  refine a_istore hB dX10_correctionOf_5 (by decide) ?_
  have lp7 : ∀ (j7 i : Nat), i + j7 = z 0 → aW G sX10_correctionOf B 7 [(0, .ref (ma 0)), (1, .int (nI b)), (2, .int (nI (crS (ZP z sf) rw i).1)), (3, .double (crS (ZP z sf) rw i).2), (5, .int (nI i))] [] (wM G ma z sf st hh sh len tx th wy mo td re lo to rw ha) 0 0 := by
    intro j7
    induction j7 with
    | zero =>
      intro i hi
      obtain rfl : i = z 0 := by omega
      have hsm := crS_le (P := ZP z sf) (r := rw) hr (z 0) (Nat.le_refl _)
      refine a_iload hB dX10_correctionOf_7 rfl ?_
      refine a_aload_n hB dX10_correctionOf_9 rfl ?_
      refine a_get (T := TX10) (ci := 10) hB dX10_correctionOf_10 0 fl_X10_7 lay_X10 rfl (by decide) rfl 0 rfl rfl ?_
      refine a_iconstN (v := 0) hB dX10_correctionOf_13 (by decide) ?_
      refine a_ialoadN hB dX10_correctionOf_14 1 rfl (by omega) (by decide) ?_
      refine a_icmp_geN_t (tgt := 67) hB dX10_correctionOf_15 (by decide) (by omega) (by omega) (by omega) ?_
      refine a_iload_n hB dX10_correctionOf_67 rfl ?_
      refine a_if_eqN (tgt := 85) hB dX10_correctionOf_68 (by decide) (by omega) (fun c68 => ?_) (fun c68 => ?_)
      · refine a_dload_n hB dX10_correctionOf_85 rfl ?_
        exact a_dret hB hE rfl dX10_correctionOf_86 (Nat.le_of_ble_eq_true rfl) (Nat.le_of_ble_eq_true rfl) (AKeep.of rfl) ⟨by first | rfl | (rw [if_neg (by omega)]) | (rw [if_pos (by omega)]), rfl⟩
      · refine a_iload_n hB dX10_correctionOf_71 rfl ?_
        refine a_aload_n hB dX10_correctionOf_72 rfl ?_
        refine a_get (T := TX10) (ci := 10) hB dX10_correctionOf_73 0 fl_X10_7 lay_X10 rfl (by decide) rfl 0 rfl rfl ?_
        refine a_iconstN (v := 1) hB dX10_correctionOf_76 (by decide) ?_
        refine a_ialoadN hB dX10_correctionOf_77 1 rfl (by omega) (by decide) ?_
        refine a_icmp_geN (tgt := 85) hB dX10_correctionOf_78 (by decide) (by omega) (by omega) (fun c78 => ?_) (fun c78 => ?_)
        · refine a_dload_n hB dX10_correctionOf_85 rfl ?_
          exact a_dret hB hE rfl dX10_correctionOf_86 (Nat.le_of_ble_eq_true rfl) (Nat.le_of_ble_eq_true rfl) (AKeep.of rfl) ⟨by first | rfl | (rw [if_neg (by omega)]) | (rw [if_pos (by omega)]), rfl⟩
        · refine a_dconst0 hB dX10_correctionOf_81 ?_
          refine a_goto (tgt := 86) hB dX10_correctionOf_82 (by decide) ?_
          exact a_dret hB hE rfl dX10_correctionOf_86 (Nat.le_of_ble_eq_true rfl) (Nat.le_of_ble_eq_true rfl) (AKeep.of rfl) ⟨by first | rfl | (rw [if_neg (by omega)]) | (rw [if_pos (by omega)]), rfl⟩
    | succ j7 ih7 =>
      intro i hi
      have hi0 : i < z 0 := by omega
      have hri := hr i hi0
      have hgw := hw i (rw i) (by omega) hri
      refine a_iload hB dX10_correctionOf_7 rfl ?_
      refine a_aload_n hB dX10_correctionOf_9 rfl ?_
      refine a_get (T := TX10) (ci := 10) hB dX10_correctionOf_10 0 fl_X10_7 lay_X10 rfl (by decide) rfl 0 rfl rfl ?_
      refine a_iconstN (v := 0) hB dX10_correctionOf_13 (by decide) ?_
      refine a_ialoadN hB dX10_correctionOf_14 1 rfl (by omega) (by decide) ?_
      refine a_icmp_geN_f (tgt := 67) hB dX10_correctionOf_15 (by decide) (by omega) (by omega) (by omega) ?_
      refine a_aload_n hB dX10_correctionOf_18 rfl ?_
      refine a_iload hB dX10_correctionOf_19 rfl ?_
      refine a_aload_n hB dX10_correctionOf_21 rfl ?_
      refine a_get (T := TX10) (ci := 10) hB dX10_correctionOf_22 14 fl_X10_36 lay_X10 rfl (by decide) rfl 0 rfl rfl ?_
      refine a_iload hB dX10_correctionOf_25 rfl ?_
      refine a_ialoadN hB dX10_correctionOf_27 9 rfl (by omega) (by decide) ?_
      refine a_callVr (q0 := 0) hB (c_X10_weightOf (p := i) (l := rw i) (by omega) hri) mk_X10_weightOf ml_X10_50 dX10_correctionOf_28 rfl rfl [0, 1, 2, 3, 4, 5, 6, 7, 8, 9] rfl (by decide) rfl rfl (fit_of hR (by decide)) (Nat.le_of_ble_eq_true rfl) ?_
      refine a_if_neN_t (tgt := 36) hB dX10_correctionOf_31 (by decide) (by omega) (hn0 i (by omega)) ?_
      refine a_iload_n hB dX10_correctionOf_36 rfl ?_
      refine a_aload_n hB dX10_correctionOf_37 rfl ?_
      refine a_get (T := TX10) (ci := 10) hB dX10_correctionOf_38 14 fl_X10_36 lay_X10 rfl (by decide) rfl 0 rfl rfl ?_
      refine a_iload hB dX10_correctionOf_41 rfl ?_
      refine a_ialoadN hB dX10_correctionOf_43 9 rfl (by omega) (by decide) ?_
      refine a_iaddN hB dX10_correctionOf_44 ?_
      refine a_istore_n hB dX10_correctionOf_45 (by decide) ?_
      refine a_aload_n hB dX10_correctionOf_46 rfl ?_
      refine a_dload_n hB dX10_correctionOf_47 rfl ?_
      refine a_iload hB dX10_correctionOf_48 rfl ?_
      refine a_aload_n hB dX10_correctionOf_50 rfl ?_
      refine a_get (T := TX10) (ci := 10) hB dX10_correctionOf_51 14 fl_X10_36 lay_X10 rfl (by decide) rfl 0 rfl rfl ?_
      refine a_iload hB dX10_correctionOf_54 rfl ?_
      refine a_ialoadN hB dX10_correctionOf_56 9 rfl (by omega) (by decide) ?_
      refine a_callVr (q0 := 0) hB (c_X10_corrected (c := (crS (ZP z sf) rw i).2) (p := i) (l := rw i) (by omega) hri (hc rw i hi0 (fun j hj => hr j (by omega)) (fun j hj => hn0 j (by omega)))) mk_X10_corrected ml_X10_74 dX10_correctionOf_57 rfl rfl [0, 1, 2, 3, 4, 5, 6, 7, 8, 9] rfl (by decide) rfl rfl (fit_of hR (by decide)) (Nat.le_of_ble_eq_true rfl) ?_
      refine a_dstore_n hB dX10_correctionOf_60 (by decide) ?_
      refine a_iincN (b := 1) hB dX10_correctionOf_61 rfl (by decide) (by decide) ?_
      refine a_goto (tgt := 7) hB dX10_correctionOf_64 (by decide) ?_
      exact aW_at [0, 1, 2, 3, 4] rfl rfl rfl (ih7 (i + 1) (by omega))
  exact aW_at [0, 1, 2, 3, 4] rfl rfl rfl (lp7 (z 0) 0 (by omega))
theorem c_X10_correctionOf {G : GP} {ma z : Nat → Nat} {sf : Nat → UInt64} {st : Nat} {hh : Nat → Nat} {sh : Nat → UInt64} {len : Nat} {tx : Nat → Nat} {th : Nat} {wy mo td : Nat → Nat} {re lo to : Nat} {rw : Nat → Nat} {ha : Int64} {b : Nat} (hb : b ≤ 1) (hl : z 1 ≤ 99) (h6 : z 0 ≤ 6) (hw : ∀ p l, p < 6 → l < 6 → gt (wq z) p l ≤ 9) (hr : ∀ i, i < z 0 → rw i < 6) (hc : (ZP z sf).crOK) : AMd G sX10_correctionOf [.ref (ma 0), .int (nI b)] (wM G ma z sf st hh sh len tx th wy mo td re lo to rw ha) (some (.double (crV (ZP z sf) rw b))) (wM G ma z sf st hh sh len tx th wy mo td re lo to rw ha) := by
  obtain ⟨-, a, c, d⟩ := lfr_spec (fun i => gt (wq z) i (rw i) = 0) (z 0) 0
  unfold crV
  by_cases h : crF (ZP z sf) rw < (ZP z sf).parts
  · rw [if_pos h]
    exact c_X10_correctionOf_0 hb hl h6 hw hr hc h (fun j hj => d j (Nat.zero_le _) hj) (c (by have : lfr (fun i => gt (wq z) i (rw i) = 0) (z 0) 0 < z 0 := h; omega))
  · rw [if_neg h]
    exact c_X10_correctionOf_n hb hl h6 hw hr hc (fun j hj => d j (Nat.zero_le _) (by have : ¬ lfr (fun i => gt (wq z) i (rw i) = 0) (z 0) 0 < z 0 := h; omega))
