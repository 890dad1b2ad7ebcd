set_option maxHeartbeats 4000000 in
set_option maxRecDepth 100000 in
theorem c_X10_removePart_ok {G : GP} {ma z : Nat → Nat} {sf : Nat → UInt64} {st : Nat} {hh : Nat → Nat} {sh : Nat → UInt64} {len : Nat} {tx : Nat → Nat} {th : Nat} {wy mo td : Nat → Nat} {re lo to : Nat} {rw : Nat → Nat} {ha : Int64} {p : Nat} (hp : p < z 0) (h6 : z 0 ≤ 6) (hs : st ≤ 6) : AMd G sX10_removePart [.ref (ma 0), .int (nI p)] (wM G ma z sf st hh sh len tx th wy mo td re lo to rw ha) (some (.int (nI (z 0 - 1)))) (wM G ma (rmF (rmF (uN (fg z 6) 0 (fg z 6 0 - 1)) (11 + 6 * p) (6 * (z 0 - 1) - 6 * p)) (47 + 6 * p) (6 * (z 0 - 1) - 6 * p)) (fs0 sf 4) (min (st + 1) 6) (svH z hh st) (svT sf sh st) len tx 0 wy mo td re lo to rw ha) := by
  refine AM.of (σ := sX10_removePart) (by decide +kernel) (by decide +kernel) (Nat.le_of_ble_eq_true rfl) (fun B hB hR hE0 hN => ?_)
  have hE := BE.of hE0
  have e2 : (rmF (uN (fg z 6) 0 (fg z 6 0 - 1)) (11 + 6 * p) (6 * (z 0 - 1) - 6 * p)) 0 = z 0 - 1 := rmF_0 _ (by omega) _
  have e3 : (rmF (rmF (uN (fg z 6) 0 (fg z 6 0 - 1)) (11 + 6 * p) (6 * (z 0 - 1) - 6 * p)) (47 + 6 * p) (6 * (z 0 - 1) - 6 * p)) 0 = z 0 - 1 := (rmF_0 _ (by omega) _).trans e2
  refine a_aload_n hB dX10_removePart_0 rfl ?_
  refine a_aload_n hB dX10_removePart_1 rfl ?_
  refine a_iload_n hB dX10_removePart_2 rfl ?_
  refine a_callVr (q0 := 0) hB (c_X10_isPart_N hp h6) mk_X10_isPart ml_X10_113 dX10_removePart_3 rfl rfl [0, 1, 2, 3, 4, 5, 6, 7, 8, 9] rfl (by decide) rfl rfl (fit_of hR (by decide)) (Nat.le_of_ble_eq_true rfl) ?_
  refine a_if_eqN_f (tgt := 13) hB dX10_removePart_6 (by decide) (by omega) (by omega) ?_
  refine a_iconstN (v := 0) hB dX10_removePart_9 (by decide) ?_
  refine a_goto (tgt := 14) hB dX10_removePart_10 (by decide) ?_
  refine a_put (T := TX10) (ci := 10) hB dX10_removePart_14 7 fl_X10_39 lay_X10 tyX10 tyX10_ok nmX10 rfl (by decide) rfl rfl 0 rfl rfl rfl rfl (Nat.le_of_ble_eq_true rfl) ?_
  refine a_aload_n hB dX10_removePart_17 rfl ?_
  refine a_get (T := TX10) (ci := 10) hB dX10_removePart_18 7 fl_X10_39 lay_X10 rfl (by decide) rfl 0 rfl rfl ?_
  refine a_if_leN_t (tgt := 26) hB dX10_removePart_21 (by decide) (by omega) (by omega) ?_
  refine a_aload_n hB dX10_removePart_26 rfl ?_
  refine a_callVd (w2 := wM G ma z sf (min (st + 1) 6) (svH z hh st) (svT sf sh st) len tx 0 wy mo td re lo to rw ha) (q0 := 0) hB (c_X10_save (by omega)) mk_X10_save ml_X10_104 dX10_removePart_27 rfl rfl [0, 1, 2, 3, 4, 5, 6, 7, 8, 9] rfl (by decide) rfl rfl (fit_of hR (by decide)) (Nat.le_of_ble_eq_true rfl) (wput_all rfl rfl) ?_
  refine a_aload_n hB dX10_removePart_30 rfl ?_
  refine a_callVd (w2 := wM G ma (fg z 6) (fs0 sf 4) (min (st + 1) 6) (svH z hh st) (svT sf sh st) len tx 0 wy mo td re lo to rw ha) (q0 := 0) hB (c_X10_forgets) mk_X10_forgets ml_X10_107 dX10_removePart_31 rfl rfl [0, 1, 2, 3, 4, 5, 6, 7, 8, 9] rfl (by decide) rfl rfl (fit_of hR (by decide)) (Nat.le_of_ble_eq_true rfl) (wput_all rfl rfl) ?_
  refine a_istore_n hB dX10_removePart_34 (by decide) ?_
  refine a_aload_n hB dX10_removePart_35 rfl ?_
  refine a_get (T := TX10) (ci := 10) hB dX10_removePart_36 0 fl_X10_7 lay_X10 rfl (by decide) rfl 0 rfl rfl ?_
  refine a_iconstN (v := 0) hB dX10_removePart_39 (by decide) ?_
  refine a_dup2_11 hB dX10_removePart_40 rfl rfl ?_
  refine a_ialoadN hB dX10_removePart_41 1 rfl (by omega) (by decide) ?_
  refine a_iconstN (v := 1) hB dX10_removePart_42 (by decide) ?_
  refine a_isubN hB dX10_removePart_43 (by show 1 ≤ z 0; omega) ?_
  refine a_iastoreN hB dX10_removePart_44 1 rfl (by omega) (by decide) ?_
  refine a_aload_n hB dX10_removePart_45 rfl ?_
  refine a_bipushN (v := 11) hB dX10_removePart_46 (by decide) ?_
  refine a_iload_n hB dX10_removePart_48 rfl ?_
  refine a_callVd (w2 := wM G ma (rmF (uN (fg z 6) 0 (fg z 6 0 - 1)) (11 + 6 * p) (6 * (z 0 - 1) - 6 * p)) (fs0 sf 4) (min (st + 1) 6) (svH z hh st) (svT sf sh st) len tx 0 wy mo td re lo to rw ha) (q0 := 0) hB (c_X10_removeFrom (z := (uN (fg z 6) 0 (fg z 6 0 - 1))) (a := 11) (p := p) (by omega) (by omega) (by show p ≤ z 0 - 1; omega) (by show z 0 - 1 ≤ 5; omega)) mk_X10_removeFrom ml_X10_116 dX10_removePart_49 rfl rfl [0, 1, 2, 3, 4, 5, 6, 7, 8, 9] rfl (by decide) rfl rfl (fit_of hR (by decide)) (Nat.le_of_ble_eq_true rfl) (wput_all rfl rfl) ?_
  refine a_aload_n hB dX10_removePart_52 rfl ?_
  refine a_bipushN (v := 47) hB dX10_removePart_53 (by decide) ?_
  refine a_iload_n hB dX10_removePart_55 rfl ?_
  refine a_callVd (w2 := wM G ma (rmF (rmF (uN (fg z 6) 0 (fg z 6 0 - 1)) (11 + 6 * p) (6 * (z 0 - 1) - 6 * p)) (47 + 6 * p) (6 * (rmF (uN (fg z 6) 0 (fg z 6 0 - 1)) (11 + 6 * p) (6 * (z 0 - 1) - 6 * p)) 0 - 6 * p)) (fs0 sf 4) (min (st + 1) 6) (svH z hh st) (svT sf sh st) len tx 0 wy mo td re lo to rw ha) (q0 := 0) hB (c_X10_removeFrom (z := (rmF (uN (fg z 6) 0 (fg z 6 0 - 1)) (11 + 6 * p) (6 * (z 0 - 1) - 6 * p))) (a := 47) (p := p) (by omega) (by omega) (by rw [e2]; omega) (by rw [e2]; omega)) mk_X10_removeFrom ml_X10_116 dX10_removePart_56 rfl rfl [0, 1, 2, 3, 4, 5, 6, 7, 8, 9] rfl (by decide) rfl rfl (fit_of hR (by decide)) (Nat.le_of_ble_eq_true rfl) (wput_all rfl rfl) ?_
  rw [e2]
  refine a_aload_n hB dX10_removePart_59 rfl ?_
  refine a_get (T := TX10) (ci := 10) hB dX10_removePart_60 0 fl_X10_7 lay_X10 rfl (by decide) rfl 0 rfl rfl ?_
  refine a_iconstN (v := 0) hB dX10_removePart_63 (by decide) ?_
  refine a_ialoadN hB dX10_removePart_64 1 rfl (by omega) (by decide) ?_
  exact a_iret hB hE rfl dX10_removePart_65 (Nat.le_of_ble_eq_true rfl) (Nat.le_of_ble_eq_true rfl) (AKeep.of rfl) ⟨by rw [e3], rfl⟩
theorem sumN_ge {f : Nat → Nat} : ∀ {n l : Nat}, l < n → f l ≤ sumN f n
  | 0, l, h => absurd h (Nat.not_lt_zero l)
  | n + 1, l, h => by
    show f l ≤ sumN f n + f n
    rcases Nat.lt_or_ge l n with q | q
    · exact Nat.le_trans (sumN_ge q) (Nat.le_add_right _ _)
    · rw [show l = n by omega]; exact Nat.le_add_left _ _
theorem gt_tot {w : Nat → Nat} {p l : Nat} (h : l < 6) : gt w p l ≤ tot w p := sumN_ge (f := fun l => gt w p l) h
theorem fg_wq (z : Nat → Nat) (p l : Nat) : gt (wq (fg z 6)) p l = gt (wq z) p l := by
  unfold gt wq
  split
  · show (if 11 + (p * 6 + l) = 10 then _ else if 11 + (p * 6 + l) = 9 then _ else if 11 + (p * 6 + l) = 8 then _ else if 11 + (p * 6 + l) = 7 then _ else if 11 + (p * 6 + l) = 6 then _ else if 11 + (p * 6 + l) = 5 then _ else if 11 + (p * 6 + l) = 4 then _ else if 11 + (p * 6 + l) = 3 then _ else z (11 + (p * 6 + l))) = z (11 + (p * 6 + l))
    repeat rw [if_neg (by omega)]
  · rfl
theorem fg_tq (z : Nat → Nat) (p l : Nat) : gt (tq (fg z 6)) p l = gt (tq z) p l := by
  unfold gt tq
  split
  · show (if 47 + (p * 6 + l) = 10 then _ else if 47 + (p * 6 + l) = 9 then _ else if 47 + (p * 6 + l) = 8 then _ else if 47 + (p * 6 + l) = 7 then _ else if 47 + (p * 6 + l) = 6 then _ else if 47 + (p * 6 + l) = 5 then _ else if 47 + (p * 6 + l) = 4 then _ else if 47 + (p * 6 + l) = 3 then _ else z (47 + (p * 6 + l))) = z (47 + (p * 6 + l))
    repeat rw [if_neg (by omega)]
  · rfl
set_option maxHeartbeats 4000000 in
set_option maxRecDepth 100000 in
theorem c_X10_tilt_ok {G : GP} {ma z : Nat → Nat} {sf : Nat → UInt64} {st : Nat} {hh : Nat → Nat} {sh : Nat → UInt64} {len : Nat} {tx : Nat → Nat} {th : Nat} {wy mo td : Nat → Nat} {re lo to : Nat} {rw : Nat → Nat} {ha : Int64} {p l v : Nat} (hp : p < z 0) (h6 : z 0 ≤ 6) (hl : l ≤ 5) (h1 : 1 ≤ v) (hv : v ≤ 99) (hw : gt (wq z) p l ≤ 9) (hz : ¬ gt (wq z) p l = 0) (hs : st ≤ 6) : AMd G sX10_tilt [.ref (ma 0), .int (nI p), .int (nI l), .int (nI v)] (wM G ma z sf st hh sh len tx th wy mo td re lo to rw ha) (some (.int (nI (gt (tq (fg z 6)) p l)))) (wM G ma (uN (fg z 6) (47 + 6 * p + l) v) (fs0 sf 4) (min (st + 1) 6) (svH z hh st) (svT sf sh st) len tx 0 wy mo td re lo to rw ha) := by
  refine AM.of (σ := sX10_tilt) (by decide +kernel) (by decide +kernel) (Nat.le_of_ble_eq_true rfl) (fun B hB hR hE0 hN => ?_)
  have hE := BE.of hE0
  refine a_aload_n hB dX10_tilt_0 rfl ?_
  refine a_aload_n hB dX10_tilt_1 rfl ?_
  refine a_iload_n hB dX10_tilt_2 rfl ?_
  refine a_callVr (q0 := 0) hB (c_X10_isPart_N hp h6) mk_X10_isPart ml_X10_113 dX10_tilt_3 rfl rfl [0, 1, 2, 3, 4, 5, 6, 7, 8, 9] rfl (by decide) rfl rfl (fit_of hR (by decide)) (Nat.le_of_ble_eq_true rfl) ?_
  refine a_if_eqN_f (tgt := 16) hB dX10_tilt_6 (by decide) (by omega) (by omega) ?_
  refine a_iload_n hB dX10_tilt_9 rfl ?_
  refine a_callSr hB (c_X10_isLoad_N (by omega)) mk_X10_isLoad ml_X10_100 dX10_tilt_10 rfl rfl [] rfl (by decide) (fit_of hR (by decide)) (Nat.le_of_ble_eq_true rfl) ?_
  refine a_if_neN_t (tgt := 20) hB dX10_tilt_13 (by decide) (by omega) (by omega) ?_
  refine a_iload_n hB dX10_tilt_20 rfl ?_
  refine a_iconstN (v := 1) hB dX10_tilt_21 (by decide) ?_
  refine a_bipushN (v := 99) hB dX10_tilt_22 (by decide) ?_
  refine a_callSr hB (c_X10_within_N (by omega) (by omega) (by omega)) mk_X10_within ml_X10_46 dX10_tilt_24 rfl rfl [] rfl (by decide) (fit_of hR (by decide)) (Nat.le_of_ble_eq_true rfl) ?_
  refine a_if_neN_t (tgt := 34) hB dX10_tilt_27 (by decide) (by omega) (by omega) ?_
  refine a_aload_n hB dX10_tilt_34 rfl ?_
  refine a_iload_n hB dX10_tilt_35 rfl ?_
  refine a_iload_n hB dX10_tilt_36 rfl ?_
  refine a_callVr (q0 := 0) hB (c_X10_weightOf (by omega) (by omega)) mk_X10_weightOf ml_X10_50 dX10_tilt_37 rfl rfl [0, 1, 2, 3, 4, 5, 6, 7, 8, 9] rfl (by decide) rfl rfl (fit_of hR (by decide)) (Nat.le_of_ble_eq_true rfl) ?_
  refine a_if_neN_t (tgt := 47) hB dX10_tilt_40 (by decide) (by omega) (by omega) ?_
  refine a_iconstN (v := 0) hB dX10_tilt_47 (by decide) ?_
  refine a_put (T := TX10) (ci := 10) hB dX10_tilt_48 7 fl_X10_39 lay_X10 tyX10 tyX10_ok nmX10 rfl (by decide) rfl rfl 0 rfl rfl rfl rfl (Nat.le_of_ble_eq_true rfl) ?_
  refine a_aload_n hB dX10_tilt_51 rfl ?_
  refine a_get (T := TX10) (ci := 10) hB dX10_tilt_52 7 fl_X10_39 lay_X10 rfl (by decide) rfl 0 rfl rfl ?_
  refine a_if_leN_t (tgt := 60) hB dX10_tilt_55 (by decide) (by omega) (by omega) ?_
  refine a_aload_n hB dX10_tilt_60 rfl ?_
  refine a_callVd (w2 := wM G ma z sf (min (st + 1) 6) (svH z hh st) (svT sf sh st) len tx 0 wy mo td re lo to rw ha) (q0 := 0) hB (c_X10_save (by omega)) mk_X10_save ml_X10_104 dX10_tilt_61 rfl rfl [0, 1, 2, 3, 4, 5, 6, 7, 8, 9] rfl (by decide) rfl rfl (fit_of hR (by decide)) (Nat.le_of_ble_eq_true rfl) (wput_all rfl rfl) ?_
  refine a_aload_n hB dX10_tilt_64 rfl ?_
  refine a_callVd (w2 := wM G ma (fg z 6) (fs0 sf 4) (min (st + 1) 6) (svH z hh st) (svT sf sh st) len tx 0 wy mo td re lo to rw ha) (q0 := 0) hB (c_X10_forgets) mk_X10_forgets ml_X10_107 dX10_tilt_65 rfl rfl [0, 1, 2, 3, 4, 5, 6, 7, 8, 9] rfl (by decide) rfl rfl (fit_of hR (by decide)) (Nat.le_of_ble_eq_true rfl) (wput_all rfl rfl) ?_
  refine a_istore hB dX10_tilt_68 (by decide) ?_
  refine a_aload_n hB dX10_tilt_70 rfl ?_
  refine a_iload_n hB dX10_tilt_71 rfl ?_
  refine a_iload_n hB dX10_tilt_72 rfl ?_
  refine a_callVr (q0 := 0) hB (c_X10_tiltedOf (by omega) (by omega)) mk_X10_tiltedOf ml_X10_54 dX10_tilt_73 rfl rfl [0, 1, 2, 3, 4, 5, 6, 7, 8, 9] rfl (by decide) rfl rfl (fit_of hR (by decide)) (Nat.le_of_ble_eq_true rfl) ?_
  refine a_istore hB dX10_tilt_76 (by decide) ?_
  refine a_aload_n hB dX10_tilt_78 rfl ?_
  refine a_get (T := TX10) (ci := 10) hB dX10_tilt_79 0 fl_X10_7 lay_X10 rfl (by decide) rfl 0 rfl rfl ?_
  refine a_bipushN (v := 47) hB dX10_tilt_82 (by decide) ?_
  refine a_bipushN (v := 6) hB dX10_tilt_84 (by decide) ?_
  refine a_iload_n hB dX10_tilt_86 rfl ?_
  refine a_imulN hB dX10_tilt_87 ?_
  refine a_iaddN hB dX10_tilt_88 ?_
  refine a_iload_n hB dX10_tilt_89 rfl ?_
  refine a_iaddN hB dX10_tilt_90 ?_
  refine a_iload_n hB dX10_tilt_91 rfl ?_
  refine a_iastoreN hB dX10_tilt_92 1 rfl (by omega) (by decide) ?_
  refine a_iload hB dX10_tilt_93 rfl ?_
  exact a_iret hB hE rfl dX10_tilt_95 (Nat.le_of_ble_eq_true rfl) (Nat.le_of_ble_eq_true rfl) (AKeep.of rfl) ⟨rfl, rfl⟩
set_option maxHeartbeats 4000000 in
set_option maxRecDepth 100000 in
theorem c_X10_tilt_s {G : GP} {ma z : Nat → Nat} {sf : Nat → UInt64} {st : Nat} {hh : Nat → Nat} {sh : Nat → UInt64} {len : Nat} {tx : Nat → Nat} {th : Nat} {wy mo td : Nat → Nat} {re lo to : Nat} {rw : Nat → Nat} {ha : Int64} {p l v : Nat} (hp : p < z 0) (h6 : z 0 ≤ 6) (hl : l ≤ 5) (h1 : 1 ≤ v) (hv : v ≤ 99) (hz : gt (wq z) p l = 0) : AMd G sX10_tilt [.ref (ma 0), .int (nI p), .int (nI l), .int (nI v)] (wM G ma z sf st hh sh len tx th wy mo td re lo to rw ha) (some (.int (nI 0))) (wM G ma z sf st hh sh len tx 3 wy mo td re lo to rw ha) := by
  refine AM.of (σ := sX10_tilt) (by decide +kernel) (by decide +kernel) (Nat.le_of_ble_eq_true rfl) (fun B hB hR hE0 hN => ?_)
  have hE := BE.of hE0
  refine a_aload_n hB dX10_tilt_0 rfl ?_
  refine a_aload_n hB dX10_tilt_1 rfl ?_
  refine a_iload_n hB dX10_tilt_2 rfl ?_
  refine a_callVr (q0 := 0) hB (c_X10_isPart_N hp h6) mk_X10_isPart ml_X10_113 dX10_tilt_3 rfl rfl [0, 1, 2, 3, 4, 5, 6, 7, 8, 9] rfl (by decide) rfl rfl (fit_of hR (by decide)) (Nat.le_of_ble_eq_true rfl) ?_
  refine a_if_eqN_f (tgt := 16) hB dX10_tilt_6 (by decide) (by omega) (by omega) ?_
  refine a_iload_n hB dX10_tilt_9 rfl ?_
  refine a_callSr hB (c_X10_isLoad_N (by omega)) mk_X10_isLoad ml_X10_100 dX10_tilt_10 rfl rfl [] rfl (by decide) (fit_of hR (by decide)) (Nat.le_of_ble_eq_true rfl) ?_
  refine a_if_neN_t (tgt := 20) hB dX10_tilt_13 (by decide) (by omega) (by omega) ?_
  refine a_iload_n hB dX10_tilt_20 rfl ?_
  refine a_iconstN (v := 1) hB dX10_tilt_21 (by decide) ?_
  refine a_bipushN (v := 99) hB dX10_tilt_22 (by decide) ?_
  refine a_callSr hB (c_X10_within_N (by omega) (by omega) (by omega)) mk_X10_within ml_X10_46 dX10_tilt_24 rfl rfl [] rfl (by decide) (fit_of hR (by decide)) (Nat.le_of_ble_eq_true rfl) ?_
  refine a_if_neN_t (tgt := 34) hB dX10_tilt_27 (by decide) (by omega) (by omega) ?_
  refine a_aload_n hB dX10_tilt_34 rfl ?_
  refine a_iload_n hB dX10_tilt_35 rfl ?_
  refine a_iload_n hB dX10_tilt_36 rfl ?_
  refine a_callVr (q0 := 0) hB (c_X10_weightOf (by omega) (by omega)) mk_X10_weightOf ml_X10_50 dX10_tilt_37 rfl rfl [0, 1, 2, 3, 4, 5, 6, 7, 8, 9] rfl (by decide) rfl rfl (fit_of hR (by decide)) (Nat.le_of_ble_eq_true rfl) ?_
  refine a_if_neN_f (tgt := 47) hB dX10_tilt_40 (by decide) (by omega) (by omega) ?_
  refine a_iconstN (v := 3) hB dX10_tilt_43 (by decide) ?_
  refine a_goto (tgt := 48) hB dX10_tilt_44 (by decide) ?_
  refine a_put (T := TX10) (ci := 10) hB dX10_tilt_48 7 fl_X10_39 lay_X10 tyX10 tyX10_ok nmX10 rfl (by decide) rfl rfl 0 rfl rfl rfl rfl (Nat.le_of_ble_eq_true rfl) ?_
  refine a_aload_n hB dX10_tilt_51 rfl ?_
  refine a_get (T := TX10) (ci := 10) hB dX10_tilt_52 7 fl_X10_39 lay_X10 rfl (by decide) rfl 0 rfl rfl ?_
  refine a_if_leN_f (tgt := 60) hB dX10_tilt_55 (by decide) (by omega) (by omega) ?_
  refine a_iconstN (v := 0) hB dX10_tilt_58 (by decide) ?_
  exact a_iret hB hE rfl dX10_tilt_59 (Nat.le_of_ble_eq_true rfl) (Nat.le_of_ble_eq_true rfl) (AKeep.of rfl) ⟨rfl, rfl⟩
set_option maxHeartbeats 4000000 in
set_option maxRecDepth 100000 in
theorem c_X10_tilt_p {G : GP} {ma z : Nat → Nat} {sf : Nat → UInt64} {st : Nat} {hh : Nat → Nat} {sh : Nat → UInt64} {len : Nat} {tx : Nat → Nat} {th : Nat} {wy mo td : Nat → Nat} {re lo to : Nat} {rw : Nat → Nat} {ha : Int64} {x y w : Int32} (hz : 1 ≤ z 0) (h : x < nI 0 ∨ nI (z 0 - 1) < x) : AMd G sX10_tilt [.ref (ma 0), .int x, .int y, .int w] (wM G ma z sf st hh sh len tx th wy mo td re lo to rw ha) (some (.int (nI 0))) (wM G ma z sf st hh sh len tx 1 wy mo td re lo to rw ha) := by
  refine AM.of (σ := sX10_tilt) (by decide +kernel) (by decide +kernel) (Nat.le_of_ble_eq_true rfl) (fun B hB hR hE0 hN => ?_)
  have hE := BE.of hE0
  refine a_aload_n hB dX10_tilt_0 rfl ?_
  refine a_aload_n hB dX10_tilt_1 rfl ?_
  refine a_iload_n hB dX10_tilt_2 rfl ?_
  refine a_callVr (q0 := 0) hB (c_X10_isPart_n hz h) mk_X10_isPart ml_X10_113 dX10_tilt_3 rfl rfl [0, 1, 2, 3, 4, 5, 6, 7, 8, 9] rfl (by decide) rfl rfl (fit_of hR (by decide)) (Nat.le_of_ble_eq_true rfl) ?_
  refine a_if_eqN_t (tgt := 16) hB dX10_tilt_6 (by decide) (by omega) (by omega) ?_
  refine a_iconstN (v := 1) hB dX10_tilt_16 (by decide) ?_
  refine a_goto (tgt := 48) hB dX10_tilt_17 (by decide) ?_
  refine a_put (T := TX10) (ci := 10) hB dX10_tilt_48 7 fl_X10_39 lay_X10 tyX10 tyX10_ok nmX10 rfl (by decide) rfl rfl 0 rfl rfl rfl rfl (Nat.le_of_ble_eq_true rfl) ?_
  refine a_aload_n hB dX10_tilt_51 rfl ?_
  refine a_get (T := TX10) (ci := 10) hB dX10_tilt_52 7 fl_X10_39 lay_X10 rfl (by decide) rfl 0 rfl rfl ?_
  refine a_if_leN_f (tgt := 60) hB dX10_tilt_55 (by decide) (by omega) (by omega) ?_
  refine a_iconstN (v := 0) hB dX10_tilt_58 (by decide) ?_
  exact a_iret hB hE rfl dX10_tilt_59 (Nat.le_of_ble_eq_true rfl) (Nat.le_of_ble_eq_true rfl) (AKeep.of rfl) ⟨rfl, rfl⟩
set_option maxHeartbeats 4000000 in
set_option maxRecDepth 100000 in
theorem c_X10_tilt_0 {G : GP} {ma z : Nat → Nat} {sf : Nat → UInt64} {st : Nat} {hh : Nat → Nat} {sh : Nat → UInt64} {len : Nat} {tx : Nat → Nat} {th : Nat} {wy mo td : Nat → Nat} {re lo to : Nat} {rw : Nat → Nat} {ha : Int64} {x y w : Int32} (hz : z 0 = 0) : AMd G sX10_tilt [.ref (ma 0), .int x, .int y, .int w] (wM G ma z sf st hh sh len tx th wy mo td re lo to rw ha) (some (.int (nI 0))) (wM G ma z sf st hh sh len tx 1 wy mo td re lo to rw ha) := by
  refine AM.of (σ := sX10_tilt) (by decide +kernel) (by decide +kernel) (Nat.le_of_ble_eq_true rfl) (fun B hB hR hE0 hN => ?_)
  have hE := BE.of hE0
  refine a_aload_n hB dX10_tilt_0 rfl ?_
  refine a_aload_n hB dX10_tilt_1 rfl ?_
  refine a_iload_n hB dX10_tilt_2 rfl ?_
  refine a_callVr (q0 := 0) hB (c_X10_isPart_0 hz) mk_X10_isPart ml_X10_113 dX10_tilt_3 rfl rfl [0, 1, 2, 3, 4, 5, 6, 7, 8, 9] rfl (by decide) rfl rfl (fit_of hR (by decide)) (Nat.le_of_ble_eq_true rfl) ?_
  refine a_if_eqN_t (tgt := 16) hB dX10_tilt_6 (by decide) (by omega) (by omega) ?_
  refine a_iconstN (v := 1) hB dX10_tilt_16 (by decide) ?_
  refine a_goto (tgt := 48) hB dX10_tilt_17 (by decide) ?_
  refine a_put (T := TX10) (ci := 10) hB dX10_tilt_48 7 fl_X10_39 lay_X10 tyX10 tyX10_ok nmX10 rfl (by decide) rfl rfl 0 rfl rfl rfl rfl (Nat.le_of_ble_eq_true rfl) ?_
  refine a_aload_n hB dX10_tilt_51 rfl ?_
  refine a_get (T := TX10) (ci := 10) hB dX10_tilt_52 7 fl_X10_39 lay_X10 rfl (by decide) rfl 0 rfl rfl ?_
  refine a_if_leN_f (tgt := 60) hB dX10_tilt_55 (by decide) (by omega) (by omega) ?_
  refine a_iconstN (v := 0) hB dX10_tilt_58 (by decide) ?_
  exact a_iret hB hE rfl dX10_tilt_59 (Nat.le_of_ble_eq_true rfl) (Nat.le_of_ble_eq_true rfl) (AKeep.of rfl) ⟨rfl, rfl⟩
set_option maxHeartbeats 4000000 in
set_option maxRecDepth 100000 in
theorem c_X10_tilt_l {G : GP} {ma z : Nat → Nat} {sf : Nat → UInt64} {st : Nat} {hh : Nat → Nat} {sh : Nat → UInt64} {len : Nat} {tx : Nat → Nat} {th : Nat} {wy mo td : Nat → Nat} {re lo to : Nat} {rw : Nat → Nat} {ha : Int64} {p : Nat} {x w : Int32} (hp : p < z 0) (h6 : z 0 ≤ 6) (h : x < nI 0 ∨ nI 5 < x) : AMd G sX10_tilt [.ref (ma 0), .int (nI p), .int x, .int w] (wM G ma z sf st hh sh len tx th wy mo td re lo to rw ha) (some (.int (nI 0))) (wM G ma z sf st hh sh len tx 1 wy mo td re lo to rw ha) := by
  refine AM.of (σ := sX10_tilt) (by decide +kernel) (by decide +kernel) (Nat.le_of_ble_eq_true rfl) (fun B hB hR hE0 hN => ?_)
  have hE := BE.of hE0
  refine a_aload_n hB dX10_tilt_0 rfl ?_
  refine a_aload_n hB dX10_tilt_1 rfl ?_
  refine a_iload_n hB dX10_tilt_2 rfl ?_
  refine a_callVr (q0 := 0) hB (c_X10_isPart_N hp h6) mk_X10_isPart ml_X10_113 dX10_tilt_3 rfl rfl [0, 1, 2, 3, 4, 5, 6, 7, 8, 9] rfl (by decide) rfl rfl (fit_of hR (by decide)) (Nat.le_of_ble_eq_true rfl) ?_
  refine a_if_eqN_f (tgt := 16) hB dX10_tilt_6 (by decide) (by omega) (by omega) ?_
  refine a_iload_n hB dX10_tilt_9 rfl ?_
  refine a_callSr hB (c_X10_isLoad_n h) mk_X10_isLoad ml_X10_100 dX10_tilt_10 rfl rfl [] rfl (by decide) (fit_of hR (by decide)) (Nat.le_of_ble_eq_true rfl) ?_
  refine a_if_neN_f (tgt := 20) hB dX10_tilt_13 (by decide) (by omega) (by omega) ?_
  refine a_iconstN (v := 1) hB dX10_tilt_16 (by decide) ?_
  refine a_goto (tgt := 48) hB dX10_tilt_17 (by decide) ?_
  refine a_put (T := TX10) (ci := 10) hB dX10_tilt_48 7 fl_X10_39 lay_X10 tyX10 tyX10_ok nmX10 rfl (by decide) rfl rfl 0 rfl rfl rfl rfl (Nat.le_of_ble_eq_true rfl) ?_
  refine a_aload_n hB dX10_tilt_51 rfl ?_
  refine a_get (T := TX10) (ci := 10) hB dX10_tilt_52 7 fl_X10_39 lay_X10 rfl (by decide) rfl 0 rfl rfl ?_
  refine a_if_leN_f (tgt := 60) hB dX10_tilt_55 (by decide) (by omega) (by omega) ?_
  refine a_iconstN (v := 0) hB dX10_tilt_58 (by decide) ?_
  exact a_iret hB hE rfl dX10_tilt_59 (Nat.le_of_ble_eq_true rfl) (Nat.le_of_ble_eq_true rfl) (AKeep.of rfl) ⟨rfl, rfl⟩
set_option maxHeartbeats 4000000 in
set_option maxRecDepth 100000 in
theorem c_X10_tilt_r {G : GP} {ma z : Nat → Nat} {sf : Nat → UInt64} {st : Nat} {hh : Nat → Nat} {sh : Nat → UInt64} {len : Nat} {tx : Nat → Nat} {th : Nat} {wy mo td : Nat → Nat} {re lo to : Nat} {rw : Nat → Nat} {ha : Int64} {p l : Nat} {x : Int32} (hp : p < z 0) (h6 : z 0 ≤ 6) (hl : l ≤ 5) (h : x < nI 1 ∨ nI 99 < x) : AMd G sX10_tilt [.ref (ma 0), .int (nI p), .int (nI l), .int x] (wM G ma z sf st hh sh len tx th wy mo td re lo to rw ha) (some (.int (nI 0))) (wM G ma z sf st hh sh len tx 2 wy mo td re lo to rw ha) := by
  refine AM.of (σ := sX10_tilt) (by decide +kernel) (by decide +kernel) (Nat.le_of_ble_eq_true rfl) (fun B hB hR hE0 hN => ?_)
  have hE := BE.of hE0
  refine a_aload_n hB dX10_tilt_0 rfl ?_
  refine a_aload_n hB dX10_tilt_1 rfl ?_
  refine a_iload_n hB dX10_tilt_2 rfl ?_
  refine a_callVr (q0 := 0) hB (c_X10_isPart_N hp h6) mk_X10_isPart ml_X10_113 dX10_tilt_3 rfl rfl [0, 1, 2, 3, 4, 5, 6, 7, 8, 9] rfl (by decide) rfl rfl (fit_of hR (by decide)) (Nat.le_of_ble_eq_true rfl) ?_
  refine a_if_eqN_f (tgt := 16) hB dX10_tilt_6 (by decide) (by omega) (by omega) ?_
  refine a_iload_n hB dX10_tilt_9 rfl ?_
  refine a_callSr hB (c_X10_isLoad_N (by omega)) mk_X10_isLoad ml_X10_100 dX10_tilt_10 rfl rfl [] rfl (by decide) (fit_of hR (by decide)) (Nat.le_of_ble_eq_true rfl) ?_
  refine a_if_neN_t (tgt := 20) hB dX10_tilt_13 (by decide) (by omega) (by omega) ?_
  refine a_iload_n hB dX10_tilt_20 rfl ?_
  refine a_iconstN (v := 1) hB dX10_tilt_21 (by decide) ?_
  refine a_bipushN (v := 99) hB dX10_tilt_22 (by decide) ?_
  refine a_callSr hB (c_X10_within_n h) mk_X10_within ml_X10_46 dX10_tilt_24 rfl rfl [] rfl (by decide) (fit_of hR (by decide)) (Nat.le_of_ble_eq_true rfl) ?_
  refine a_if_neN_f (tgt := 34) hB dX10_tilt_27 (by decide) (by omega) (by omega) ?_
  refine a_iconstN (v := 2) hB dX10_tilt_30 (by decide) ?_
  refine a_goto (tgt := 48) hB dX10_tilt_31 (by decide) ?_
  refine a_put (T := TX10) (ci := 10) hB dX10_tilt_48 7 fl_X10_39 lay_X10 tyX10 tyX10_ok nmX10 rfl (by decide) rfl rfl 0 rfl rfl rfl rfl (Nat.le_of_ble_eq_true rfl) ?_
  refine a_aload_n hB dX10_tilt_51 rfl ?_
  refine a_get (T := TX10) (ci := 10) hB dX10_tilt_52 7 fl_X10_39 lay_X10 rfl (by decide) rfl 0 rfl rfl ?_
  refine a_if_leN_f (tgt := 60) hB dX10_tilt_55 (by decide) (by omega) (by omega) ?_
  refine a_iconstN (v := 0) hB dX10_tilt_58 (by decide) ?_
  exact a_iret hB hE rfl dX10_tilt_59 (Nat.le_of_ble_eq_true rfl) (Nat.le_of_ble_eq_true rfl) (AKeep.of rfl) ⟨rfl, rfl⟩
set_option maxHeartbeats 4000000 in
set_option maxRecDepth 100000 in
theorem c_X10_weigh_p {G : GP} {ma z : Nat → Nat} {sf : Nat → UInt64} {st : Nat} {hh : Nat → Nat} {sh : Nat → UInt64} {len : Nat} {tx : Nat → Nat} {th : Nat} {wy mo td : Nat → Nat} {re lo to : Nat} {rw : Nat → Nat} {ha : Int64} {x y w : Int32} (hz : 1 ≤ z 0) (h : x < nI 0 ∨ nI (z 0 - 1) < x) : AMd G sX10_weigh [.ref (ma 0), .int x, .int y, .int w] (wM G ma z sf st hh sh len tx th wy mo td re lo to rw ha) (some (.int (nI 0))) (wM G ma z sf st hh sh len tx 1 wy mo td re lo to rw ha) := by
  refine AM.of (σ := sX10_weigh) (by decide +kernel) (by decide +kernel) (Nat.le_of_ble_eq_true rfl) (fun B hB hR hE0 hN => ?_)
  have hE := BE.of hE0
  refine a_aload_n hB dX10_weigh_0 rfl ?_
  refine a_aload_n hB dX10_weigh_1 rfl ?_
  refine a_iload_n hB dX10_weigh_2 rfl ?_
  refine a_callVr (q0 := 0) hB (c_X10_isPart_n hz h) mk_X10_isPart ml_X10_113 dX10_weigh_3 rfl rfl [0, 1, 2, 3, 4, 5, 6, 7, 8, 9] rfl (by decide) rfl rfl (fit_of hR (by decide)) (Nat.le_of_ble_eq_true rfl) ?_
  refine a_if_eqN_t (tgt := 16) hB dX10_weigh_6 (by decide) (by omega) (by omega) ?_
  refine a_iconstN (v := 1) hB dX10_weigh_16 (by decide) ?_
  refine a_goto (tgt := 35) hB dX10_weigh_17 (by decide) ?_
  refine a_put (T := TX10) (ci := 10) hB dX10_weigh_35 7 fl_X10_39 lay_X10 tyX10 tyX10_ok nmX10 rfl (by decide) rfl rfl 0 rfl rfl rfl rfl (Nat.le_of_ble_eq_true rfl) ?_
  refine a_aload_n hB dX10_weigh_38 rfl ?_
  refine a_get (T := TX10) (ci := 10) hB dX10_weigh_39 7 fl_X10_39 lay_X10 rfl (by decide) rfl 0 rfl rfl ?_
  refine a_if_neN_t (tgt := 71) hB dX10_weigh_42 (by decide) (by omega) (by omega) ?_
  refine a_aload_n hB dX10_weigh_71 rfl ?_
  refine a_get (T := TX10) (ci := 10) hB dX10_weigh_72 7 fl_X10_39 lay_X10 rfl (by decide) rfl 0 rfl rfl ?_
  refine a_if_leN_f (tgt := 80) hB dX10_weigh_75 (by decide) (by omega) (by omega) ?_
  refine a_iconstN (v := 0) hB dX10_weigh_78 (by decide) ?_
  exact a_iret hB hE rfl dX10_weigh_79 (Nat.le_of_ble_eq_true rfl) (Nat.le_of_ble_eq_true rfl) (AKeep.of rfl) ⟨rfl, rfl⟩
set_option maxHeartbeats 4000000 in
set_option maxRecDepth 100000 in
theorem c_X10_weigh_0 {G : GP} {ma z : Nat → Nat} {sf : Nat → UInt64} {st : Nat} {hh : Nat → Nat} {sh : Nat → UInt64} {len : Nat} {tx : Nat → Nat} {th : Nat} {wy mo td : Nat → Nat} {re lo to : Nat} {rw : Nat → Nat} {ha : Int64} {x y w : Int32} (hz : z 0 = 0) : AMd G sX10_weigh [.ref (ma 0), .int x, .int y, .int w] (wM G ma z sf st hh sh len tx th wy mo td re lo to rw ha) (some (.int (nI 0))) (wM G ma z sf st hh sh len tx 1 wy mo td re lo to rw ha) := by
  refine AM.of (σ := sX10_weigh) (by decide +kernel) (by decide +kernel) (Nat.le_of_ble_eq_true rfl) (fun B hB hR hE0 hN => ?_)
  have hE := BE.of hE0
  refine a_aload_n hB dX10_weigh_0 rfl ?_
  refine a_aload_n hB dX10_weigh_1 rfl ?_
  refine a_iload_n hB dX10_weigh_2 rfl ?_
  refine a_callVr (q0 := 0) hB (c_X10_isPart_0 hz) mk_X10_isPart ml_X10_113 dX10_weigh_3 rfl rfl [0, 1, 2, 3, 4, 5, 6, 7, 8, 9] rfl (by decide) rfl rfl (fit_of hR (by decide)) (Nat.le_of_ble_eq_true rfl) ?_
  refine a_if_eqN_t (tgt := 16) hB dX10_weigh_6 (by decide) (by omega) (by omega) ?_
  refine a_iconstN (v := 1) hB dX10_weigh_16 (by decide) ?_
  refine a_goto (tgt := 35) hB dX10_weigh_17 (by decide) ?_
  refine a_put (T := TX10) (ci := 10) hB dX10_weigh_35 7 fl_X10_39 lay_X10 tyX10 tyX10_ok nmX10 rfl (by decide) rfl rfl 0 rfl rfl rfl rfl (Nat.le_of_ble_eq_true rfl) ?_
  refine a_aload_n hB dX10_weigh_38 rfl ?_
  refine a_get (T := TX10) (ci := 10) hB dX10_weigh_39 7 fl_X10_39 lay_X10 rfl (by decide) rfl 0 rfl rfl ?_
  refine a_if_neN_t (tgt := 71) hB dX10_weigh_42 (by decide) (by omega) (by omega) ?_
  refine a_aload_n hB dX10_weigh_71 rfl ?_
  refine a_get (T := TX10) (ci := 10) hB dX10_weigh_72 7 fl_X10_39 lay_X10 rfl (by decide) rfl 0 rfl rfl ?_
  refine a_if_leN_f (tgt := 80) hB dX10_weigh_75 (by decide) (by omega) (by omega) ?_
  refine a_iconstN (v := 0) hB dX10_weigh_78 (by decide) ?_
  exact a_iret hB hE rfl dX10_weigh_79 (Nat.le_of_ble_eq_true rfl) (Nat.le_of_ble_eq_true rfl) (AKeep.of rfl) ⟨rfl, rfl⟩
set_option maxHeartbeats 4000000 in
set_option maxRecDepth 100000 in
theorem c_X10_weigh_l {G : GP} {ma z : Nat → Nat} {sf : Nat → UInt64} {st : Nat} {hh : Nat → Nat} {sh : Nat → UInt64} {len : Nat} {tx : Nat → Nat} {th : Nat} {wy mo td : Nat → Nat} {re lo to : Nat} {rw : Nat → Nat} {ha : Int64} {p : Nat} {x w : Int32} (hp : p < z 0) (h6 : z 0 ≤ 6) (h : x < nI 0 ∨ nI 5 < x) : AMd G sX10_weigh [.ref (ma 0), .int (nI p), .int x, .int w] (wM G ma z sf st hh sh len tx th wy mo td re lo to rw ha) (some (.int (nI 0))) (wM G ma z sf st hh sh len tx 1 wy mo td re lo to rw ha) := by
  refine AM.of (σ := sX10_weigh) (by decide +kernel) (by decide +kernel) (Nat.le_of_ble_eq_true rfl) (fun B hB hR hE0 hN => ?_)
  have hE := BE.of hE0
  refine a_aload_n hB dX10_weigh_0 rfl ?_
  refine a_aload_n hB dX10_weigh_1 rfl ?_
  refine a_iload_n hB dX10_weigh_2 rfl ?_
  refine a_callVr (q0 := 0) hB (c_X10_isPart_N hp h6) mk_X10_isPart ml_X10_113 dX10_weigh_3 rfl rfl [0, 1, 2, 3, 4, 5, 6, 7, 8, 9] rfl (by decide) rfl rfl (fit_of hR (by decide)) (Nat.le_of_ble_eq_true rfl) ?_
  refine a_if_eqN_f (tgt := 16) hB dX10_weigh_6 (by decide) (by omega) (by omega) ?_
  refine a_iload_n hB dX10_weigh_9 rfl ?_
  refine a_callSr hB (c_X10_isLoad_n h) mk_X10_isLoad ml_X10_100 dX10_weigh_10 rfl rfl [] rfl (by decide) (fit_of hR (by decide)) (Nat.le_of_ble_eq_true rfl) ?_
  refine a_if_neN_f (tgt := 20) hB dX10_weigh_13 (by decide) (by omega) (by omega) ?_
  refine a_iconstN (v := 1) hB dX10_weigh_16 (by decide) ?_
  refine a_goto (tgt := 35) hB dX10_weigh_17 (by decide) ?_
  refine a_put (T := TX10) (ci := 10) hB dX10_weigh_35 7 fl_X10_39 lay_X10 tyX10 tyX10_ok nmX10 rfl (by decide) rfl rfl 0 rfl rfl rfl rfl (Nat.le_of_ble_eq_true rfl) ?_
  refine a_aload_n hB dX10_weigh_38 rfl ?_
  refine a_get (T := TX10) (ci := 10) hB dX10_weigh_39 7 fl_X10_39 lay_X10 rfl (by decide) rfl 0 rfl rfl ?_
  refine a_if_neN_t (tgt := 71) hB dX10_weigh_42 (by decide) (by omega) (by omega) ?_
  refine a_aload_n hB dX10_weigh_71 rfl ?_
  refine a_get (T := TX10) (ci := 10) hB dX10_weigh_72 7 fl_X10_39 lay_X10 rfl (by decide) rfl 0 rfl rfl ?_
  refine a_if_leN_f (tgt := 80) hB dX10_weigh_75 (by decide) (by omega) (by omega) ?_
  refine a_iconstN (v := 0) hB dX10_weigh_78 (by decide) ?_
  exact a_iret hB hE rfl dX10_weigh_79 (Nat.le_of_ble_eq_true rfl) (Nat.le_of_ble_eq_true rfl) (AKeep.of rfl) ⟨rfl, rfl⟩
set_option maxHeartbeats 4000000 in
set_option maxRecDepth 100000 in
theorem c_X10_weigh_r {G : GP} {ma z : Nat → Nat} {sf : Nat → UInt64} {st : Nat} {hh : Nat → Nat} {sh : Nat → UInt64} {len : Nat} {tx : Nat → Nat} {th : Nat} {wy mo td : Nat → Nat} {re lo to : Nat} {rw : Nat → Nat} {ha : Int64} {p l : Nat} {x : Int32} (hp : p < z 0) (h6 : z 0 ≤ 6) (hl : l ≤ 5) (h : x < nI 0 ∨ nI 9 < x) : AMd G sX10_weigh [.ref (ma 0), .int (nI p), .int (nI l), .int x] (wM G ma z sf st hh sh len tx th wy mo td re lo to rw ha) (some (.int (nI 0))) (wM G ma z sf st hh sh len tx 2 wy mo td re lo to rw ha) := by
  refine AM.of (σ := sX10_weigh) (by decide +kernel) (by decide +kernel) (Nat.le_of_ble_eq_true rfl) (fun B hB hR hE0 hN => ?_)
  have hE := BE.of hE0
  refine a_aload_n hB dX10_weigh_0 rfl ?_
  refine a_aload_n hB dX10_weigh_1 rfl ?_
  refine a_iload_n hB dX10_weigh_2 rfl ?_
  refine a_callVr (q0 := 0) hB (c_X10_isPart_N hp h6) mk_X10_isPart ml_X10_113 dX10_weigh_3 rfl rfl [0, 1, 2, 3, 4, 5, 6, 7, 8, 9] rfl (by decide) rfl rfl (fit_of hR (by decide)) (Nat.le_of_ble_eq_true rfl) ?_
  refine a_if_eqN_f (tgt := 16) hB dX10_weigh_6 (by decide) (by omega) (by omega) ?_
  refine a_iload_n hB dX10_weigh_9 rfl ?_
  refine a_callSr hB (c_X10_isLoad_N (by omega)) mk_X10_isLoad ml_X10_100 dX10_weigh_10 rfl rfl [] rfl (by decide) (fit_of hR (by decide)) (Nat.le_of_ble_eq_true rfl) ?_
  refine a_if_neN_t (tgt := 20) hB dX10_weigh_13 (by decide) (by omega) (by omega) ?_
  refine a_iload_n hB dX10_weigh_20 rfl ?_
  refine a_iconstN (v := 0) hB dX10_weigh_21 (by decide) ?_
  refine a_bipushN (v := 9) hB dX10_weigh_22 (by decide) ?_
  refine a_callSr hB (c_X10_within_n h) mk_X10_within ml_X10_46 dX10_weigh_24 rfl rfl [] rfl (by decide) (fit_of hR (by decide)) (Nat.le_of_ble_eq_true rfl) ?_
  refine a_if_neN_f (tgt := 34) hB dX10_weigh_27 (by decide) (by omega) (by omega) ?_
  refine a_iconstN (v := 2) hB dX10_weigh_30 (by decide) ?_
  refine a_goto (tgt := 35) hB dX10_weigh_31 (by decide) ?_
  refine a_put (T := TX10) (ci := 10) hB dX10_weigh_35 7 fl_X10_39 lay_X10 tyX10 tyX10_ok nmX10 rfl (by decide) rfl rfl 0 rfl rfl rfl rfl (Nat.le_of_ble_eq_true rfl) ?_
  refine a_aload_n hB dX10_weigh_38 rfl ?_
  refine a_get (T := TX10) (ci := 10) hB dX10_weigh_39 7 fl_X10_39 lay_X10 rfl (by decide) rfl 0 rfl rfl ?_
  refine a_if_neN_t (tgt := 71) hB dX10_weigh_42 (by decide) (by omega) (by omega) ?_
  refine a_aload_n hB dX10_weigh_71 rfl ?_
  refine a_get (T := TX10) (ci := 10) hB dX10_weigh_72 7 fl_X10_39 lay_X10 rfl (by decide) rfl 0 rfl rfl ?_
  refine a_if_leN_f (tgt := 80) hB dX10_weigh_75 (by decide) (by omega) (by omega) ?_
  refine a_iconstN (v := 0) hB dX10_weigh_78 (by decide) ?_
  exact a_iret hB hE rfl dX10_weigh_79 (Nat.le_of_ble_eq_true rfl) (Nat.le_of_ble_eq_true rfl) (AKeep.of rfl) ⟨rfl, rfl⟩
set_option maxHeartbeats 4000000 in
set_option maxRecDepth 100000 in
theorem c_X10_weigh_s {G : GP} {ma z : Nat → Nat} {sf : Nat → UInt64} {st : Nat} {hh : Nat → Nat} {sh : Nat → UInt64} {len : Nat} {tx : Nat → Nat} {th : Nat} {wy mo td : Nat → Nat} {re lo to : Nat} {rw : Nat → Nat} {ha : Int64} {p l v : Nat} (hp : p < z 0) (h6 : z 0 ≤ 6) (hl : l ≤ 5) (hv : v ≤ 9) (hw : gt (wq z) p l ≤ 9) (htt : tot (wq z) p ≤ 54) (hz : tot (wq z) p - gt (wq z) p l + v = 0) : AMd G sX10_weigh [.ref (ma 0), .int (nI p), .int (nI l), .int (nI v)] (wM G ma z sf st hh sh len tx th wy mo td re lo to rw ha) (some (.int (nI 0))) (wM G ma z sf st hh sh len tx 3 wy mo td re lo to rw ha) := by
  refine AM.of (σ := sX10_weigh) (by decide +kernel) (by decide +kernel) (Nat.le_of_ble_eq_true rfl) (fun B hB hR hE0 hN => ?_)
  have hE := BE.of hE0
  have hgt : gt (wq z) p l ≤ tot (wq z) p := gt_tot (by omega)
  refine a_aload_n hB dX10_weigh_0 rfl ?_
  refine a_aload_n hB dX10_weigh_1 rfl ?_
  refine a_iload_n hB dX10_weigh_2 rfl ?_
  refine a_callVr (q0 := 0) hB (c_X10_isPart_N hp h6) mk_X10_isPart ml_X10_113 dX10_weigh_3 rfl rfl [0, 1, 2, 3, 4, 5, 6, 7, 8, 9] rfl (by decide) rfl rfl (fit_of hR (by decide)) (Nat.le_of_ble_eq_true rfl) ?_
  refine a_if_eqN_f (tgt := 16) hB dX10_weigh_6 (by decide) (by omega) (by omega) ?_
  refine a_iload_n hB dX10_weigh_9 rfl ?_
  refine a_callSr hB (c_X10_isLoad_N (by omega)) mk_X10_isLoad ml_X10_100 dX10_weigh_10 rfl rfl [] rfl (by decide) (fit_of hR (by decide)) (Nat.le_of_ble_eq_true rfl) ?_
  refine a_if_neN_t (tgt := 20) hB dX10_weigh_13 (by decide) (by omega) (by omega) ?_
  refine a_iload_n hB dX10_weigh_20 rfl ?_
  refine a_iconstN (v := 0) hB dX10_weigh_21 (by decide) ?_
  refine a_bipushN (v := 9) hB dX10_weigh_22 (by decide) ?_
  refine a_callSr hB (c_X10_within_N (by omega) (by omega) (by omega)) mk_X10_within ml_X10_46 dX10_weigh_24 rfl rfl [] rfl (by decide) (fit_of hR (by decide)) (Nat.le_of_ble_eq_true rfl) ?_
  refine a_if_neN_t (tgt := 34) hB dX10_weigh_27 (by decide) (by omega) (by omega) ?_
  refine a_iconstN (v := 0) hB dX10_weigh_34 (by decide) ?_
  refine a_put (T := TX10) (ci := 10) hB dX10_weigh_35 7 fl_X10_39 lay_X10 tyX10 tyX10_ok nmX10 rfl (by decide) rfl rfl 0 rfl rfl rfl rfl (Nat.le_of_ble_eq_true rfl) ?_
  refine a_aload_n hB dX10_weigh_38 rfl ?_
  refine a_get (T := TX10) (ci := 10) hB dX10_weigh_39 7 fl_X10_39 lay_X10 rfl (by decide) rfl 0 rfl rfl ?_
  refine a_if_neN_f (tgt := 71) hB dX10_weigh_42 (by decide) (by omega) (by omega) ?_
  refine a_aload_n hB dX10_weigh_45 rfl ?_
  refine a_aload_n hB dX10_weigh_46 rfl ?_
  refine a_iload_n hB dX10_weigh_47 rfl ?_
  refine a_callVr (q0 := 0) hB (c_X10_totalOf (by omega)) mk_X10_totalOf ml_X10_68 dX10_weigh_48 rfl rfl [0, 1, 2, 3, 4, 5, 6, 7, 8, 9] rfl (by decide) rfl rfl (fit_of hR (by decide)) (Nat.le_of_ble_eq_true rfl) ?_
  refine a_aload_n hB dX10_weigh_51 rfl ?_
  refine a_iload_n hB dX10_weigh_52 rfl ?_
  refine a_iload_n hB dX10_weigh_53 rfl ?_
  refine a_callVr (q0 := 0) hB (c_X10_weightOf (by omega) (by omega)) mk_X10_weightOf ml_X10_50 dX10_weigh_54 rfl rfl [0, 1, 2, 3, 4, 5, 6, 7, 8, 9] rfl (by decide) rfl rfl (fit_of hR (by decide)) (Nat.le_of_ble_eq_true rfl) ?_
  refine a_isubN hB dX10_weigh_57 hgt ?_
  refine a_iload_n hB dX10_weigh_58 rfl ?_
  refine a_iaddN hB dX10_weigh_59 ?_
  refine a_if_neN_f (tgt := 67) hB dX10_weigh_60 (by decide) (by omega) (by omega) ?_
  refine a_iconstN (v := 3) hB dX10_weigh_63 (by decide) ?_
  refine a_goto (tgt := 68) hB dX10_weigh_64 (by decide) ?_
  refine a_put (T := TX10) (ci := 10) hB dX10_weigh_68 7 fl_X10_39 lay_X10 tyX10 tyX10_ok nmX10 rfl (by decide) rfl rfl 0 rfl rfl rfl rfl (Nat.le_of_ble_eq_true rfl) ?_
  refine a_aload_n hB dX10_weigh_71 rfl ?_
  refine a_get (T := TX10) (ci := 10) hB dX10_weigh_72 7 fl_X10_39 lay_X10 rfl (by decide) rfl 0 rfl rfl ?_
  refine a_if_leN_f (tgt := 80) hB dX10_weigh_75 (by decide) (by omega) (by omega) ?_
  refine a_iconstN (v := 0) hB dX10_weigh_78 (by decide) ?_
  exact a_iret hB hE rfl dX10_weigh_79 (Nat.le_of_ble_eq_true rfl) (Nat.le_of_ble_eq_true rfl) (AKeep.of rfl) ⟨rfl, rfl⟩
