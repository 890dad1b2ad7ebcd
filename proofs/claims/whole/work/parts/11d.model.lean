def wgZ (z : Nat → Nat) (p l v : Nat) : Nat → Nat := uN (uN (fg z 6) (11 + 6 * p + l) v) (47 + 6 * p + l) (if gt (wq (fg z 6)) p l = 0 ∨ v = 0 then v else gt (tq (uN (fg z 6) (11 + 6 * p + l) v)) p l)
theorem wgZ_y {z : Nat → Nat} {p l v : Nat} (h : gt (wq (fg z 6)) p l = 0 ∨ v = 0) : wgZ z p l v = uN (uN (fg z 6) (11 + 6 * p + l) v) (47 + 6 * p + l) v := congrArg (uN (uN (fg z 6) (11 + 6 * p + l) v) (47 + 6 * p + l)) (if_pos h)
theorem wgZ_n {z : Nat → Nat} {p l v : Nat} (h : ¬ (gt (wq (fg z 6)) p l = 0 ∨ v = 0)) : wgZ z p l v = uN (uN (fg z 6) (11 + 6 * p + l) v) (47 + 6 * p + l) (gt (tq (uN (fg z 6) (11 + 6 * p + l) v)) p l) := congrArg (uN (uN (fg z 6) (11 + 6 * p + l) v) (47 + 6 * p + l)) (if_neg h)
set_option maxHeartbeats 4000000 in
set_option maxRecDepth 100000 in
theorem c_X10_weigh_ok {G : GP} {ma z : Nat → Nat} {sf : Nat → UInt64} {st : Nat} {hh : Nat → Nat} {sh : Nat → UInt64} {len : Nat} {tx : Nat → Nat} {th : Nat} {wy mo td : Nat → Nat} {re lo to : Nat} {rw : Nat → Nat} {ha : Int64} {p l v : Nat} (hp : p < z 0) (h6 : z 0 ≤ 6) (hl : l ≤ 5) (hv : v ≤ 9) (hw : gt (wq z) p l ≤ 9) (htt : tot (wq z) p ≤ 54) (hz : ¬ tot (wq z) p - gt (wq z) p l + v = 0) (hs : st ≤ 6) : AMd G sX10_weigh [.ref (ma 0), .int (nI p), .int (nI l), .int (nI v)] (wM G ma z sf st hh sh len tx th wy mo td re lo to rw ha) (some (.int (nI (gt (wq (fg z 6)) p l)))) (wM G ma (wgZ z p l v) (fs0 sf 4) (min (st + 1) 6) (svH z hh st) (svT sf sh st) len tx 0 wy mo td re lo to rw ha) := by
  refine AM.of (σ := sX10_weigh) (by decide +kernel) (by decide +kernel) (Nat.le_of_ble_eq_true rfl) (fun B hB hR hE0 hN => ?_)
  have hE := BE.of hE0
  have hgt : gt (wq z) p l ≤ tot (wq z) p := gt_tot (by omega)
  have hg2 : gt (wq (fg z 6)) p l ≤ 9 := by rw [fg_wq]; exact hw
  refine a_aload_n hB dX10_weigh_0 rfl ?_
  refine a_aload_n hB dX10_weigh_1 rfl ?_
  refine a_iload_n hB dX10_weigh_2 rfl ?_
  refine a_callVr (q0 := 0) hB (c_X10_isPart_N hp h6) mk_X10_isPart ml_X10_113 dX10_weigh_3 rfl rfl [0, 1, 2, 3, 4, 5, 6, 7, 8, 9] rfl (by decide) rfl rfl (fit_of hR (by decide)) (Nat.le_of_ble_eq_true rfl) ?_
  refine a_if_eqN_f (tgt := 16) hB dX10_weigh_6 (by decide) (by omega) (by omega) ?_
  refine a_iload_n hB dX10_weigh_9 rfl ?_
  refine a_callSr hB (c_X10_isLoad_N (by omega)) mk_X10_isLoad ml_X10_100 dX10_weigh_10 rfl rfl [] rfl (by decide) (fit_of hR (by decide)) (Nat.le_of_ble_eq_true rfl) ?_
  refine a_if_neN_t (tgt := 20) hB dX10_weigh_13 (by decide) (by omega) (by omega) ?_
  refine a_iload_n hB dX10_weigh_20 rfl ?_
  refine a_iconstN (v := 0) hB dX10_weigh_21 (by decide) ?_
  refine a_bipushN (v := 9) hB dX10_weigh_22 (by decide) ?_
  refine a_callSr hB (c_X10_within_N (by omega) (by omega) (by omega)) mk_X10_within ml_X10_46 dX10_weigh_24 rfl rfl [] rfl (by decide) (fit_of hR (by decide)) (Nat.le_of_ble_eq_true rfl) ?_
  refine a_if_neN_t (tgt := 34) hB dX10_weigh_27 (by decide) (by omega) (by omega) ?_
  refine a_iconstN (v := 0) hB dX10_weigh_34 (by decide) ?_
  refine a_put (T := TX10) (ci := 10) hB dX10_weigh_35 7 fl_X10_39 lay_X10 tyX10 tyX10_ok nmX10 rfl (by decide) rfl rfl 0 rfl rfl rfl rfl (Nat.le_of_ble_eq_true rfl) ?_
  refine a_aload_n hB dX10_weigh_38 rfl ?_
  refine a_get (T := TX10) (ci := 10) hB dX10_weigh_39 7 fl_X10_39 lay_X10 rfl (by decide) rfl 0 rfl rfl ?_
  refine a_if_neN_f (tgt := 71) hB dX10_weigh_42 (by decide) (by omega) (by omega) ?_
  refine a_aload_n hB dX10_weigh_45 rfl ?_
  refine a_aload_n hB dX10_weigh_46 rfl ?_
  refine a_iload_n hB dX10_weigh_47 rfl ?_
  refine a_callVr (q0 := 0) hB (c_X10_totalOf (by omega)) mk_X10_totalOf ml_X10_68 dX10_weigh_48 rfl rfl [0, 1, 2, 3, 4, 5, 6, 7, 8, 9] rfl (by decide) rfl rfl (fit_of hR (by decide)) (Nat.le_of_ble_eq_true rfl) ?_
  refine a_aload_n hB dX10_weigh_51 rfl ?_
  refine a_iload_n hB dX10_weigh_52 rfl ?_
  refine a_iload_n hB dX10_weigh_53 rfl ?_
  refine a_callVr (q0 := 0) hB (c_X10_weightOf (by omega) (by omega)) mk_X10_weightOf ml_X10_50 dX10_weigh_54 rfl rfl [0, 1, 2, 3, 4, 5, 6, 7, 8, 9] rfl (by decide) rfl rfl (fit_of hR (by decide)) (Nat.le_of_ble_eq_true rfl) ?_
  refine a_isubN hB dX10_weigh_57 hgt ?_
  refine a_iload_n hB dX10_weigh_58 rfl ?_
  refine a_iaddN hB dX10_weigh_59 ?_
  refine a_if_neN_t (tgt := 67) hB dX10_weigh_60 (by decide) (by omega) (by omega) ?_
  refine a_iconstN (v := 0) hB dX10_weigh_67 (by decide) ?_
  refine a_put (T := TX10) (ci := 10) hB dX10_weigh_68 7 fl_X10_39 lay_X10 tyX10 tyX10_ok nmX10 rfl (by decide) rfl rfl 0 rfl rfl rfl rfl (Nat.le_of_ble_eq_true rfl) ?_
  refine a_aload_n hB dX10_weigh_71 rfl ?_
  refine a_get (T := TX10) (ci := 10) hB dX10_weigh_72 7 fl_X10_39 lay_X10 rfl (by decide) rfl 0 rfl rfl ?_
  refine a_if_leN_t (tgt := 80) hB dX10_weigh_75 (by decide) (by omega) (by omega) ?_
  refine a_aload_n hB dX10_weigh_80 rfl ?_
  refine a_callVd (w2 := wM G ma z sf (min (st + 1) 6) (svH z hh st) (svT sf sh st) len tx 0 wy mo td re lo to rw ha) (q0 := 0) hB (c_X10_save (by omega)) mk_X10_save ml_X10_104 dX10_weigh_81 rfl rfl [0, 1, 2, 3, 4, 5, 6, 7, 8, 9] rfl (by decide) rfl rfl (fit_of hR (by decide)) (Nat.le_of_ble_eq_true rfl) (wput_all rfl rfl) ?_
  refine a_aload_n hB dX10_weigh_84 rfl ?_
  refine a_callVd (w2 := wM G ma (fg z 6) (fs0 sf 4) (min (st + 1) 6) (svH z hh st) (svT sf sh st) len tx 0 wy mo td re lo to rw ha) (q0 := 0) hB (c_X10_forgets) mk_X10_forgets ml_X10_107 dX10_weigh_85 rfl rfl [0, 1, 2, 3, 4, 5, 6, 7, 8, 9] rfl (by decide) rfl rfl (fit_of hR (by decide)) (Nat.le_of_ble_eq_true rfl) (wput_all rfl rfl) ?_
  refine a_istore hB dX10_weigh_88 (by decide) ?_
  refine a_aload_n hB dX10_weigh_90 rfl ?_
  refine a_iload_n hB dX10_weigh_91 rfl ?_
  refine a_iload_n hB dX10_weigh_92 rfl ?_
  refine a_callVr (q0 := 0) hB (c_X10_weightOf (by omega) (by omega)) mk_X10_weightOf ml_X10_50 dX10_weigh_93 rfl rfl [0, 1, 2, 3, 4, 5, 6, 7, 8, 9] rfl (by decide) rfl rfl (fit_of hR (by decide)) (Nat.le_of_ble_eq_true rfl) ?_
  refine a_istore hB dX10_weigh_96 (by decide) ?_
  refine a_aload_n hB dX10_weigh_98 rfl ?_
  refine a_get (T := TX10) (ci := 10) hB dX10_weigh_99 0 fl_X10_7 lay_X10 rfl (by decide) rfl 0 rfl rfl ?_
  refine a_bipushN (v := 11) hB dX10_weigh_102 (by decide) ?_
  refine a_bipushN (v := 6) hB dX10_weigh_104 (by decide) ?_
  refine a_iload_n hB dX10_weigh_106 rfl ?_
  refine a_imulN hB dX10_weigh_107 ?_
  refine a_iaddN hB dX10_weigh_108 ?_
  refine a_iload_n hB dX10_weigh_109 rfl ?_
  refine a_iaddN hB dX10_weigh_110 ?_
  refine a_iload_n hB dX10_weigh_111 rfl ?_
  refine a_iastoreN hB dX10_weigh_112 1 rfl (by omega) (by decide) ?_
  refine a_aload_n hB dX10_weigh_113 rfl ?_
  refine a_get (T := TX10) (ci := 10) hB dX10_weigh_114 0 fl_X10_7 lay_X10 rfl (by decide) rfl 0 rfl rfl ?_
  refine a_bipushN (v := 47) hB dX10_weigh_117 (by decide) ?_
  refine a_bipushN (v := 6) hB dX10_weigh_119 (by decide) ?_
  refine a_iload_n hB dX10_weigh_121 rfl ?_
  refine a_imulN hB dX10_weigh_122 ?_
  refine a_iaddN hB dX10_weigh_123 ?_
  refine a_iload_n hB dX10_weigh_124 rfl ?_
  refine a_iaddN hB dX10_weigh_125 ?_
  refine a_iload hB dX10_weigh_126 rfl ?_
  refine a_if_eqN (tgt := 135) hB dX10_weigh_128 (by decide) (by omega) (fun c128 => ?_) (fun c128 => ?_)
  · refine a_iload_n hB dX10_weigh_135 rfl ?_
    refine a_goto (tgt := 145) hB dX10_weigh_136 (by decide) ?_
    refine a_iastoreN hB dX10_weigh_145 1 rfl (by omega) (by decide) ?_
    refine a_iload hB dX10_weigh_146 rfl ?_
    exact a_iret hB hE rfl dX10_weigh_148 (Nat.le_of_ble_eq_true rfl) (Nat.le_of_ble_eq_true rfl) (AKeep.of rfl) ⟨rfl, by first | (rw [wgZ_y (by omega)]; rfl) | (rw [wgZ_n (by omega)]; rfl)⟩
  · refine a_iload_n hB dX10_weigh_131 rfl ?_
    refine a_if_neN (tgt := 139) hB dX10_weigh_132 (by decide) (by omega) (fun c132 => ?_) (fun c132 => ?_)
    · refine a_aload_n hB dX10_weigh_139 rfl ?_
      refine a_iload_n hB dX10_weigh_140 rfl ?_
      refine a_iload_n hB dX10_weigh_141 rfl ?_
      refine a_callVr (q0 := 0) hB (c_X10_tiltedOf (by omega) (by omega)) mk_X10_tiltedOf ml_X10_54 dX10_weigh_142 rfl rfl [0, 1, 2, 3, 4, 5, 6, 7, 8, 9] rfl (by decide) rfl rfl (fit_of hR (by decide)) (Nat.le_of_ble_eq_true rfl) ?_
      refine a_iastoreN hB dX10_weigh_145 1 rfl (by omega) (by decide) ?_
      refine a_iload hB dX10_weigh_146 rfl ?_
      exact a_iret hB hE rfl dX10_weigh_148 (Nat.le_of_ble_eq_true rfl) (Nat.le_of_ble_eq_true rfl) (AKeep.of rfl) ⟨rfl, by first | (rw [wgZ_y (by omega)]; rfl) | (rw [wgZ_n (by omega)]; rfl)⟩
    · refine a_iload_n hB dX10_weigh_135 rfl ?_
      refine a_goto (tgt := 145) hB dX10_weigh_136 (by decide) ?_
      refine a_iastoreN hB dX10_weigh_145 1 rfl (by omega) (by decide) ?_
      refine a_iload hB dX10_weigh_146 rfl ?_
      exact a_iret hB hE rfl dX10_weigh_148 (Nat.le_of_ble_eq_true rfl) (Nat.le_of_ble_eq_true rfl) (AKeep.of rfl) ⟨rfl, by first | (rw [wgZ_y (by omega)]; rfl) | (rw [wgZ_n (by omega)]; rfl)⟩
def apZ (z : Nat → Nat) (v : Nat) : Nat → Nat → Nat
  | 0 => z
  | i + 1 => uN (apZ z v i) (11 + 6 * apZ z v i 0 + i) (if i ≤ v then 1 else 0)
theorem apZ_0 (z : Nat → Nat) (v : Nat) : ∀ i, apZ z v i 0 = z 0
  | 0 => rfl
  | i + 1 => by
    show (if 0 = 11 + 6 * apZ z v i 0 + i then _ else apZ z v i 0) = z 0
    rw [if_neg (by omega)]
    exact apZ_0 z v i
theorem apZ_y {z : Nat → Nat} {v i : Nat} (h : i ≤ v) : apZ z v (i + 1) = uN (apZ z v i) (11 + 6 * apZ z v i 0 + i) 1 := congrArg (uN (apZ z v i) (11 + 6 * apZ z v i 0 + i)) (if_pos h)
theorem apZ_n {z : Nat → Nat} {v i : Nat} (h : ¬ i ≤ v) : apZ z v (i + 1) = uN (apZ z v i) (11 + 6 * apZ z v i 0 + i) 0 := congrArg (uN (apZ z v i) (11 + 6 * apZ z v i 0 + i)) (if_neg h)
set_option maxHeartbeats 4000000 in
set_option maxRecDepth 100000 in
theorem c_X10_addPart_ok {G : GP} {ma z : Nat → Nat} {sf : Nat → UInt64} {st : Nat} {hh : Nat → Nat} {sh : Nat → UInt64} {len : Nat} {tx : Nat → Nat} {th : Nat} {wy mo td : Nat → Nat} {re lo to : Nat} {rw : Nat → Nat} {ha : Int64} {v : Nat} (hv : v ≤ 5) (h5 : z 0 < 6) (hs : st ≤ 6) : AMd G sX10_addPart [.ref (ma 0), .int (nI v)] (wM G ma z sf st hh sh len tx th wy mo td re lo to rw ha) (some (.int (nI ((uN (lpz (apZ (fg z 6) v 6) ((apZ (fg z 6) v 6) 0) 6) 0 ((lpz (apZ (fg z 6) v 6) ((apZ (fg z 6) v 6) 0) 6) 0 + 1)) 0 - 1)))) (wM G ma (uN (lpz (apZ (fg z 6) v 6) ((apZ (fg z 6) v 6) 0) 6) 0 ((lpz (apZ (fg z 6) v 6) ((apZ (fg z 6) v 6) 0) 6) 0 + 1)) (fs0 sf 4) (min (st + 1) 6) (svH z hh st) (svT sf sh st) len tx 0 wy mo td re lo to rw ha) := by
  refine AM.of (σ := sX10_addPart) (by decide +kernel) (by decide +kernel) (Nat.le_of_ble_eq_true rfl) (fun B hB hR hE0 hN => ?_)
  have hE := BE.of hE0
  have ex : (apZ (fg z 6) v 6) 0 = z 0 := apZ_0 _ v 6
  refine a_aload_n hB dX10_addPart_0 rfl ?_
  refine a_iload_n hB dX10_addPart_1 rfl ?_
  refine a_callSr hB (c_X10_isLoad_N (by omega)) mk_X10_isLoad ml_X10_100 dX10_addPart_2 rfl rfl [] rfl (by decide) (fit_of hR (by decide)) (Nat.le_of_ble_eq_true rfl) ?_
  refine a_if_neN_t (tgt := 12) hB dX10_addPart_5 (by decide) (by omega) (by omega) ?_
  refine a_aload_n hB dX10_addPart_12 rfl ?_
  refine a_get (T := TX10) (ci := 10) hB dX10_addPart_13 0 fl_X10_7 lay_X10 rfl (by decide) rfl 0 rfl rfl ?_
  refine a_iconstN (v := 0) hB dX10_addPart_16 (by decide) ?_
  refine a_ialoadN hB dX10_addPart_17 1 rfl (by omega) (by decide) ?_
  refine a_bipushN (v := 6) hB dX10_addPart_18 (by decide) ?_
  refine a_icmp_neN_t (tgt := 27) hB dX10_addPart_20 (by decide) (by omega) (by omega) (by omega) ?_
  refine a_iconstN (v := 0) hB dX10_addPart_27 (by decide) ?_
  refine a_put (T := TX10) (ci := 10) hB dX10_addPart_28 7 fl_X10_39 lay_X10 tyX10 tyX10_ok nmX10 rfl (by decide) rfl rfl 0 rfl rfl rfl rfl (Nat.le_of_ble_eq_true rfl) ?_
  refine a_aload_n hB dX10_addPart_31 rfl ?_
  refine a_get (T := TX10) (ci := 10) hB dX10_addPart_32 7 fl_X10_39 lay_X10 rfl (by decide) rfl 0 rfl rfl ?_
  refine a_if_leN_t (tgt := 40) hB dX10_addPart_35 (by decide) (by omega) (by omega) ?_
  refine a_aload_n hB dX10_addPart_40 rfl ?_
  refine a_callVd (w2 := wM G ma z sf (min (st + 1) 6) (svH z hh st) (svT sf sh st) len tx 0 wy mo td re lo to rw ha) (q0 := 0) hB (c_X10_save (by omega)) mk_X10_save ml_X10_104 dX10_addPart_41 rfl rfl [0, 1, 2, 3, 4, 5, 6, 7, 8, 9] rfl (by decide) rfl rfl (fit_of hR (by decide)) (Nat.le_of_ble_eq_true rfl) (wput_all rfl rfl) ?_
  refine a_aload_n hB dX10_addPart_44 rfl ?_
  refine a_callVd (w2 := wM G ma (fg z 6) (fs0 sf 4) (min (st + 1) 6) (svH z hh st) (svT sf sh st) len tx 0 wy mo td re lo to rw ha) (q0 := 0) hB (c_X10_forgets) mk_X10_forgets ml_X10_107 dX10_addPart_45 rfl rfl [0, 1, 2, 3, 4, 5, 6, 7, 8, 9] rfl (by decide) rfl rfl (fit_of hR (by decide)) (Nat.le_of_ble_eq_true rfl) (wput_all rfl rfl) ?_
  refine a_istore_n hB dX10_addPart_48 (by decide) ?_
  refine a_iconstN (v := 0) hB dX10_addPart_49 (by decide) ?_
  refine a_istore_n hB dX10_addPart_50 (by decide) ?_
  have lp51 : ∀ (j51 i : Nat), i + j51 = 6 → aW G sX10_addPart B 51 [(0, .ref (ma 0)), (1, .int (nI v)), (2, .int (nI (z 3))), (3, .int (nI i))] [] (wM G ma (apZ (fg z 6) v i) (fs0 sf 4) (min (st + 1) 6) (svH z hh st) (svT sf sh st) len tx 0 wy mo td re lo to rw ha) 0 0 := by
    intro j51
    induction j51 with
    | zero =>
      intro i hi
      obtain rfl : i = 6 := by omega
      refine a_iload_n hB dX10_addPart_51 rfl ?_
      refine a_bipushN (v := 6) hB dX10_addPart_52 (by decide) ?_
      refine a_icmp_geN_t (tgt := 92) hB dX10_addPart_54 (by decide) (by omega) (by omega) (by omega) ?_
      refine a_aload_n hB dX10_addPart_92 rfl ?_
      refine a_aload_n hB dX10_addPart_93 rfl ?_
      refine a_get (T := TX10) (ci := 10) hB dX10_addPart_94 0 fl_X10_7 lay_X10 rfl (by decide) rfl 0 rfl rfl ?_
      refine a_iconstN (v := 0) hB dX10_addPart_97 (by decide) ?_
      refine a_ialoadN hB dX10_addPart_98 1 rfl (by omega) (by decide) ?_
      refine a_callVd (w2 := wM G ma (lpz (apZ (fg z 6) v 6) ((apZ (fg z 6) v 6) 0) 6) (fs0 sf 4) (min (st + 1) 6) (svH z hh st) (svT sf sh st) len tx 0 wy mo td re lo to rw ha) (q0 := 0) hB (c_X10_layPart (z := (apZ (fg z 6) v 6)) (p := (apZ (fg z 6) v 6) 0) (by rw [ex]; omega)) mk_X10_layPart ml_X10_110 dX10_addPart_99 rfl rfl [0, 1, 2, 3, 4, 5, 6, 7, 8, 9] rfl (by decide) rfl rfl (fit_of hR (by decide)) (Nat.le_of_ble_eq_true rfl) (wput_all rfl rfl) ?_
      refine a_aload_n hB dX10_addPart_102 rfl ?_
      refine a_get (T := TX10) (ci := 10) hB dX10_addPart_103 0 fl_X10_7 lay_X10 rfl (by decide) rfl 0 rfl rfl ?_
      refine a_iconstN (v := 0) hB dX10_addPart_106 (by decide) ?_
      refine a_dup2_11 hB dX10_addPart_107 rfl rfl ?_
      refine a_ialoadN hB dX10_addPart_108 1 rfl (by omega) (by decide) ?_
      refine a_iconstN (v := 1) hB dX10_addPart_109 (by decide) ?_
      refine a_iaddN hB dX10_addPart_110 ?_
      refine a_iastoreN hB dX10_addPart_111 1 rfl (by omega) (by decide) ?_
      refine a_aload_n hB dX10_addPart_112 rfl ?_
      refine a_get (T := TX10) (ci := 10) hB dX10_addPart_113 0 fl_X10_7 lay_X10 rfl (by decide) rfl 0 rfl rfl ?_
      refine a_iconstN (v := 0) hB dX10_addPart_116 (by decide) ?_
      refine a_ialoadN hB dX10_addPart_117 1 rfl (by omega) (by decide) ?_
      refine a_iconstN (v := 1) hB dX10_addPart_118 (by decide) ?_
      refine a_isubN hB dX10_addPart_119 (Nat.succ_le_succ (Nat.zero_le _)) ?_
      exact a_iret hB hE rfl dX10_addPart_120 (Nat.le_of_ble_eq_true rfl) (Nat.le_of_ble_eq_true rfl) (AKeep.of rfl) ⟨rfl, rfl⟩
    | succ j51 ih51 =>
      intro i hi
      have e0 : apZ (fg z 6) v i 0 = z 0 := apZ_0 _ v i
      refine a_iload_n hB dX10_addPart_51 rfl ?_
      refine a_bipushN (v := 6) hB dX10_addPart_52 (by decide) ?_
      refine a_icmp_geN_f (tgt := 92) hB dX10_addPart_54 (by decide) (by omega) (by omega) (by omega) ?_
      refine a_aload_n hB dX10_addPart_57 rfl ?_
      refine a_get (T := TX10) (ci := 10) hB dX10_addPart_58 0 fl_X10_7 lay_X10 rfl (by decide) rfl 0 rfl rfl ?_
      refine a_bipushN (v := 11) hB dX10_addPart_61 (by decide) ?_
      refine a_bipushN (v := 6) hB dX10_addPart_63 (by decide) ?_
      refine a_aload_n hB dX10_addPart_65 rfl ?_
      refine a_get (T := TX10) (ci := 10) hB dX10_addPart_66 0 fl_X10_7 lay_X10 rfl (by decide) rfl 0 rfl rfl ?_
      refine a_iconstN (v := 0) hB dX10_addPart_69 (by decide) ?_
      refine a_ialoadN hB dX10_addPart_70 1 rfl (by omega) (by decide) ?_
      refine a_imulN hB dX10_addPart_71 ?_
      refine a_iaddN hB dX10_addPart_72 ?_
      refine a_iload_n hB dX10_addPart_73 rfl ?_
      refine a_iaddN hB dX10_addPart_74 ?_
      refine a_iload_n hB dX10_addPart_75 rfl ?_
      refine a_iload_n hB dX10_addPart_76 rfl ?_
      refine a_icmp_gtN (tgt := 84) hB dX10_addPart_77 (by decide) (by omega) (by omega) (fun c77 => ?_) (fun c77 => ?_)
      · refine a_iconstN (v := 0) hB dX10_addPart_84 (by decide) ?_
        refine a_iastoreN hB dX10_addPart_85 1 rfl (by rw [e0]; omega) (by decide) ?_
        refine a_iincN (b := 1) hB dX10_addPart_86 rfl (by decide) (by decide) ?_
        refine a_goto (tgt := 51) hB dX10_addPart_89 (by decide) ?_
        first | (have e9 := apZ_y (z := fg z 6) (v := v) (i := i) (by omega)) | (have e9 := apZ_n (z := fg z 6) (v := v) (i := i) (by omega))
        exact aW_at [0, 1, 2, 3] rfl rfl (by rw [e9]; rfl) (ih51 (i + 1) (by omega))
      · refine a_iconstN (v := 1) hB dX10_addPart_80 (by decide) ?_
        refine a_goto (tgt := 85) hB dX10_addPart_81 (by decide) ?_
        refine a_iastoreN hB dX10_addPart_85 1 rfl (by rw [e0]; omega) (by decide) ?_
        refine a_iincN (b := 1) hB dX10_addPart_86 rfl (by decide) (by decide) ?_
        refine a_goto (tgt := 51) hB dX10_addPart_89 (by decide) ?_
        first | (have e9 := apZ_y (z := fg z 6) (v := v) (i := i) (by omega)) | (have e9 := apZ_n (z := fg z 6) (v := v) (i := i) (by omega))
        exact aW_at [0, 1, 2, 3] rfl rfl (by rw [e9]; rfl) (ih51 (i + 1) (by omega))
  exact aW_at [0, 1, 2, 3] rfl rfl rfl (lp51 (6) 0 (by omega))
set_option maxHeartbeats 4000000 in
set_option maxRecDepth 100000 in
theorem c_X10_addPart_r {G : GP} {ma z : Nat → Nat} {sf : Nat → UInt64} {st : Nat} {hh : Nat → Nat} {sh : Nat → UInt64} {len : Nat} {tx : Nat → Nat} {th : Nat} {wy mo td : Nat → Nat} {re lo to : Nat} {rw : Nat → Nat} {ha : Int64} {x : Int32} (h : x < nI 0 ∨ nI 5 < x) : AMd G sX10_addPart [.ref (ma 0), .int x] (wM G ma z sf st hh sh len tx th wy mo td re lo to rw ha) (some (.int (nI 0))) (wM G ma z sf st hh sh len tx 1 wy mo td re lo to rw ha) := by
  refine AM.of (σ := sX10_addPart) (by decide +kernel) (by decide +kernel) (Nat.le_of_ble_eq_true rfl) (fun B hB hR hE0 hN => ?_)
  have hE := BE.of hE0
  refine a_aload_n hB dX10_addPart_0 rfl ?_
  refine a_iload_n hB dX10_addPart_1 rfl ?_
  refine a_callSr hB (c_X10_isLoad_n h) mk_X10_isLoad ml_X10_100 dX10_addPart_2 rfl rfl [] rfl (by decide) (fit_of hR (by decide)) (Nat.le_of_ble_eq_true rfl) ?_
  refine a_if_neN_f (tgt := 12) hB dX10_addPart_5 (by decide) (by omega) (by omega) ?_
  refine a_iconstN (v := 1) hB dX10_addPart_8 (by decide) ?_
  refine a_goto (tgt := 28) hB dX10_addPart_9 (by decide) ?_
  refine a_put (T := TX10) (ci := 10) hB dX10_addPart_28 7 fl_X10_39 lay_X10 tyX10 tyX10_ok nmX10 rfl (by decide) rfl rfl 0 rfl rfl rfl rfl (Nat.le_of_ble_eq_true rfl) ?_
  refine a_aload_n hB dX10_addPart_31 rfl ?_
  refine a_get (T := TX10) (ci := 10) hB dX10_addPart_32 7 fl_X10_39 lay_X10 rfl (by decide) rfl 0 rfl rfl ?_
  refine a_if_leN_f (tgt := 40) hB dX10_addPart_35 (by decide) (by omega) (by omega) ?_
  refine a_iconstN (v := 0) hB dX10_addPart_38 (by decide) ?_
  exact a_iret hB hE rfl dX10_addPart_39 (Nat.le_of_ble_eq_true rfl) (Nat.le_of_ble_eq_true rfl) (AKeep.of rfl) ⟨rfl, rfl⟩
set_option maxHeartbeats 4000000 in
set_option maxRecDepth 100000 in
theorem c_X10_addPart_s {G : GP} {ma z : Nat → Nat} {sf : Nat → UInt64} {st : Nat} {hh : Nat → Nat} {sh : Nat → UInt64} {len : Nat} {tx : Nat → Nat} {th : Nat} {wy mo td : Nat → Nat} {re lo to : Nat} {rw : Nat → Nat} {ha : Int64} {v : Nat} (hv : v ≤ 5) (h5 : z 0 = 6) : AMd G sX10_addPart [.ref (ma 0), .int (nI v)] (wM G ma z sf st hh sh len tx th wy mo td re lo to rw ha) (some (.int (nI 0))) (wM G ma z sf st hh sh len tx 2 wy mo td re lo to rw ha) := by
  refine AM.of (σ := sX10_addPart) (by decide +kernel) (by decide +kernel) (Nat.le_of_ble_eq_true rfl) (fun B hB hR hE0 hN => ?_)
  have hE := BE.of hE0
  refine a_aload_n hB dX10_addPart_0 rfl ?_
  refine a_iload_n hB dX10_addPart_1 rfl ?_
  refine a_callSr hB (c_X10_isLoad_N (by omega)) mk_X10_isLoad ml_X10_100 dX10_addPart_2 rfl rfl [] rfl (by decide) (fit_of hR (by decide)) (Nat.le_of_ble_eq_true rfl) ?_
  refine a_if_neN_t (tgt := 12) hB dX10_addPart_5 (by decide) (by omega) (by omega) ?_
  refine a_aload_n hB dX10_addPart_12 rfl ?_
  refine a_get (T := TX10) (ci := 10) hB dX10_addPart_13 0 fl_X10_7 lay_X10 rfl (by decide) rfl 0 rfl rfl ?_
  refine a_iconstN (v := 0) hB dX10_addPart_16 (by decide) ?_
  refine a_ialoadN hB dX10_addPart_17 1 rfl (by omega) (by decide) ?_
  refine a_bipushN (v := 6) hB dX10_addPart_18 (by decide) ?_
  refine a_icmp_neN_f (tgt := 27) hB dX10_addPart_20 (by decide) (by omega) (by omega) (by omega) ?_
  refine a_iconstN (v := 2) hB dX10_addPart_23 (by decide) ?_
  refine a_goto (tgt := 28) hB dX10_addPart_24 (by decide) ?_
  refine a_put (T := TX10) (ci := 10) hB dX10_addPart_28 7 fl_X10_39 lay_X10 tyX10 tyX10_ok nmX10 rfl (by decide) rfl rfl 0 rfl rfl rfl rfl (Nat.le_of_ble_eq_true rfl) ?_
  refine a_aload_n hB dX10_addPart_31 rfl ?_
  refine a_get (T := TX10) (ci := 10) hB dX10_addPart_32 7 fl_X10_39 lay_X10 rfl (by decide) rfl 0 rfl rfl ?_
  refine a_if_leN_f (tgt := 40) hB dX10_addPart_35 (by decide) (by omega) (by omega) ?_
  refine a_iconstN (v := 0) hB dX10_addPart_38 (by decide) ?_
  exact a_iret hB hE rfl dX10_addPart_39 (Nat.le_of_ble_eq_true rfl) (Nat.le_of_ble_eq_true rfl) (AKeep.of rfl) ⟨rfl, rfl⟩
set_option maxHeartbeats 4000000 in
set_option maxRecDepth 100000 in
theorem c_X10_waysFrom {G : GP} {ma z : Nat → Nat} {sf : Nat → UInt64} {st : Nat} {hh : Nat → Nat} {sh : Nat → UInt64} {len : Nat} {tx : Nat → Nat} {th : Nat} {wy mo td : Nat → Nat} {re lo to : Nat} {rw : Nat → Nat} {ha : Int64} {s : Nat} (hs : s < 2 ^ 30) : AMd G sX10_waysFrom [.ref (ma 0), .int (nI s)] (wM G ma z sf st hh sh len tx th wy mo td re lo to rw ha) (some (.long (lN (wfrom wy s)))) (wM G ma z sf st hh sh len tx th wy mo td re lo to rw ha) := by
  refine AM.of (σ := sX10_waysFrom) (by decide +kernel) (by decide +kernel) (Nat.le_of_ble_eq_true rfl) (fun B hB hR hE0 hN => ?_)
  have hE := BE.of hE0
  refine a_lconstN (v := 0) hB dX10_waysFrom_0 (by decide) ?_
  refine a_lstore_n hB dX10_waysFrom_1 (by decide) ?_
  refine a_iload_n hB dX10_waysFrom_2 rfl ?_
  refine a_istore hB dX10_waysFrom_3 (by decide) ?_
  have lp5 : ∀ (j5 i : Nat), i + j5 = 31 - s → aW G sX10_waysFrom B 5 [(0, .ref (ma 0)), (1, .int (nI s)), (2, .long (lN (wfr wy s i))), (4, .int (nI (s + i)))] [] (wM G ma z sf st hh sh len tx th wy mo td re lo to rw ha) 0 0 := by
    intro j5
    induction j5 with
    | zero =>
      intro i hi
      refine a_iload hB dX10_waysFrom_5 rfl ?_
      refine a_bipushN (v := 31) hB dX10_waysFrom_7 (by decide) ?_
      refine a_icmp_geN_t (tgt := 28) hB dX10_waysFrom_9 (by decide) (by omega) (by omega) (by omega) ?_
      refine a_lload_n hB dX10_waysFrom_28 rfl ?_
      exact a_lret hB hE rfl dX10_waysFrom_29 (Nat.le_of_ble_eq_true rfl) (Nat.le_of_ble_eq_true rfl) (AKeep.of rfl) ⟨by rw [show i = 31 - s by omega]; rfl, rfl⟩
    | succ j5 ih5 =>
      intro i hi
      refine a_iload hB dX10_waysFrom_5 rfl ?_
      refine a_bipushN (v := 31) hB dX10_waysFrom_7 (by decide) ?_
      refine a_icmp_geN_f (tgt := 28) hB dX10_waysFrom_9 (by decide) (by omega) (by omega) (by omega) ?_
      refine a_lload_n hB dX10_waysFrom_12 rfl ?_
      refine a_aload_n hB dX10_waysFrom_13 rfl ?_
      refine a_get (T := TX10) (ci := 10) hB dX10_waysFrom_14 8 fl_X10_26 lay_X10 rfl (by decide) rfl 0 rfl rfl ?_
      refine a_iload hB dX10_waysFrom_17 rfl ?_
      refine a_laloadN hB dX10_waysFrom_19 6 rfl (by omega) (by decide) ?_
      refine a_laddN hB dX10_waysFrom_20 ?_
      refine a_lstore_n hB dX10_waysFrom_21 (by decide) ?_
      refine a_iincN (b := 1) hB dX10_waysFrom_22 rfl (by decide) (by decide) ?_
      refine a_goto (tgt := 5) hB dX10_waysFrom_25 (by decide) ?_
      exact aW_at [0, 1, 2, 3] rfl rfl rfl (ih5 (i + 1) (by omega))
  exact aW_at [0, 1, 2, 3] rfl rfl rfl (lp5 (31 - s) 0 (by omega))
