/-- the model's state as a plant -/
def ZP (z : Nat → Nat) (sf : Nat → UInt64) : PV := mkP (wq z) (tq z) (mkS (fun p => z (5 + p)) (z 3) (z 4) (sf 0) (sf 1) (sf 2) (sf 3)) (z 0) (z 1) (z 2)
theorem mxN_eq {f g : Nat → Nat} : ∀ n, (∀ j, j < n → f j = g j) → mxN f n = mxN g n
  | 0, _ => rfl
  | n + 1, h => by
    show max (mxN f n) (f n) = max (mxN g n) (g n)
    rw [mxN_eq n (fun j hj => h j (Nat.lt_succ_of_lt hj)), h n (Nat.lt_succ_self n)]
theorem bm_far {wt : Nat → Nat} {parts : Nat} : ∀ d n, 5 * d < n → bm wt parts d n = 0
  | 0, n, h => if_neg (by omega)
  | d + 1, n, h => by
    unfold bm
    refine Nat.le_zero.mp (mxN_leB 6 (fun l hl => ?_))
    rw [bm_far d (n - l) (by omega)]
    exact Nat.le_refl _
theorem bm_bs {wt : Nat → Nat} {parts : Nat} : ∀ d n, d ≤ 6 → n < 31 → bm wt parts d n = bs wt parts d n
  | 0, n, _, _ => rfl
  | d + 1, n, h, hn => by
    unfold bm bs
    refine mxN_eq 6 (fun l _ => ?_)
    rw [if_pos (show n - l < 31 by omega), bm_bs d (n - l) (by omega) (by omega)]
theorem bm_gm {P : PV} {p n : Nat} (h6 : P.parts ≤ 6) (hp : p ≤ P.parts) : bm P.wt P.parts (P.parts - p) n = gm (lkF P zN) p n := by
  unfold lkF
  rw [gm_lk hp (Nat.zero_le _)]
  by_cases h : n < 31
  · rw [if_pos h]; exact bm_bs _ _ (by omega) h
  · rw [if_neg h]; exact bm_far _ _ (by omega)
theorem floM_flo {P : PV} {p n : Nat} (h6 : P.parts ≤ 6) (hp : p < P.parts) : floM P.wt P.parts p n = flo P.wt (lkF P zN) p n := by
  unfold floM flo
  rw [bm_gm h6 (Nat.le_of_lt hp)]
  have : (fun l => gt P.wt p l * bm P.wt P.parts (P.parts - (p + 1)) (n - l)) = wwi P.wt (lkF P zN) p n := funext fun l => by
    unfold wwi
    rw [bm_gm h6 (show p + 1 ≤ P.parts by omega)]
  rw [this]
theorem neeM_nee {P : PV} {lim : Nat} (h6 : P.parts ≤ 6) : ∀ p, p ≤ P.parts → neeM P.wt P.parts lim p = nee P.wt (lkF P zN) lim p
  | 0, _ => rfl
  | p + 1, h => by
    show neeM P.wt P.parts lim p - floM P.wt P.parts p (neeM P.wt P.parts lim p) = _
    rw [neeM_nee h6 p (by omega), floM_flo h6 (by omega)]
    rfl
theorem vL_0 {P : PV} {p : Nat} (h6 : P.parts ≤ 6) (h : bm P.wt P.parts P.parts P.limit = 0) : vL P p = -1 := by
  have e := bm_gm (P := P) (p := 0) (n := P.limit) h6 (Nat.zero_le _)
  unfold vL lik
  exact if_pos (e.symm.trans h)
theorem vL_n {P : PV} {p : Nat} (h6 : P.parts ≤ 6) (hp : p < P.parts) (h : ¬ bm P.wt P.parts P.parts P.limit = 0) : vL P p = nI (ldM P.wt P.parts P.limit (p + 1)) := by
  have e := bm_gm (P := P) (p := 0) (n := P.limit) h6 (Nat.zero_le _)
  unfold vL lik
  rw [if_neg (fun q => h (e.trans q))]
  show _ = nI (floM P.wt P.parts p (neeM P.wt P.parts P.limit p))
  rw [neeM_nee h6 p (by omega), floM_flo h6 hp]
theorem oM_eq {P : PV} {wo : Int32} {f : Nat → Nat} {s : Nat} (h0 : ¬ wfrom (cnt P wo) 0 = 0) : FP.ddiv (FP.l2d (lN (wfrom (cnF P.wt wo f P.parts) s))) (FP.l2d (lN (wfrom (cnF P.wt wo f P.parts) 0))) = vO P wo s := by
  unfold vO odds
  rw [if_neg h0, wfrom_cnt, wfrom_cnt]
theorem mP_eq {z : Nat → Nat} {sf : Nat → UInt64} {p : Nat} : ∀ k, mP z p k = vP (ZP z sf) p k
  | 0 => rfl | 1 => rfl | 2 => rfl | 3 => rfl | 4 => rfl | 5 => rfl | _ + 6 => rfl
theorem c_X10_likeliestLoad {G : GP} {ma z : Nat → Nat} {sf : Nat → UInt64} {st : Nat} {hh : Nat → Nat} {sh : Nat → UInt64} {len : Nat} {tx : Nat → Nat} {th : Nat} {wy mo td : Nat → Nat} {re lo to : Nat} {rw : Nat → Nat} {ha : Int64} {p : Nat} (h6 : z 0 ≤ 6) (hw : ∀ p l, p < 6 → l < 6 → gt (wq z) p l ≤ 9) (hl : z 1 ≤ 99) (hp : p < z 0) : AMd G sX10_likeliestLoad [.ref (ma 0), .int (nI p)] (wM G ma z sf st hh sh len tx th wy mo td re lo to rw ha) (some (.int (vL (ZP z sf) p))) (wM G ma z sf st hh sh len tx th wy (lkm (wq z) mo (z 0) 0 0) td re lo to rw ha) := by
  by_cases h : bm (wq z) (z 0) (z 0) (z 1) = 0
  · rw [vL_0 (P := ZP z sf) h6 h]; exact c_X10_likeliestLoad_0 h6 hw hl h
  · rw [vL_n (P := ZP z sf) h6 hp h]; exact c_X10_likeliestLoad_n h6 hw hl hp h
set_option maxHeartbeats 4000000 in
set_option maxRecDepth 100000 in
theorem c_X10_likeliest_ok {G : GP} {ma z : Nat → Nat} {sf : Nat → UInt64} {st : Nat} {hh : Nat → Nat} {sh : Nat → UInt64} {len : Nat} {tx : Nat → Nat} {th : Nat} {wy mo td : Nat → Nat} {re lo to : Nat} {rw : Nat → Nat} {ha : Int64} {p : Nat} (h6 : z 0 ≤ 6) (hw : ∀ p l, p < 6 → l < 6 → gt (wq z) p l ≤ 9) (hl : z 1 ≤ 99) (hp : p < z 0) : AM G sX10_likeliest 0 0 [.ref (ma 0), .int (nI p)] (wM G ma z sf st hh sh len tx th wy mo td re lo to rw ha) (fun rv w => rv = some (.int (vL (ZP z sf) p)) ∧ ∃ (wy mo rw : Nat → Nat), w = wM G ma z sf st hh sh len tx 0 wy mo td re lo to rw ha) := by
  refine AM.of (σ := sX10_likeliest) (by decide +kernel) (by decide +kernel) (Nat.le_of_ble_eq_true rfl) (fun B hB hR hE0 hN => ?_)
  have hE := BE.of hE0
  refine a_aload_n hB dX10_likeliest_0 rfl ?_
  refine a_aload_n hB dX10_likeliest_1 rfl ?_
  refine a_iload_n hB dX10_likeliest_2 rfl ?_
  refine a_callVr (q0 := 0) hB (c_X10_isPart_N hp h6) mk_X10_isPart ml_X10_113 dX10_likeliest_3 rfl rfl [0, 1, 2, 3, 4, 5, 6, 7, 8, 9] rfl (by decide) rfl rfl (fit_of hR (by decide)) (Nat.le_of_ble_eq_true rfl) ?_
  refine a_if_eqN_f (tgt := 13) hB dX10_likeliest_6 (by decide) (by omega) (by omega) ?_
  refine a_iconstN (v := 0) hB dX10_likeliest_9 (by decide) ?_
  refine a_goto (tgt := 14) hB dX10_likeliest_10 (by decide) ?_
  refine a_put (T := TX10) (ci := 10) hB dX10_likeliest_14 7 fl_X10_39 lay_X10 tyX10 tyX10_ok nmX10 rfl (by decide) rfl rfl 0 rfl rfl rfl rfl (Nat.le_of_ble_eq_true rfl) ?_
  refine a_aload_n hB dX10_likeliest_17 rfl ?_
  refine a_get (T := TX10) (ci := 10) hB dX10_likeliest_18 7 fl_X10_39 lay_X10 rfl (by decide) rfl 0 rfl rfl ?_
  refine a_if_leN_t (tgt := 28) hB dX10_likeliest_21 (by decide) (by omega) (by omega) ?_
  refine a_aload_n hB dX10_likeliest_28 rfl ?_
  refine a_iload_n hB dX10_likeliest_29 rfl ?_
  refine a_callVd (w2 := wM G ma z sf st hh sh len tx 0 wy (lkm (wq z) mo (z 0) 0 0) td re lo to rw ha) (q0 := 0) hB (c_X10_likeliestLoad h6 hw hl hp) mk_X10_likeliestLoad ml_X10_164 dX10_likeliest_30 rfl rfl [0, 1, 2, 3, 4, 5, 6, 7, 8, 9] rfl (by decide) rfl rfl (fit_of hR (by decide)) (Nat.le_of_ble_eq_true rfl) (wput_all rfl rfl) ?_
  exact a_iret hB hE rfl dX10_likeliest_33 (Nat.le_of_ble_eq_true rfl) (Nat.le_of_ble_eq_true rfl) (AKeep.of rfl) ⟨rfl, _, _, _, rfl⟩
theorem c_X10_counted {G : GP} {ma z : Nat → Nat} {sf : Nat → UInt64} {st : Nat} {hh : Nat → Nat} {sh : Nat → UInt64} {len : Nat} {tx : Nat → Nat} {th : Nat} {wy mo td : Nat → Nat} {re lo to : Nat} {rw : Nat → Nat} {ha : Int64} {k : Nat} (h6 : z 0 ≤ 6) (hw : ∀ p l, p < 6 → l < 6 → gt (wq z) p l ≤ 9) (hpos : ∀ p, p < z 0 → ∃ l, l < 6 ∧ 0 < gt (wq z) p l) (hl : z 1 ≤ 99) (hk : k ≤ 8) : AMd G sX10_counted [.ref (ma 0), .int (nI k)] (wM G ma z sf st hh sh len tx th wy mo td re lo to rw ha) (some (.int (nI (vC (ZP z sf) st k)))) (wM G ma z sf st hh sh len tx th wy (if k = 7 then (lkm (wq z) mo (z 0) 0 0) else mo) td re lo to rw ha) := by
  rcases (show k = 0 ∨ k = 1 ∨ k = 2 ∨ k = 3 ∨ k = 4 ∨ k = 5 ∨ k = 6 ∨ k = 7 ∨ k = 8 by omega) with rfl | rfl | rfl | rfl | rfl | rfl | rfl | rfl | rfl
  · rw [if_neg (by decide)]; exact c_X10_counted_0 h6 hw hpos
  · rw [if_neg (by decide)]; exact c_X10_counted_1 h6 hw hpos
  · rw [if_neg (by decide)]; exact c_X10_counted_2 h6 hw hpos
  · rw [if_neg (by decide)]; exact c_X10_counted_3 h6 hw hpos
  · rw [if_neg (by decide)]; exact c_X10_counted_4 h6 hw hpos
  · rw [if_neg (by decide)]; exact c_X10_counted_5 h6 hw hpos
  · rw [if_neg (by decide)]; exact c_X10_counted_6 h6 hw hpos
  · rw [if_pos rfl, show vC (ZP z sf) st 7 = bm (wq z) (z 0) (z 0) (z 1) from (bm_gm (P := ZP z sf) (p := 0) (n := z 1) h6 (Nat.zero_le _)).symm]; exact c_X10_counted_7 h6 hw hl
  · rw [if_neg (by decide)]; exact c_X10_counted_8 h6 hw hpos
set_option maxHeartbeats 4000000 in
set_option maxRecDepth 100000 in
theorem c_X10_count_ok {G : GP} {ma z : Nat → Nat} {sf : Nat → UInt64} {st : Nat} {hh : Nat → Nat} {sh : Nat → UInt64} {len : Nat} {tx : Nat → Nat} {th : Nat} {wy mo td : Nat → Nat} {re lo to : Nat} {rw : Nat → Nat} {ha : Int64} {k : Nat} (h6 : z 0 ≤ 6) (hw : ∀ p l, p < 6 → l < 6 → gt (wq z) p l ≤ 9) (hpos : ∀ p, p < z 0 → ∃ l, l < 6 ∧ 0 < gt (wq z) p l) (hl : z 1 ≤ 99) (hk : k ≤ 8) : AM G sX10_count 0 0 [.ref (ma 0), .int (nI k)] (wM G ma z sf st hh sh len tx th wy mo td re lo to rw ha) (fun rv w => rv = some (.int (nI (vC (ZP z sf) st k))) ∧ ∃ (wy mo rw : Nat → Nat), w = wM G ma z sf st hh sh len tx 0 wy mo td re lo to rw ha) := by
  refine AM.of (σ := sX10_count) (by decide +kernel) (by decide +kernel) (Nat.le_of_ble_eq_true rfl) (fun B hB hR hE0 hN => ?_)
  have hE := BE.of hE0
  refine a_aload_n hB dX10_count_0 rfl ?_
  refine a_iload_n hB dX10_count_1 rfl ?_
  refine a_iconstN (v := 0) hB dX10_count_2 (by decide) ?_
  refine a_bipushN (v := 8) hB dX10_count_3 (by decide) ?_
  refine a_callSr hB (c_X10_within_N (by omega) (by omega) (by omega)) mk_X10_within ml_X10_46 dX10_count_5 rfl rfl [] rfl (by decide) (fit_of hR (by decide)) (Nat.le_of_ble_eq_true rfl) ?_
  refine a_if_eqN_f (tgt := 15) hB dX10_count_8 (by decide) (by omega) (by omega) ?_
  refine a_iconstN (v := 0) hB dX10_count_11 (by decide) ?_
  refine a_goto (tgt := 16) hB dX10_count_12 (by decide) ?_
  refine a_put (T := TX10) (ci := 10) hB dX10_count_16 7 fl_X10_39 lay_X10 tyX10 tyX10_ok nmX10 rfl (by decide) rfl rfl 0 rfl rfl rfl rfl (Nat.le_of_ble_eq_true rfl) ?_
  refine a_aload_n hB dX10_count_19 rfl ?_
  refine a_get (T := TX10) (ci := 10) hB dX10_count_20 7 fl_X10_39 lay_X10 rfl (by decide) rfl 0 rfl rfl ?_
  refine a_if_leN_t (tgt := 30) hB dX10_count_23 (by decide) (by omega) (by omega) ?_
  refine a_aload_n hB dX10_count_30 rfl ?_
  refine a_iload_n hB dX10_count_31 rfl ?_
  refine a_callVd (w2 := wM G ma z sf st hh sh len tx 0 wy (if k = 7 then (lkm (wq z) mo (z 0) 0 0) else mo) td re lo to rw ha) (q0 := 0) hB (c_X10_counted h6 hw hpos hl hk) mk_X10_counted ml_X10_171 dX10_count_32 rfl rfl [0, 1, 2, 3, 4, 5, 6, 7, 8, 9] rfl (by decide) rfl rfl (fit_of hR (by decide)) (Nat.le_of_ble_eq_true rfl) (wput_all rfl rfl) ?_
  exact a_iret hB hE rfl dX10_count_35 (Nat.le_of_ble_eq_true rfl) (Nat.le_of_ble_eq_true rfl) (AKeep.of rfl) ⟨rfl, _, _, _, rfl⟩
theorem c_X10_odds {G : GP} {ma z : Nat → Nat} {sf : Nat → UInt64} {st : Nat} {hh : Nat → Nat} {sh : Nat → UInt64} {len : Nat} {tx : Nat → Nat} {th : Nat} {wy mo td : Nat → Nat} {re lo to : Nat} {rw : Nat → Nat} {ha : Int64} {s : Nat} {wo : Int32} (h6 : z 0 ≤ 6) (hw : ∀ p, p < z 0 → ∀ l, l < 6 → gt (wq z) p l < 2 ^ 31) (hs : s < 2 ^ 30) (ho : oddOK (cnt (ZP z sf) wo) s) (h0 : ¬ wfrom (cnt (ZP z sf) wo) 0 = 0) : AMd G sX10_oddsBy [.ref (ma 0), .int (nI s), .int wo] (wM G ma z sf st hh sh len tx th wy mo td re lo to rw ha) (some (.double (vO (ZP z sf) wo s))) (wM G ma z sf st hh sh len tx th (cnF (wq z) wo wy (z 0)) mo td re lo to rw ha) := by
  have e := oM_eq (P := ZP z sf) (wo := wo) (f := wy) (s := s) h0
  have v := ho.2 h0
  rw [← wfrom_cnt (ZP z sf) wo wy, ← wfrom_cnt (ZP z sf) wo wy] at v
  rw [← e]
  exact c_X10_oddsBy h6 hw hs v
theorem c_X10_bySamples {G : GP} {ma z : Nat → Nat} {sf : Nat → UInt64} {st : Nat} {hh : Nat → Nat} {sh : Nat → UInt64} {len : Nat} {tx : Nat → Nat} {th : Nat} {wy mo td : Nat → Nat} {re lo to : Nat} {rw : Nat → Nat} {ha : Int64} {x : UInt64} (hb : z 3 < 2 ^ 31) (hv : (ZP z sf).sv.shOK x) : AMd G sX10_bySamples [.ref (ma 0), .double x] (wM G ma z sf st hh sh len tx th wy mo td re lo to rw ha) (some (.double ((ZP z sf).sv.share x))) (wM G ma z sf st hh sh len tx th wy mo td re lo to rw ha) := by
  by_cases h : z 3 = 0
  · rw [show (ZP z sf).sv.share x = FP.dconst0 from if_pos h]; exact c_X10_bySamples_0 h
  · rw [show (ZP z sf).sv.share x = FP.ddiv x (FP.i2d (nI (z 3))) from if_neg h]; exact c_X10_bySamples_n h hb (hv h)
theorem c_X10_effective {G : GP} {ma z : Nat → Nat} {sf : Nat → UInt64} {st : Nat} {hh : Nat → Nat} {sh : Nat → UInt64} {len : Nat} {tx : Nat → Nat} {th : Nat} {wy mo td : Nat → Nat} {re lo to : Nat} {rw : Nat → Nat} {ha : Int64} (hb : z 3 < 2 ^ 31) (he : (z 3 = 0 → Op.cmpValue (FP.dcmp (sf 2) FP.dconst0) .l ≤ 0) ∧ (¬ z 3 = 0 → ¬ Op.cmpValue (FP.dcmp (sf 2) FP.dconst0) .l ≤ 0)) (hv : (ZP z sf).sv.efOK) : AMd G sX10_effective [.ref (ma 0)] (wM G ma z sf st hh sh len tx th wy mo td re lo to rw ha) (some (.double (ZP z sf).sv.eff)) (wM G ma z sf st hh sh len tx th wy mo td re lo to rw ha) := by
  by_cases h : z 3 = 0
  · rw [show (ZP z sf).sv.eff = FP.dconst0 from if_pos (he.1 h)]; exact c_X10_effective_0 h
  · rw [show (ZP z sf).sv.eff = FP.ddiv (FP.dmul (sf 1) (sf 1)) (sf 2) from if_neg (he.2 h)]; exact c_X10_effective_n h hb (hv.1 (he.2 h)) (hv.2 (he.2 h))
set_option maxHeartbeats 4000000 in
set_option maxRecDepth 100000 in
theorem c_X10_measured_0 {G : GP} {ma z : Nat → Nat} {sf : Nat → UInt64} {st : Nat} {hh : Nat → Nat} {sh : Nat → UInt64} {len : Nat} {tx : Nat → Nat} {th : Nat} {wy mo td : Nat → Nat} {re lo to : Nat} {rw : Nat → Nat} {ha : Int64} (h6 : z 0 ≤ 6) (hw : ∀ p, p < z 0 → ∀ l, l < 6 → gt (wq z) p l < 2 ^ 31) (hl : z 1 ≤ 99) (hn : z 3 < 2 ^ 31) (hm : (ZP z sf).mOK) (h0 : ¬ wfrom (cnt (ZP z sf) (-1)) 0 = 0) (he : (z 3 = 0 → Op.cmpValue (FP.dcmp (sf 2) FP.dconst0) .l ≤ 0) ∧ (¬ z 3 = 0 → ¬ Op.cmpValue (FP.dcmp (sf 2) FP.dconst0) .l ≤ 0))  : AM G sX10_measured 0 0 [.ref (ma 0), .int (nI 0)] (wM G ma z sf st hh sh len tx th wy mo td re lo to rw ha) (fun rv w => rv = some (.double (vM (ZP z sf) 0)) ∧ ∃ (wy mo rw : Nat → Nat), w = wM G ma z sf st hh sh len tx th wy mo td re lo to rw ha) := by
  refine AM.of (σ := sX10_measured) (by decide +kernel) (by decide +kernel) (Nat.le_of_ble_eq_true rfl) (fun B hB hR hE0 hN => ?_)
  have hE := BE.of hE0
  refine a_iload_n hB dX10_measured_0 rfl ?_
  refine a_tableIn (off := 39) (tgt := 40) hB dX10_measured_1 (by decide) (by decide) (by decide) (by decide) ?_
  refine a_aload_n hB dX10_measured_40 rfl ?_
  refine a_aload_n hB dX10_measured_41 rfl ?_
  refine a_get (T := TX10) (ci := 10) hB dX10_measured_42 0 fl_X10_7 lay_X10 rfl (by decide) rfl 0 rfl rfl ?_
  refine a_iconstN (v := 1) hB dX10_measured_45 (by decide) ?_
  refine a_ialoadN hB dX10_measured_46 1 rfl (by omega) (by decide) ?_
  refine a_iconst (v := -1) hB dX10_measured_47 (by decide) ?_
  refine a_callVd (w2 := wM G ma z sf st hh sh len tx th (cnF (wq z) (-1) wy (z 0)) mo td re lo to rw ha) (q0 := 0) hB (c_X10_odds (s := z 1) h6 hw (by omega) hm.1 h0) mk_X10_oddsBy ml_X10_174 dX10_measured_48 rfl rfl [0, 1, 2, 3, 4, 5, 6, 7, 8, 9] rfl (by decide) rfl rfl (fit_of hR (by decide)) (Nat.le_of_ble_eq_true rfl) (wput_all rfl rfl) ?_
  exact a_dret hB hE rfl dX10_measured_51 (Nat.le_of_ble_eq_true rfl) (Nat.le_of_ble_eq_true rfl) (AKeep.of rfl) ⟨rfl, _, _, _, rfl⟩
set_option maxHeartbeats 4000000 in
set_option maxRecDepth 100000 in
theorem c_X10_measured_1 {G : GP} {ma z : Nat → Nat} {sf : Nat → UInt64} {st : Nat} {hh : Nat → Nat} {sh : Nat → UInt64} {len : Nat} {tx : Nat → Nat} {th : Nat} {wy mo td : Nat → Nat} {re lo to : Nat} {rw : Nat → Nat} {ha : Int64} (h6 : z 0 ≤ 6) (hw : ∀ p, p < z 0 → ∀ l, l < 6 → gt (wq z) p l < 2 ^ 31) (hl : z 1 ≤ 99) (hn : z 3 < 2 ^ 31) (hm : (ZP z sf).mOK) (h0 : ¬ wfrom (cnt (ZP z sf) (-1)) 0 = 0) (he : (z 3 = 0 → Op.cmpValue (FP.dcmp (sf 2) FP.dconst0) .l ≤ 0) ∧ (¬ z 3 = 0 → ¬ Op.cmpValue (FP.dcmp (sf 2) FP.dconst0) .l ≤ 0))  : AM G sX10_measured 0 0 [.ref (ma 0), .int (nI 1)] (wM G ma z sf st hh sh len tx th wy mo td re lo to rw ha) (fun rv w => rv = some (.double (vM (ZP z sf) 1)) ∧ ∃ (wy mo rw : Nat → Nat), w = wM G ma z sf st hh sh len tx th wy mo td re lo to rw ha) := by
  refine AM.of (σ := sX10_measured) (by decide +kernel) (by decide +kernel) (Nat.le_of_ble_eq_true rfl) (fun B hB hR hE0 hN => ?_)
  have hE := BE.of hE0
  refine a_iload_n hB dX10_measured_0 rfl ?_
  refine a_tableIn (off := 51) (tgt := 52) hB dX10_measured_1 (by decide) (by decide) (by decide) (by decide) ?_
  refine a_aload_n hB dX10_measured_52 rfl ?_
  refine a_aload_n hB dX10_measured_53 rfl ?_
  refine a_get (T := TX10) (ci := 10) hB dX10_measured_54 1 fl_X10_13 lay_X10 rfl (by decide) rfl 0 rfl rfl ?_
  refine a_iconstN (v := 0) hB dX10_measured_57 (by decide) ?_
  refine a_daloadN hB dX10_measured_58 2 rfl (by omega) (by decide) ?_
  refine a_callVr (q0 := 0) hB (c_X10_bySamples hn hm.2.1) mk_X10_bySamples ml_X10_178 dX10_measured_59 rfl rfl [0, 1, 2, 3, 4, 5, 6, 7, 8, 9] rfl (by decide) rfl rfl (fit_of hR (by decide)) (Nat.le_of_ble_eq_true rfl) ?_
  exact a_dret hB hE rfl dX10_measured_62 (Nat.le_of_ble_eq_true rfl) (Nat.le_of_ble_eq_true rfl) (AKeep.of rfl) ⟨rfl, _, _, _, rfl⟩
set_option maxHeartbeats 4000000 in
set_option maxRecDepth 100000 in
theorem c_X10_measured_2 {G : GP} {ma z : Nat → Nat} {sf : Nat → UInt64} {st : Nat} {hh : Nat → Nat} {sh : Nat → UInt64} {len : Nat} {tx : Nat → Nat} {th : Nat} {wy mo td : Nat → Nat} {re lo to : Nat} {rw : Nat → Nat} {ha : Int64} (h6 : z 0 ≤ 6) (hw : ∀ p, p < z 0 → ∀ l, l < 6 → gt (wq z) p l < 2 ^ 31) (hl : z 1 ≤ 99) (hn : z 3 < 2 ^ 31) (hm : (ZP z sf).mOK) (h0 : ¬ wfrom (cnt (ZP z sf) (-1)) 0 = 0) (he : (z 3 = 0 → Op.cmpValue (FP.dcmp (sf 2) FP.dconst0) .l ≤ 0) ∧ (¬ z 3 = 0 → ¬ Op.cmpValue (FP.dcmp (sf 2) FP.dconst0) .l ≤ 0))  : AM G sX10_measured 0 0 [.ref (ma 0), .int (nI 2)] (wM G ma z sf st hh sh len tx th wy mo td re lo to rw ha) (fun rv w => rv = some (.double (vM (ZP z sf) 2)) ∧ ∃ (wy mo rw : Nat → Nat), w = wM G ma z sf st hh sh len tx th wy mo td re lo to rw ha) := by
  refine AM.of (σ := sX10_measured) (by decide +kernel) (by decide +kernel) (Nat.le_of_ble_eq_true rfl) (fun B hB hR hE0 hN => ?_)
  have hE := BE.of hE0
  refine a_iload_n hB dX10_measured_0 rfl ?_
  refine a_tableIn (off := 62) (tgt := 63) hB dX10_measured_1 (by decide) (by decide) (by decide) (by decide) ?_
  refine a_aload_n hB dX10_measured_63 rfl ?_
  refine a_aload_n hB dX10_measured_64 rfl ?_
  refine a_get (T := TX10) (ci := 10) hB dX10_measured_65 0 fl_X10_7 lay_X10 rfl (by decide) rfl 0 rfl rfl ?_
  refine a_iconstN (v := 4) hB dX10_measured_68 (by decide) ?_
  refine a_ialoadN hB dX10_measured_69 1 rfl (by omega) (by decide) ?_
  refine a_i2d hB dX10_measured_70 ?_
  refine a_callVr (q0 := 0) hB (c_X10_bySamples hn hm.2.2.1) mk_X10_bySamples ml_X10_178 dX10_measured_71 rfl rfl [0, 1, 2, 3, 4, 5, 6, 7, 8, 9] rfl (by decide) rfl rfl (fit_of hR (by decide)) (Nat.le_of_ble_eq_true rfl) ?_
  exact a_dret hB hE rfl dX10_measured_74 (Nat.le_of_ble_eq_true rfl) (Nat.le_of_ble_eq_true rfl) (AKeep.of rfl) ⟨rfl, _, _, _, rfl⟩
set_option maxHeartbeats 4000000 in
set_option maxRecDepth 100000 in
theorem c_X10_measured_3 {G : GP} {ma z : Nat → Nat} {sf : Nat → UInt64} {st : Nat} {hh : Nat → Nat} {sh : Nat → UInt64} {len : Nat} {tx : Nat → Nat} {th : Nat} {wy mo td : Nat → Nat} {re lo to : Nat} {rw : Nat → Nat} {ha : Int64} (h6 : z 0 ≤ 6) (hw : ∀ p, p < z 0 → ∀ l, l < 6 → gt (wq z) p l < 2 ^ 31) (hl : z 1 ≤ 99) (hn : z 3 < 2 ^ 31) (hm : (ZP z sf).mOK) (h0 : ¬ wfrom (cnt (ZP z sf) (-1)) 0 = 0) (he : (z 3 = 0 → Op.cmpValue (FP.dcmp (sf 2) FP.dconst0) .l ≤ 0) ∧ (¬ z 3 = 0 → ¬ Op.cmpValue (FP.dcmp (sf 2) FP.dconst0) .l ≤ 0))  : AM G sX10_measured 0 0 [.ref (ma 0), .int (nI 3)] (wM G ma z sf st hh sh len tx th wy mo td re lo to rw ha) (fun rv w => rv = some (.double (vM (ZP z sf) 3)) ∧ ∃ (wy mo rw : Nat → Nat), w = wM G ma z sf st hh sh len tx th wy mo td re lo to rw ha) := by
  refine AM.of (σ := sX10_measured) (by decide +kernel) (by decide +kernel) (Nat.le_of_ble_eq_true rfl) (fun B hB hR hE0 hN => ?_)
  have hE := BE.of hE0
  refine a_iload_n hB dX10_measured_0 rfl ?_
  refine a_tableIn (off := 74) (tgt := 75) hB dX10_measured_1 (by decide) (by decide) (by decide) (by decide) ?_
  refine a_aload_n hB dX10_measured_75 rfl ?_
  refine a_aload_n hB dX10_measured_76 rfl ?_
  refine a_get (T := TX10) (ci := 10) hB dX10_measured_77 1 fl_X10_13 lay_X10 rfl (by decide) rfl 0 rfl rfl ?_
  refine a_iconstN (v := 1) hB dX10_measured_80 (by decide) ?_
  refine a_daloadN hB dX10_measured_81 2 rfl (by omega) (by decide) ?_
  refine a_callVr (q0 := 0) hB (c_X10_bySamples hn hm.2.2.2.1) mk_X10_bySamples ml_X10_178 dX10_measured_82 rfl rfl [0, 1, 2, 3, 4, 5, 6, 7, 8, 9] rfl (by decide) rfl rfl (fit_of hR (by decide)) (Nat.le_of_ble_eq_true rfl) ?_
  exact a_dret hB hE rfl dX10_measured_85 (Nat.le_of_ble_eq_true rfl) (Nat.le_of_ble_eq_true rfl) (AKeep.of rfl) ⟨rfl, _, _, _, rfl⟩
set_option maxHeartbeats 4000000 in
set_option maxRecDepth 100000 in
theorem c_X10_measured_4 {G : GP} {ma z : Nat → Nat} {sf : Nat → UInt64} {st : Nat} {hh : Nat → Nat} {sh : Nat → UInt64} {len : Nat} {tx : Nat → Nat} {th : Nat} {wy mo td : Nat → Nat} {re lo to : Nat} {rw : Nat → Nat} {ha : Int64} (h6 : z 0 ≤ 6) (hw : ∀ p, p < z 0 → ∀ l, l < 6 → gt (wq z) p l < 2 ^ 31) (hl : z 1 ≤ 99) (hn : z 3 < 2 ^ 31) (hm : (ZP z sf).mOK) (h0 : ¬ wfrom (cnt (ZP z sf) (-1)) 0 = 0) (he : (z 3 = 0 → Op.cmpValue (FP.dcmp (sf 2) FP.dconst0) .l ≤ 0) ∧ (¬ z 3 = 0 → ¬ Op.cmpValue (FP.dcmp (sf 2) FP.dconst0) .l ≤ 0))  : AM G sX10_measured 0 0 [.ref (ma 0), .int (nI 4)] (wM G ma z sf st hh sh len tx th wy mo td re lo to rw ha) (fun rv w => rv = some (.double (vM (ZP z sf) 4)) ∧ ∃ (wy mo rw : Nat → Nat), w = wM G ma z sf st hh sh len tx th wy mo td re lo to rw ha) := by
  refine AM.of (σ := sX10_measured) (by decide +kernel) (by decide +kernel) (Nat.le_of_ble_eq_true rfl) (fun B hB hR hE0 hN => ?_)
  have hE := BE.of hE0
  refine a_iload_n hB dX10_measured_0 rfl ?_
  refine a_tableIn (off := 85) (tgt := 86) hB dX10_measured_1 (by decide) (by decide) (by decide) (by decide) ?_
  refine a_aload_n hB dX10_measured_86 rfl ?_
  refine a_callVr (q0 := 0) hB (c_X10_effective hn he hm.2.2.2.2.1) mk_X10_effective ml_X10_182 dX10_measured_87 rfl rfl [0, 1, 2, 3, 4, 5, 6, 7, 8, 9] rfl (by decide) rfl rfl (fit_of hR (by decide)) (Nat.le_of_ble_eq_true rfl) ?_
  exact a_dret hB hE rfl dX10_measured_90 (Nat.le_of_ble_eq_true rfl) (Nat.le_of_ble_eq_true rfl) (AKeep.of rfl) ⟨rfl, _, _, _, rfl⟩
set_option maxHeartbeats 4000000 in
set_option maxRecDepth 100000 in
theorem c_X10_measured_5 {G : GP} {ma z : Nat → Nat} {sf : Nat → UInt64} {st : Nat} {hh : Nat → Nat} {sh : Nat → UInt64} {len : Nat} {tx : Nat → Nat} {th : Nat} {wy mo td : Nat → Nat} {re lo to : Nat} {rw : Nat → Nat} {ha : Int64} (h6 : z 0 ≤ 6) (hw : ∀ p, p < z 0 → ∀ l, l < 6 → gt (wq z) p l < 2 ^ 31) (hl : z 1 ≤ 99) (hn : z 3 < 2 ^ 31) (hm : (ZP z sf).mOK) (h0 : ¬ wfrom (cnt (ZP z sf) (-1)) 0 = 0) (he : (z 3 = 0 → Op.cmpValue (FP.dcmp (sf 2) FP.dconst0) .l ≤ 0) ∧ (¬ z 3 = 0 → ¬ Op.cmpValue (FP.dcmp (sf 2) FP.dconst0) .l ≤ 0))  : AM G sX10_measured 0 0 [.ref (ma 0), .int (nI 5)] (wM G ma z sf st hh sh len tx th wy mo td re lo to rw ha) (fun rv w => rv = some (.double (vM (ZP z sf) 5)) ∧ ∃ (wy mo rw : Nat → Nat), w = wM G ma z sf st hh sh len tx th wy mo td re lo to rw ha) := by
  refine AM.of (σ := sX10_measured) (by decide +kernel) (by decide +kernel) (Nat.le_of_ble_eq_true rfl) (fun B hB hR hE0 hN => ?_)
  have hE := BE.of hE0
  refine a_iload_n hB dX10_measured_0 rfl ?_
  refine a_tableIn (off := 90) (tgt := 91) hB dX10_measured_1 (by decide) (by decide) (by decide) (by decide) ?_
  refine a_aload_n hB dX10_measured_91 rfl ?_
  refine a_get (T := TX10) (ci := 10) hB dX10_measured_92 1 fl_X10_13 lay_X10 rfl (by decide) rfl 0 rfl rfl ?_
  refine a_iconstN (v := 3) hB dX10_measured_95 (by decide) ?_
  refine a_daloadN hB dX10_measured_96 2 rfl (by omega) (by decide) ?_
  exact a_dret hB hE rfl dX10_measured_97 (Nat.le_of_ble_eq_true rfl) (Nat.le_of_ble_eq_true rfl) (AKeep.of rfl) ⟨rfl, _, _, _, rfl⟩
set_option maxHeartbeats 4000000 in
set_option maxRecDepth 100000 in
theorem c_X10_measured_6 {G : GP} {ma z : Nat → Nat} {sf : Nat → UInt64} {st : Nat} {hh : Nat → Nat} {sh : Nat → UInt64} {len : Nat} {tx : Nat → Nat} {th : Nat} {wy mo td : Nat → Nat} {re lo to : Nat} {rw : Nat → Nat} {ha : Int64} (h6 : z 0 ≤ 6) (hw : ∀ p, p < z 0 → ∀ l, l < 6 → gt (wq z) p l < 2 ^ 31) (hl : z 1 ≤ 99) (hn : z 3 < 2 ^ 31) (hm : (ZP z sf).mOK) (h0 : ¬ wfrom (cnt (ZP z sf) (-1)) 0 = 0) (he : (z 3 = 0 → Op.cmpValue (FP.dcmp (sf 2) FP.dconst0) .l ≤ 0) ∧ (¬ z 3 = 0 → ¬ Op.cmpValue (FP.dcmp (sf 2) FP.dconst0) .l ≤ 0))  : AM G sX10_measured 0 0 [.ref (ma 0), .int (nI 6)] (wM G ma z sf st hh sh len tx th wy mo td re lo to rw ha) (fun rv w => rv = some (.double (vM (ZP z sf) 6)) ∧ ∃ (wy mo rw : Nat → Nat), w = wM G ma z sf st hh sh len tx th wy mo td re lo to rw ha) := by
  refine AM.of (σ := sX10_measured) (by decide +kernel) (by decide +kernel) (Nat.le_of_ble_eq_true rfl) (fun B hB hR hE0 hN => ?_)
  have hE := BE.of hE0
  refine a_iload_n hB dX10_measured_0 rfl ?_
  refine a_tableOut (tgt := 98) hB dX10_measured_1 (by decide) (by decide) ?_
  refine a_aload_n hB dX10_measured_98 rfl ?_
  refine a_aload_n hB dX10_measured_99 rfl ?_
  refine a_get (T := TX10) (ci := 10) hB dX10_measured_100 1 fl_X10_13 lay_X10 rfl (by decide) rfl 0 rfl rfl ?_
  refine a_iconstN (v := 0) hB dX10_measured_103 (by decide) ?_
  refine a_daloadN hB dX10_measured_104 2 rfl (by omega) (by decide) ?_
  refine a_callVr (q0 := 0) hB (c_X10_bySamples hn hm.2.1) mk_X10_bySamples ml_X10_178 dX10_measured_105 rfl rfl [0, 1, 2, 3, 4, 5, 6, 7, 8, 9] rfl (by decide) rfl rfl (fit_of hR (by decide)) (Nat.le_of_ble_eq_true rfl) ?_
  refine a_aload_n hB dX10_measured_108 rfl ?_
  refine a_aload_n hB dX10_measured_109 rfl ?_
  refine a_get (T := TX10) (ci := 10) hB dX10_measured_110 0 fl_X10_7 lay_X10 rfl (by decide) rfl 0 rfl rfl ?_
  refine a_iconstN (v := 1) hB dX10_measured_113 (by decide) ?_
  refine a_ialoadN hB dX10_measured_114 1 rfl (by omega) (by decide) ?_
  refine a_iconst (v := -1) hB dX10_measured_115 (by decide) ?_
  refine a_callVd (w2 := wM G ma z sf st hh sh len tx th (cnF (wq z) (-1) wy (z 0)) mo td re lo to rw ha) (q0 := 0) hB (c_X10_odds (s := z 1) h6 hw (by omega) hm.1 h0) mk_X10_oddsBy ml_X10_174 dX10_measured_116 rfl rfl [0, 1, 2, 3, 4, 5, 6, 7, 8, 9] rfl (by decide) rfl rfl (fit_of hR (by decide)) (Nat.le_of_ble_eq_true rfl) (wput_all rfl rfl) ?_
  refine a_dsub hB dX10_measured_119 hm.2.2.2.2.2 ?_
  exact a_dret hB hE rfl dX10_measured_120 (Nat.le_of_ble_eq_true rfl) (Nat.le_of_ble_eq_true rfl) (AKeep.of rfl) ⟨rfl, _, _, _, rfl⟩
theorem c_X10_measured {G : GP} {ma z : Nat → Nat} {sf : Nat → UInt64} {st : Nat} {hh : Nat → Nat} {sh : Nat → UInt64} {len : Nat} {tx : Nat → Nat} {th : Nat} {wy mo td : Nat → Nat} {re lo to : Nat} {rw : Nat → Nat} {ha : Int64} {k : Nat} (h6 : z 0 ≤ 6) (hw : ∀ p, p < z 0 → ∀ l, l < 6 → gt (wq z) p l < 2 ^ 31) (hl : z 1 ≤ 99) (hn : z 3 < 2 ^ 31) (hm : (ZP z sf).mOK) (h0 : ¬ wfrom (cnt (ZP z sf) (-1)) 0 = 0) (he : (z 3 = 0 → Op.cmpValue (FP.dcmp (sf 2) FP.dconst0) .l ≤ 0) ∧ (¬ z 3 = 0 → ¬ Op.cmpValue (FP.dcmp (sf 2) FP.dconst0) .l ≤ 0)) (hk : k ≤ 6) : AM G sX10_measured 0 0 [.ref (ma 0), .int (nI k)] (wM G ma z sf st hh sh len tx th wy mo td re lo to rw ha) (fun rv w => rv = some (.double (vM (ZP z sf) k)) ∧ ∃ (wy mo rw : Nat → Nat), w = wM G ma z sf st hh sh len tx th wy mo td re lo to rw ha) := by
  rcases (show k = 0 ∨ k = 1 ∨ k = 2 ∨ k = 3 ∨ k = 4 ∨ k = 5 ∨ k = 6 by omega) with rfl | rfl | rfl | rfl | rfl | rfl | rfl
  · exact c_X10_measured_0 h6 hw hl hn hm h0 he
  · exact c_X10_measured_1 h6 hw hl hn hm h0 he
  · exact c_X10_measured_2 h6 hw hl hn hm h0 he
  · exact c_X10_measured_3 h6 hw hl hn hm h0 he
  · exact c_X10_measured_4 h6 hw hl hn hm h0 he
  · exact c_X10_measured_5 h6 hw hl hn hm h0 he
  · exact c_X10_measured_6 h6 hw hl hn hm h0 he
set_option maxHeartbeats 4000000 in
set_option maxRecDepth 100000 in
theorem c_X10_measure_ok {G : GP} {ma z : Nat → Nat} {sf : Nat → UInt64} {st : Nat} {hh : Nat → Nat} {sh : Nat → UInt64} {len : Nat} {tx : Nat → Nat} {th : Nat} {wy mo td : Nat → Nat} {re lo to : Nat} {rw : Nat → Nat} {ha : Int64} {k : Nat} (h6 : z 0 ≤ 6) (hw : ∀ p, p < z 0 → ∀ l, l < 6 → gt (wq z) p l < 2 ^ 31) (hl : z 1 ≤ 99) (hn : z 3 < 2 ^ 31) (hm : (ZP z sf).mOK) (h0 : ¬ wfrom (cnt (ZP z sf) (-1)) 0 = 0) (he : (z 3 = 0 → Op.cmpValue (FP.dcmp (sf 2) FP.dconst0) .l ≤ 0) ∧ (¬ z 3 = 0 → ¬ Op.cmpValue (FP.dcmp (sf 2) FP.dconst0) .l ≤ 0)) (hk : k ≤ 6) : AM G sX10_measure 0 0 [.ref (ma 0), .int (nI k)] (wM G ma z sf st hh sh len tx th wy mo td re lo to rw ha) (fun rv w => rv = some (.double (vM (ZP z sf) k)) ∧ ∃ (wy mo rw : Nat → Nat), w = wM G ma z sf st hh sh len tx 0 wy mo td re lo to rw ha) := by
  refine AM.of (σ := sX10_measure) (by decide +kernel) (by decide +kernel) (Nat.le_of_ble_eq_true rfl) (fun B hB hR hE0 hN => ?_)
  have hE := BE.of hE0
  refine a_aload_n hB dX10_measure_0 rfl ?_
  refine a_iload_n hB dX10_measure_1 rfl ?_
  refine a_iconstN (v := 0) hB dX10_measure_2 (by decide) ?_
  refine a_bipushN (v := 6) hB dX10_measure_3 (by decide) ?_
  refine a_callSr hB (c_X10_within_N (by omega) (by omega) (by omega)) mk_X10_within ml_X10_46 dX10_measure_5 rfl rfl [] rfl (by decide) (fit_of hR (by decide)) (Nat.le_of_ble_eq_true rfl) ?_
  refine a_if_eqN_f (tgt := 15) hB dX10_measure_8 (by decide) (by omega) (by omega) ?_
  refine a_iconstN (v := 0) hB dX10_measure_11 (by decide) ?_
  refine a_goto (tgt := 16) hB dX10_measure_12 (by decide) ?_
  refine a_put (T := TX10) (ci := 10) hB dX10_measure_16 7 fl_X10_39 lay_X10 tyX10 tyX10_ok nmX10 rfl (by decide) rfl rfl 0 rfl rfl rfl rfl (Nat.le_of_ble_eq_true rfl) ?_
  refine a_aload_n hB dX10_measure_19 rfl ?_
  refine a_get (T := TX10) (ci := 10) hB dX10_measure_20 7 fl_X10_39 lay_X10 rfl (by decide) rfl 0 rfl rfl ?_
  refine a_if_leN_t (tgt := 30) hB dX10_measure_23 (by decide) (by omega) (by omega) ?_
  refine a_aload_n hB dX10_measure_30 rfl ?_
  refine a_iload_n hB dX10_measure_31 rfl ?_
  refine a_callV (q0 := 0) hB (c_X10_measured h6 hw hl hn hm h0 he hk) mk_X10_measured ml_X10_186 dX10_measure_32 rfl rfl [0, 1, 2, 3, 4, 5, 6, 7, 8, 9] rfl (by decide) rfl rfl (fit_of hR (by decide)) (Nat.le_of_ble_eq_true rfl) (fun v32 w32 hq32 hk32 => ?_)
  obtain ⟨rfl, wy, mo, rw, rfl⟩ := hq32
  refine aW_w (ws' := wM G ma z sf st hh sh len tx 0 wy mo td re lo to rw ha) (wput_all rfl rfl) ?_
  exact a_dret hB hE rfl dX10_measure_35 (Nat.le_of_ble_eq_true rfl) (Nat.le_of_ble_eq_true rfl) (AKeep.of rfl) ⟨rfl, _, _, _, rfl⟩
theorem c_X10_limitNowV {G : GP} {ma z : Nat → Nat} {sf : Nat → UInt64} {st : Nat} {hh : Nat → Nat} {sh : Nat → UInt64} {len : Nat} {tx : Nat → Nat} {th : Nat} {wy mo td : Nat → Nat} {re lo to : Nat} {rw : Nat → Nat} {ha : Int64} {t9 : Nat} (h6 : z 0 ≤ 6) (hw : ∀ p, p < z 0 → ∀ l, l < 6 → gt (wq z) p l < 2 ^ 31) (ht : t9 ≤ 1000) (hb : ∀ s, wfrom (cnt (ZP z sf) (-1)) s ≤ 24794911296) (h99 : wfrom (cnt (ZP z sf) (-1)) 99 = 0) : AMd G sX10_limitNow [.ref (ma 0), .int (nI t9)] (wM G ma z sf st hh sh len tx th wy mo td re lo to rw ha) (some (.int (nI (vF (ZP z sf) t9)))) (wM G ma z sf st hh sh len tx th (cnF (wq z) (-1) wy (z 0)) mo td re lo to rw ha) := by
  obtain ⟨-, a, b, c⟩ := lfr_spec (fun l => wfrom (cnt (ZP z sf) (-1)) l * 1000 ≤ wfrom (cnt (ZP z sf) (-1)) 0 * t9) 99 0
  have e : ∀ s, wfrom (cnF (wq z) (-1) wy (z 0)) s = wfrom (cnt (ZP z sf) (-1)) s := fun s => wfrom_cnt (ZP z sf) (-1) wy s
  refine c_X10_limitNow (th9 := t9) (r := vF (ZP z sf) t9) h6 hw ht ?_ (fun s => by rw [e]; exact hb s) ?_ (fun l h => ?_)
  · show lfr _ 99 0 ≤ 99; omega
  · rw [e, e]
    by_cases q : vF (ZP z sf) t9 < 99
    · exact b (by have : lfr _ 99 0 < 99 := q; omega)
    · rw [show vF (ZP z sf) t9 = 99 from Nat.le_antisymm (by show lfr _ 99 0 ≤ 99; omega) (Nat.not_lt.mp q), h99, Nat.zero_mul]
      exact Nat.zero_le _
  · rw [e, e]
    exact c l (Nat.zero_le _) h
set_option maxHeartbeats 4000000 in
set_option maxRecDepth 100000 in
theorem c_X10_limitFor_ok {G : GP} {ma z : Nat → Nat} {sf : Nat → UInt64} {st : Nat} {hh : Nat → Nat} {sh : Nat → UInt64} {len : Nat} {tx : Nat → Nat} {th : Nat} {wy mo td : Nat → Nat} {re lo to : Nat} {rw : Nat → Nat} {ha : Int64} {t9 : Nat} (h6 : z 0 ≤ 6) (hw : ∀ p, p < z 0 → ∀ l, l < 6 → gt (wq z) p l < 2 ^ 31) (ht : t9 ≤ 1000) (hb : ∀ s, wfrom (cnt (ZP z sf) (-1)) s ≤ 24794911296) (h99 : wfrom (cnt (ZP z sf) (-1)) 99 = 0) : AM G sX10_limitFor 0 0 [.ref (ma 0), .int (nI t9)] (wM G ma z sf st hh sh len tx th wy mo td re lo to rw ha) (fun rv w => rv = some (.int (nI (vF (ZP z sf) t9))) ∧ ∃ (wy mo rw : Nat → Nat), w = wM G ma z sf st hh sh len tx 0 wy mo td re lo to rw ha) := by
  refine AM.of (σ := sX10_limitFor) (by decide +kernel) (by decide +kernel) (Nat.le_of_ble_eq_true rfl) (fun B hB hR hE0 hN => ?_)
  have hE := BE.of hE0
  refine a_aload_n hB dX10_limitFor_0 rfl ?_
  refine a_iload_n hB dX10_limitFor_1 rfl ?_
  refine a_iconstN (v := 0) hB dX10_limitFor_2 (by decide) ?_
  refine a_sipushN (v := 1000) hB dX10_limitFor_3 (by decide) ?_
  refine a_callSr hB (c_X10_within_N (by omega) (by omega) (by omega)) mk_X10_within ml_X10_46 dX10_limitFor_6 rfl rfl [] rfl (by decide) (fit_of hR (by decide)) (Nat.le_of_ble_eq_true rfl) ?_
  refine a_if_eqN_f (tgt := 16) hB dX10_limitFor_9 (by decide) (by omega) (by omega) ?_
  refine a_iconstN (v := 0) hB dX10_limitFor_12 (by decide) ?_
  refine a_goto (tgt := 17) hB dX10_limitFor_13 (by decide) ?_
  refine a_put (T := TX10) (ci := 10) hB dX10_limitFor_17 7 fl_X10_39 lay_X10 tyX10 tyX10_ok nmX10 rfl (by decide) rfl rfl 0 rfl rfl rfl rfl (Nat.le_of_ble_eq_true rfl) ?_
  refine a_aload_n hB dX10_limitFor_20 rfl ?_
  refine a_get (T := TX10) (ci := 10) hB dX10_limitFor_21 7 fl_X10_39 lay_X10 rfl (by decide) rfl 0 rfl rfl ?_
  refine a_if_leN_t (tgt := 31) hB dX10_limitFor_24 (by decide) (by omega) (by omega) ?_
  refine a_aload_n hB dX10_limitFor_31 rfl ?_
  refine a_iload_n hB dX10_limitFor_32 rfl ?_
  refine a_callVd (w2 := wM G ma z sf st hh sh len tx 0 (cnF (wq z) (-1) wy (z 0)) mo td re lo to rw ha) (q0 := 0) hB (c_X10_limitNowV h6 hw ht hb h99) mk_X10_limitNow ml_X10_192 dX10_limitFor_33 rfl rfl [0, 1, 2, 3, 4, 5, 6, 7, 8, 9] rfl (by decide) rfl rfl (fit_of hR (by decide)) (Nat.le_of_ble_eq_true rfl) (wput_all rfl rfl) ?_
  exact a_iret hB hE rfl dX10_limitFor_36 (Nat.le_of_ble_eq_true rfl) (Nat.le_of_ble_eq_true rfl) (AKeep.of rfl) ⟨rfl, _, _, _, rfl⟩
set_option maxHeartbeats 4000000 in
set_option maxRecDepth 100000 in
theorem c_X10_ifLimit_v {G : GP} {ma z : Nat → Nat} {sf : Nat → UInt64} {st : Nat} {hh : Nat → Nat} {sh : Nat → UInt64} {len : Nat} {tx : Nat → Nat} {th : Nat} {wy mo td : Nat → Nat} {re lo to : Nat} {rw : Nat → Nat} {ha : Int64} {s : Nat} (h6 : z 0 ≤ 6) (hw : ∀ p, p < z 0 → ∀ l, l < 6 → gt (wq z) p l < 2 ^ 31) (hs : s ≤ 99) (ho : oddOK (cnt (ZP z sf) (-1)) s) (h0 : ¬ wfrom (cnt (ZP z sf) (-1)) 0 = 0) : AM G sX10_ifLimit 0 0 [.ref (ma 0), .int (nI s)] (wM G ma z sf st hh sh len tx th wy mo td re lo to rw ha) (fun rv w => rv = some (.double (vO (ZP z sf) (-1) s)) ∧ ∃ (wy mo rw : Nat → Nat), w = wM G ma z sf st hh sh len tx 0 wy mo td re lo to rw ha) := by
  refine AM.of (σ := sX10_ifLimit) (by decide +kernel) (by decide +kernel) (Nat.le_of_ble_eq_true rfl) (fun B hB hR hE0 hN => ?_)
  have hE := BE.of hE0
  refine a_aload_n hB dX10_ifLimit_0 rfl ?_
  refine a_iload_n hB dX10_ifLimit_1 rfl ?_
  refine a_callSr hB (c_X10_isLimit_N (by omega)) mk_X10_isLimit ml_X10_120 dX10_ifLimit_2 rfl rfl [] rfl (by decide) (fit_of hR (by decide)) (Nat.le_of_ble_eq_true rfl) ?_
  refine a_if_eqN_f (tgt := 12) hB dX10_ifLimit_5 (by decide) (by omega) (by omega) ?_
  refine a_iconstN (v := 0) hB dX10_ifLimit_8 (by decide) ?_
  refine a_goto (tgt := 13) hB dX10_ifLimit_9 (by decide) ?_
  refine a_put (T := TX10) (ci := 10) hB dX10_ifLimit_13 7 fl_X10_39 lay_X10 tyX10 tyX10_ok nmX10 rfl (by decide) rfl rfl 0 rfl rfl rfl rfl (Nat.le_of_ble_eq_true rfl) ?_
  refine a_aload_n hB dX10_ifLimit_16 rfl ?_
  refine a_get (T := TX10) (ci := 10) hB dX10_ifLimit_17 7 fl_X10_39 lay_X10 rfl (by decide) rfl 0 rfl rfl ?_
  refine a_if_leN_t (tgt := 27) hB dX10_ifLimit_20 (by decide) (by omega) (by omega) ?_
  refine a_aload_n hB dX10_ifLimit_27 rfl ?_
  refine a_iload_n hB dX10_ifLimit_28 rfl ?_
  refine a_iconst (v := -1) hB dX10_ifLimit_29 (by decide) ?_
  refine a_callVd (w2 := wM G ma z sf st hh sh len tx 0 (cnF (wq z) (-1) wy (z 0)) mo td re lo to rw ha) (q0 := 0) hB (c_X10_odds (wo := -1) h6 hw (by omega) ho h0) mk_X10_oddsBy ml_X10_174 dX10_ifLimit_30 rfl rfl [0, 1, 2, 3, 4, 5, 6, 7, 8, 9] rfl (by decide) rfl rfl (fit_of hR (by decide)) (Nat.le_of_ble_eq_true rfl) (wput_all rfl rfl) ?_
  exact a_dret hB hE rfl dX10_ifLimit_33 (Nat.le_of_ble_eq_true rfl) (Nat.le_of_ble_eq_true rfl) (AKeep.of rfl) ⟨rfl, _, _, _, rfl⟩
