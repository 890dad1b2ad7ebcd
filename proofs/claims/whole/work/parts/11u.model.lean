def tbZ (z : Nat → Nat) (b p : Nat) : Nat → Nat → Nat
  | 0 => z
  | l + 1 => uN (tbZ z b p l) (47 + 6 * p + l) (min (gt (wq (tbZ z b p l)) p l * (1 + l * b)) 99)
def tbA (z : Nat → Nat) (b : Nat) : Nat → Nat → Nat
  | 0 => z
  | p + 1 => tbZ (tbA z b p) b p 6
def tsA (z : Nat → Nat) (b : Nat) : Nat → Nat
  | 0 => 0
  | p + 1 => tsA z b p + tot (tq (tbA z b (p + 1))) p
theorem tbZ_lo {z : Nat → Nat} {b p j : Nat} (h : j < 47) : ∀ l, tbZ z b p l j = z j
  | 0 => rfl
  | l + 1 => by
    show (if j = 47 + 6 * p + l then _ else tbZ z b p l j) = z j
    rw [if_neg (by omega)]
    exact tbZ_lo h l
theorem tbA_lo {z : Nat → Nat} {b j : Nat} (h : j < 47) : ∀ p, tbA z b p j = z j
  | 0 => rfl
  | p + 1 => (tbZ_lo h 6).trans (tbA_lo h p)
theorem gt_lo {z y : Nat → Nat} {p l : Nat} (hl : l < 6) (h : ∀ j, j < 47 → y j = z j) : gt (wq y) p l = gt (wq z) p l := by
  unfold gt wq
  by_cases hp : p < 6
  · rw [if_pos hp, if_pos hp, h _ (by omega)]
  · rw [if_neg hp, if_neg hp]
theorem tbZ_y {z : Nat → Nat} {b p l : Nat} (h : gt (wq (tbZ z b p l)) p l * (1 + l * b) ≤ 99) : tbZ z b p (l + 1) = uN (tbZ z b p l) (47 + 6 * p + l) (gt (wq (tbZ z b p l)) p l * (1 + l * b)) := congrArg (uN (tbZ z b p l) (47 + 6 * p + l)) (Nat.min_eq_left h)
theorem tbZ_n {z : Nat → Nat} {b p l : Nat} (h : ¬ gt (wq (tbZ z b p l)) p l * (1 + l * b) ≤ 99) : tbZ z b p (l + 1) = uN (tbZ z b p l) (47 + 6 * p + l) 99 := congrArg (uN (tbZ z b p l) (47 + 6 * p + l)) (Nat.min_eq_right (Nat.le_of_lt (Nat.lt_of_not_le h)))
set_option maxHeartbeats 4000000 in
set_option maxRecDepth 100000 in
theorem c_X10_tiltAll_ok {G : GP} {ma z : Nat → Nat} {sf : Nat → UInt64} {st : Nat} {hh : Nat → Nat} {sh : Nat → UInt64} {len : Nat} {tx : Nat → Nat} {th : Nat} {wy mo td : Nat → Nat} {re lo to : Nat} {rw : Nat → Nat} {ha : Int64} {v : Nat} (hv : v ≤ 9) (h6 : z 0 ≤ 6) (hw : ∀ p l, p < 6 → l < 6 → gt (wq z) p l ≤ 9) (hs : st ≤ 6) : AMd G sX10_tiltAll [.ref (ma 0), .int (nI v)] (wM G ma z sf st hh sh len tx th wy mo td re lo to rw ha) (some (.int (nI (tsA (fg z 6) v (z 0))))) (wM G ma (tbA (fg z 6) v (z 0)) (fs0 sf 4) (min (st + 1) 6) (svH z hh st) (svT sf sh st) len tx 0 wy mo td re lo to rw ha) := by
  refine AM.of (σ := sX10_tiltAll) (by decide +kernel) (by decide +kernel) (Nat.le_of_ble_eq_true rfl) (fun B hB hR hE0 hN => ?_)
  have hE := BE.of hE0
  refine a_aload_n hB dX10_tiltAll_0 rfl ?_
  refine a_iload_n hB dX10_tiltAll_1 rfl ?_
  refine a_iconstN (v := 0) hB dX10_tiltAll_2 (by decide) ?_
  refine a_bipushN (v := 9) hB dX10_tiltAll_3 (by decide) ?_
  refine a_callSr hB (c_X10_within_N (by omega) (by omega) (by omega)) mk_X10_within ml_X10_46 dX10_tiltAll_5 rfl rfl [] rfl (by decide) (fit_of hR (by decide)) (Nat.le_of_ble_eq_true rfl) ?_
  refine a_if_eqN_f (tgt := 15) hB dX10_tiltAll_8 (by decide) (by omega) (by omega) ?_
  refine a_iconstN (v := 0) hB dX10_tiltAll_11 (by decide) ?_
  refine a_goto (tgt := 16) hB dX10_tiltAll_12 (by decide) ?_
  refine a_put (T := TX10) (ci := 10) hB dX10_tiltAll_16 7 fl_X10_39 lay_X10 tyX10 tyX10_ok nmX10 rfl (by decide) rfl rfl 0 rfl rfl rfl rfl (Nat.le_of_ble_eq_true rfl) ?_
  refine a_aload_n hB dX10_tiltAll_19 rfl ?_
  refine a_get (T := TX10) (ci := 10) hB dX10_tiltAll_20 7 fl_X10_39 lay_X10 rfl (by decide) rfl 0 rfl rfl ?_
  refine a_if_leN_t (tgt := 28) hB dX10_tiltAll_23 (by decide) (by omega) (by omega) ?_
  refine a_aload_n hB dX10_tiltAll_28 rfl ?_
  refine a_callVd (w2 := wM G ma z sf (min (st + 1) 6) (svH z hh st) (svT sf sh st) len tx 0 wy mo td re lo to rw ha) (q0 := 0) hB (c_X10_save (by omega)) mk_X10_save ml_X10_104 dX10_tiltAll_29 rfl rfl [0, 1, 2, 3, 4, 5, 6, 7, 8, 9] rfl (by decide) rfl rfl (fit_of hR (by decide)) (Nat.le_of_ble_eq_true rfl) (wput_all rfl rfl) ?_
  refine a_aload_n hB dX10_tiltAll_32 rfl ?_
  refine a_callVd (w2 := wM G ma (fg z 6) (fs0 sf 4) (min (st + 1) 6) (svH z hh st) (svT sf sh st) len tx 0 wy mo td re lo to rw ha) (q0 := 0) hB (c_X10_forgets) mk_X10_forgets ml_X10_107 dX10_tiltAll_33 rfl rfl [0, 1, 2, 3, 4, 5, 6, 7, 8, 9] rfl (by decide) rfl rfl (fit_of hR (by decide)) (Nat.le_of_ble_eq_true rfl) (wput_all rfl rfl) ?_
  refine a_istore_n hB dX10_tiltAll_36 (by decide) ?_
  refine a_iconstN (v := 0) hB dX10_tiltAll_37 (by decide) ?_
  refine a_istore_n hB dX10_tiltAll_38 (by decide) ?_
  refine a_iconstN (v := 0) hB dX10_tiltAll_39 (by decide) ?_
  refine a_istore hB dX10_tiltAll_40 (by decide) ?_
  have lp42 : ∀ (j42 i : Nat), i + j42 = z 0 → aW G sX10_tiltAll B 42 [(0, .ref (ma 0)), (1, .int (nI v)), (2, .int (nI (z 3))), (3, .int (nI (tsA (fg z 6) v i))), (4, .int (nI i))] [] (wM G ma (tbA (fg z 6) v i) (fs0 sf 4) (min (st + 1) 6) (svH z hh st) (svT sf sh st) len tx 0 wy mo td re lo to rw ha) 0 0 := by
    intro j42
    induction j42 with
    | zero =>
      intro i hi
      have e0 : (tbA (fg z 6) v i) 0 = z 0 := tbA_lo (by decide) i
      refine a_iload hB dX10_tiltAll_42 rfl ?_
      refine a_aload_n hB dX10_tiltAll_44 rfl ?_
      refine a_get (T := TX10) (ci := 10) hB dX10_tiltAll_45 0 fl_X10_7 lay_X10 rfl (by decide) rfl 0 rfl rfl ?_
      refine a_iconstN (v := 0) hB dX10_tiltAll_48 (by decide) ?_
      refine a_ialoadN hB dX10_tiltAll_49 1 rfl (by omega) (by decide) ?_
      refine a_icmp_geN_t (tgt := 131) hB dX10_tiltAll_50 (by decide) (by omega) (by rw [e0]; omega) (by rw [e0]; omega) ?_
      refine a_iload_n hB dX10_tiltAll_131 rfl ?_
      exact a_iret hB hE rfl dX10_tiltAll_132 (Nat.le_of_ble_eq_true rfl) (Nat.le_of_ble_eq_true rfl) (AKeep.of rfl) ⟨by rw [show i = z 0 by omega], by rw [show i = z 0 by omega]⟩
    | succ j42 ih42 =>
      intro i hi
      have e0 : (tbA (fg z 6) v i) 0 = z 0 := tbA_lo (by decide) i
      refine a_iload hB dX10_tiltAll_42 rfl ?_
      refine a_aload_n hB dX10_tiltAll_44 rfl ?_
      refine a_get (T := TX10) (ci := 10) hB dX10_tiltAll_45 0 fl_X10_7 lay_X10 rfl (by decide) rfl 0 rfl rfl ?_
      refine a_iconstN (v := 0) hB dX10_tiltAll_48 (by decide) ?_
      refine a_ialoadN hB dX10_tiltAll_49 1 rfl (by omega) (by decide) ?_
      refine a_icmp_geN_f (tgt := 131) hB dX10_tiltAll_50 (by decide) (by omega) (by rw [e0]; omega) (by rw [e0]; omega) ?_
      refine a_iconstN (v := 0) hB dX10_tiltAll_53 (by decide) ?_
      refine a_istore hB dX10_tiltAll_54 (by decide) ?_
      have lp56 : ∀ (j56 u : Nat), u + j56 = 6 → aW G sX10_tiltAll B 56 [(0, .ref (ma 0)), (1, .int (nI v)), (2, .int (nI (z 3))), (3, .int (nI (tsA (fg z 6) v i))), (4, .int (nI i)), (5, .int (nI u))] [] (wM G ma (tbZ (tbA (fg z 6) v i) v i u) (fs0 sf 4) (min (st + 1) 6) (svH z hh st) (svT sf sh st) len tx 0 wy mo td re lo to rw ha) 0 0 := by
        intro j56
        induction j56 with
        | zero =>
          intro u hi
          refine a_iload hB dX10_tiltAll_56 rfl ?_
          refine a_bipushN (v := 6) hB dX10_tiltAll_58 (by decide) ?_
          refine a_icmp_geN_t (tgt := 116) hB dX10_tiltAll_60 (by decide) (by omega) (by omega) (by omega) ?_
          refine a_iload_n hB dX10_tiltAll_116 rfl ?_
          refine a_aload_n hB dX10_tiltAll_117 rfl ?_
          refine a_iload hB dX10_tiltAll_118 rfl ?_
          refine a_callVr (q0 := 0) hB (c_X10_tiltedTotalOf (z := (tbZ (tbA (fg z 6) v i) v i u)) (p := i) (by omega)) mk_X10_tiltedTotalOf ml_X10_64 dX10_tiltAll_120 rfl rfl [0, 1, 2, 3, 4, 5, 6, 7, 8, 9] rfl (by decide) rfl rfl (fit_of hR (by decide)) (Nat.le_of_ble_eq_true rfl) ?_
          refine a_iaddN hB dX10_tiltAll_123 ?_
          refine a_istore_n hB dX10_tiltAll_124 (by decide) ?_
          refine a_iincN (b := 1) hB dX10_tiltAll_125 rfl (by decide) (by decide) ?_
          refine a_goto (tgt := 42) hB dX10_tiltAll_128 (by decide) ?_
          exact aW_at [0, 1, 2, 3, 4] (by rw [show u = 6 by omega]; rfl) rfl (by rw [show u = 6 by omega]; rfl) (ih42 (i + 1) (by omega))
        | succ j56 ih56 =>
          intro u hi
          have hg : gt (wq (tbZ (tbA (fg z 6) v i) v i u)) i u ≤ 9 := by
            rw [gt_lo (z := fg z 6) (by omega) (fun j hj => (tbZ_lo hj u).trans (tbA_lo hj i)), fg_wq]
            exact hw i u (by omega) (by omega)
          have b0 : u * v ≤ 5 * 9 := Nat.mul_le_mul (by omega) hv
          have b1 : gt (wq (tbZ (tbA (fg z 6) v i) v i u)) i u * (1 + u * v) ≤ 9 * 46 := Nat.mul_le_mul hg (by omega)
          refine a_iload hB dX10_tiltAll_56 rfl ?_
          refine a_bipushN (v := 6) hB dX10_tiltAll_58 (by decide) ?_
          refine a_icmp_geN_f (tgt := 116) hB dX10_tiltAll_60 (by decide) (by omega) (by omega) (by omega) ?_
          refine a_aload_n hB dX10_tiltAll_63 rfl ?_
          refine a_iload hB dX10_tiltAll_64 rfl ?_
          refine a_iload hB dX10_tiltAll_66 rfl ?_
          refine a_callVr (q0 := 0) hB (c_X10_weightOf (z := (tbZ (tbA (fg z 6) v i) v i u)) (p := i) (l := u) (by omega) (by omega)) mk_X10_weightOf ml_X10_50 dX10_tiltAll_68 rfl rfl [0, 1, 2, 3, 4, 5, 6, 7, 8, 9] rfl (by decide) rfl rfl (fit_of hR (by decide)) (Nat.le_of_ble_eq_true rfl) ?_
          refine a_iconstN (v := 1) hB dX10_tiltAll_71 (by decide) ?_
          refine a_iload hB dX10_tiltAll_72 rfl ?_
          refine a_iload_n hB dX10_tiltAll_74 rfl ?_
          refine a_imulN hB dX10_tiltAll_75 ?_
          refine a_iaddN hB dX10_tiltAll_76 ?_
          refine a_imulN hB dX10_tiltAll_77 ?_
          refine a_istore hB dX10_tiltAll_78 (by decide) ?_
          refine a_aload_n hB dX10_tiltAll_80 rfl ?_
          refine a_get (T := TX10) (ci := 10) hB dX10_tiltAll_81 0 fl_X10_7 lay_X10 rfl (by decide) rfl 0 rfl rfl ?_
          refine a_bipushN (v := 47) hB dX10_tiltAll_84 (by decide) ?_
          refine a_bipushN (v := 6) hB dX10_tiltAll_86 (by decide) ?_
          refine a_iload hB dX10_tiltAll_88 rfl ?_
          refine a_imulN hB dX10_tiltAll_90 ?_
          refine a_iaddN hB dX10_tiltAll_91 ?_
          refine a_iload hB dX10_tiltAll_92 rfl ?_
          refine a_iaddN hB dX10_tiltAll_94 ?_
          refine a_iload hB dX10_tiltAll_95 rfl ?_
          refine a_bipushN (v := 99) hB dX10_tiltAll_97 (by decide) ?_
          refine a_icmp_leN (tgt := 107) hB dX10_tiltAll_99 (by decide) (Nat.lt_of_le_of_lt b1 (by decide)) (by omega) (fun c99 => ?_) (fun c99 => ?_)
          · refine a_iload hB dX10_tiltAll_107 rfl ?_
            refine a_iastoreN hB dX10_tiltAll_109 1 rfl (by omega) (by decide) ?_
            refine a_iincN (b := 1) hB dX10_tiltAll_110 rfl (by decide) (by decide) ?_
            refine a_goto (tgt := 56) hB dX10_tiltAll_113 (by decide) ?_
            first | (have e9 := tbZ_y (z := (tbA (fg z 6) v i)) (b := v) (p := i) (l := u) c99) | (have e9 := tbZ_n (z := (tbA (fg z 6) v i)) (b := v) (p := i) (l := u) c99)
            exact aW_at [0, 1, 2, 3, 4, 5] rfl rfl (by rw [e9]; rfl) (ih56 (u + 1) (by omega))
          · refine a_bipushN (v := 99) hB dX10_tiltAll_102 (by decide) ?_
            refine a_goto (tgt := 109) hB dX10_tiltAll_104 (by decide) ?_
            refine a_iastoreN hB dX10_tiltAll_109 1 rfl (by omega) (by decide) ?_
            refine a_iincN (b := 1) hB dX10_tiltAll_110 rfl (by decide) (by decide) ?_
            refine a_goto (tgt := 56) hB dX10_tiltAll_113 (by decide) ?_
            first | (have e9 := tbZ_y (z := (tbA (fg z 6) v i)) (b := v) (p := i) (l := u) c99) | (have e9 := tbZ_n (z := (tbA (fg z 6) v i)) (b := v) (p := i) (l := u) c99)
            exact aW_at [0, 1, 2, 3, 4, 5] rfl rfl (by rw [e9]; rfl) (ih56 (u + 1) (by omega))
      exact aW_at [0, 1, 2, 3, 4, 5] rfl rfl rfl (lp56 (6) 0 (by omega))
  exact aW_at [0, 1, 2, 3, 4] rfl rfl rfl (lp42 (z 0) 0 (by omega))
theorem tq_uN {z : Nat → Nat} {j x : Nat} (h : j < 47) : tq (uN z j x) = tq z := by
  funext k
  show (if 47 + k = j then x else z (47 + k)) = z (47 + k)
  exact if_neg (by omega)
theorem wq_uN {z : Nat → Nat} {j x : Nat} (h : j < 11) : wq (uN z j x) = wq z := by
  funext k
  show (if 11 + k = j then x else z (11 + k)) = z (11 + k)
  exact if_neg (by omega)
theorem sumN_pos {f : Nat → Nat} : ∀ {n l : Nat}, l < n → 0 < f l → 0 < sumN f n := fun h hp => Nat.lt_of_lt_of_le hp (sumN_ge h)
theorem sumN_leN {f : Nat → Nat} {c : Nat} : ∀ n, (∀ l, l < n → f l ≤ c) → sumN f n ≤ n * c
  | 0, _ => Nat.zero_le _
  | n + 1, h => by
    have h1 := sumN_leN n (fun l hl => h l (Nat.lt_succ_of_lt hl))
    have h2 := h n (Nat.lt_succ_self n)
    show sumN f n + f n ≤ (n + 1) * c
    rw [Nat.succ_mul]
    omega
theorem dload_sp4 {tl : Nat → Nat} {p s : Nat} (hpos : ∃ l, l < 6 ∧ 0 < gt tl p l) : dload tl p s < 6 ∧ s / 65536 % tot tl p < sumN (fun l => gt tl p l) (dload tl p s + 1) ∧ (∀ l, l < dload tl p s → sumN (fun l => gt tl p l) (l + 1) ≤ s / 65536 % tot tl p) ∧ 0 < gt tl p (dload tl p s) := by
  obtain ⟨l, hl, hp⟩ := hpos
  have ht : 0 < tot tl p := sumN_pos (f := fun l => gt tl p l) hl hp
  have h := dl6_spec (f := fun l => gt tl p l) (num := s / 65536 % tot tl p) (Nat.mod_lt _ ht)
  refine ⟨h.1, h.2.1, h.2.2, ?_⟩
  have h2 := h.2.1
  show 0 < gt tl p (dl6 (fun l => gt tl p l) (s / 65536 % tot tl p))
  generalize dl6 (fun l => gt tl p l) (s / 65536 % tot tl p) = d at h h2 ⊢
  have h3 : s / 65536 % tot tl p < sumN (fun l => gt tl p l) d + gt tl p d := h2
  rcases d with _ | d
  · have : sumN (fun l => gt tl p l) 0 = 0 := rfl
    omega
  · have h4 := h.2.2 d (Nat.lt_succ_self d)
    omega
theorem c_X10_drawLoadV {G : GP} {ma z : Nat → Nat} {sf : Nat → UInt64} {st : Nat} {hh : Nat → Nat} {sh : Nat → UInt64} {len : Nat} {tx : Nat → Nat} {th : Nat} {wy mo td : Nat → Nat} {re lo to : Nat} {rw : Nat → Nat} {ha : Int64} {p : Nat} (hp : p < 6) (hz : z 2 < 2147483648) (ht : ∀ j, tq z j ≤ 99) (hpos : ∃ l, l < 6 ∧ 0 < gt (tq z) p l) : AMd G sX10_drawLoad [.ref (ma 0), .int (nI p)] (wM G ma z sf st hh sh len tx th wy mo td re lo to rw ha) (some (.int (nI (dload (tq z) p (nxt (z 2)))))) (wM G ma (uN z 2 (nxt (z 2))) sf st hh sh len tx th wy mo td re lo to rw ha) := by
  obtain ⟨d1, d2, d3, d4⟩ := dload_sp4 (tl := tq z) (p := p) (s := nxt (z 2)) hpos
  obtain ⟨l, hl, hl0⟩ := hpos
  have e : tq (uN z 2 (nxt (z 2))) = tq z := tq_uN (by decide)
  have e2 : uN z 2 (nxt (z 2)) 2 = nxt (z 2) := if_pos rfl
  have g9 : ∀ l, gt (tq z) p l ≤ 99 := fun l => gt_lt ht p l
  refine c_X10_drawLoad (r := dload (tq z) p (nxt (z 2))) hp hz ?_ ?_ ?_ d1 ?_ ?_ ?_
  · rw [e]; exact fun l _ => g9 l
  · rw [e]; exact sumN_pos (f := fun l => gt (tq z) p l) hl hl0
  · rw [e]; exact tot_le ht p
  · rw [e, e2]; exact d2
  · rw [e, e2]; exact d3
  · rw [e]; exact fun i hi => Nat.le_trans (sumN_le g9 i) (by omega)
/-- what a drawn row asks for, but the bound of the weights' cells -/
def PV.rowOK2 (P : PV) : Prop := P.parts ≤ 6 ∧ P.limit ≤ 99 ∧ True ∧ (∀ j, P.tl j ≤ 99) ∧ (∀ p, p < P.parts → ∃ l, l < 6 ∧ 0 < gt P.tl p l) ∧ P.seed < 2147483648 ∧ (∀ i, i < P.parts → P.corOK (rowS P i).2.2.2 i (dload P.tl i (nxt (rowS P i).1))) ∧ (vf_n64 (FP.dadd P.sv.sm (rowS P P.parts).2.2.2) ∧ vf_n64 (FP.dmul (rowS P P.parts).2.2.2 (rowS P P.parts).2.2.2) ∧ vf_n64 (FP.dadd P.sv.sq (FP.dmul (rowS P P.parts).2.2.2 (rowS P P.parts).2.2.2)) ∧ vf_n64 (FP.dadd P.sv.fs (rowS P P.parts).2.2.2))
/-- the state's first cells out of a plant -/
def zP (z : Nat → Nat) (P : PV) (j : Nat) : Nat := if j = 0 then P.parts else if j = 1 then P.limit else if j = 2 then P.seed else if j = 3 then P.sv.num else if j = 4 then P.sv.flt else if j < 11 then P.sv.ll (j - 5) else z j
def sfP (sf : Nat → UInt64) (P : PV) (j : Nat) : UInt64 := if j = 0 then P.sv.fs else if j = 1 then P.sv.sm else if j = 2 then P.sv.sq else if j = 3 then P.sv.lc else sf j
/-- a row drawn up to part i -/
noncomputable def mrZ (z : Nat → Nat) (sf : Nat → UInt64) (i j : Nat) : Nat := if j = 2 then (rowS (ZP z sf) i).1 else if 5 ≤ j ∧ j < 5 + i then (rowS (ZP z sf) i).2.1 (j - 5) else z j
theorem mrZ_0 (z : Nat → Nat) (sf : Nat → UInt64) : mrZ z sf 0 = z := by
  funext j
  unfold mrZ
  by_cases h : j = 2
  · rw [if_pos h, h]; rfl
  · rw [if_neg h, if_neg (by omega)]
theorem mrZ_step (z : Nat → Nat) (sf : Nat → UInt64) (i : Nat) : uN (uN (mrZ z sf i) 2 (nxt (rowS (ZP z sf) i).1)) (5 + i) (dload (tq z) i (nxt (rowS (ZP z sf) i).1)) = mrZ z sf (i + 1) := by
  funext j
  unfold uN mrZ
  by_cases h5 : j = 5 + i
  · rw [if_pos h5, if_neg (by omega), if_pos (by omega)]
    show _ = uN (rowS (ZP z sf) i).2.1 i (dload (tq z) i (nxt (rowS (ZP z sf) i).1)) (j - 5)
    rw [show j - 5 = i by omega]
    exact (if_pos rfl).symm
  · rw [if_neg h5]
    by_cases h2 : j = 2
    · rw [if_pos h2, if_pos h2]; rfl
    · rw [if_neg h2, if_neg h2, if_neg h2]
      by_cases h : 5 ≤ j ∧ j < 5 + i
      · rw [if_pos h, if_pos (by omega)]
        show _ = uN (rowS (ZP z sf) i).2.1 i (dload (tq z) i (nxt (rowS (ZP z sf) i).1)) (j - 5)
        exact (if_neg (by omega)).symm
      · rw [if_neg h, if_neg (by omega)]
theorem mrZ_lo {z : Nat → Nat} {sf : Nat → UInt64} {i j : Nat} (h : j < 5) (h2 : ¬ j = 2) : mrZ z sf i j = z j := by
  unfold mrZ
  rw [if_neg h2, if_neg (by omega)]
theorem mrZ_2 (z : Nat → Nat) (sf : Nat → UInt64) (i : Nat) : mrZ z sf i 2 = (rowS (ZP z sf) i).1 := if_pos rfl
theorem mrZ_w {z : Nat → Nat} {sf : Nat → UInt64} {i : Nat} (h : i ≤ 6) : wq (mrZ z sf i) = wq z := by
  funext k
  show mrZ z sf i (11 + k) = z (11 + k)
  unfold mrZ
  rw [if_neg (by omega), if_neg (by omega)]
theorem mrZ_t {z : Nat → Nat} {sf : Nat → UInt64} {i : Nat} (h : i ≤ 6) : tq (mrZ z sf i) = tq z := by
  funext k
  show mrZ z sf i (47 + k) = z (47 + k)
  unfold mrZ
  rw [if_neg (by omega), if_neg (by omega)]
theorem rowS_ll {P : PV} {p : Nat} : ∀ i, i ≤ p → (rowS P i).2.1 p = P.sv.ll p
  | 0, _ => rfl
  | i + 1, h => by
    show uN (rowS P i).2.1 i _ p = P.sv.ll p
    exact (if_neg (by omega)).trans (rowS_ll i (by omega))
theorem mdZ_eq {z : Nat → Nat} {sf : Nat → UInt64} {F : Nat} (h6 : z 0 ≤ 6) (hF : (ZP z sf).isF = F) (hF1 : F ≤ 1) : uN (uN (mrZ z sf (z 0)) 3 (mrZ z sf (z 0) 3 + 1)) 4 (uN (mrZ z sf (z 0)) 3 (mrZ z sf (z 0) 3 + 1) 4 + F) = zP z (ZP z sf).drawRow := by
  have e3 : mrZ z sf (z 0) 3 = z 3 := mrZ_lo (by decide) (by decide)
  have e4 : mrZ z sf (z 0) 4 = z 4 := mrZ_lo (by decide) (by decide)
  have e5 : uN (mrZ z sf (z 0)) 3 (mrZ z sf (z 0) 3 + 1) 4 = z 4 := (if_neg (by decide)).trans e4
  have eflt : (ZP z sf).drawRow.sv.flt = z 4 + F := by
    show (if (ZP z sf).isF = 0 then z 4 else z 4 + 1) = z 4 + F
    rw [hF]
    rcases (show F = 0 ∨ F = 1 by omega) with rfl | rfl <;> rfl
  rw [e5, e3]
  funext j
  unfold uN zP
  by_cases h4 : j = 4
  · rw [if_pos h4, h4, if_neg (by decide), if_neg (by decide), if_neg (by decide), if_neg (by decide), if_pos rfl, eflt]
  rw [if_neg h4]
  by_cases h3 : j = 3
  · rw [if_pos h3, h3, if_neg (by decide), if_neg (by decide), if_neg (by decide), if_pos rfl]; rfl
  rw [if_neg h3]
  by_cases h0 : j = 0
  · rw [if_pos h0, h0]; exact mrZ_lo (by decide) (by decide)
  rw [if_neg h0]
  by_cases h1 : j = 1
  · rw [if_pos h1, h1]; exact mrZ_lo (by decide) (by decide)
  rw [if_neg h1]
  by_cases h2 : j = 2
  · rw [if_pos h2, h2]; exact mrZ_2 z sf (z 0)
  rw [if_neg h2, if_neg h3, if_neg h4]
  by_cases hj : j < 11
  · rw [if_pos hj]
    show mrZ z sf (z 0) j = (rowS (ZP z sf) (z 0)).2.1 (j - 5)
    unfold mrZ
    rw [if_neg h2]
    by_cases h : 5 ≤ j ∧ j < 5 + z 0
    · rw [if_pos h]
    · rw [if_neg h, rowS_ll (z 0) (by omega)]
      show z j = z (5 + (j - 5))
      rw [show 5 + (j - 5) = j by omega]
  · rw [if_neg hj]
    unfold mrZ
    rw [if_neg h2, if_neg (by omega)]
theorem mdF_eq {sf : Nat → UInt64} {P : PV} : uN (uN (uN (uN sf 0 P.sv.fs) 1 P.sv.sm) 2 P.sv.sq) 3 P.sv.lc = sfP sf P := by
  funext j
  unfold uN sfP
  by_cases h3 : j = 3
  · rw [if_pos h3, h3]; rfl
  rw [if_neg h3]
  by_cases h2 : j = 2
  · rw [if_pos h2, h2]; rfl
  rw [if_neg h2]
  by_cases h1 : j = 1
  · rw [if_pos h1, h1]; rfl
  rw [if_neg h1]
  by_cases h0 : j = 0
  · rw [if_pos h0, if_pos h0]
  rw [if_neg h0, if_neg h0, if_neg h1, if_neg h2, if_neg h3]
theorem cor_n {P : PV} {c : UInt64} {p l : Nat} (h1 : ¬ tot P.wt p = 0) (h2 : 0 < gt P.tl p l) : P.cor c p l = corr c (gt P.wt p l) (tot P.tl p) (tot P.wt p) (gt P.tl p l) := if_neg (fun h => h.elim h1 (fun q => absurd q (Nat.ne_of_gt h2)))
theorem isF_0 {P : PV} (h : (rowS P P.parts).2.2.1 < P.limit) : P.isF = 0 := if_pos h
theorem isF_1 {P : PV} (h : ¬ (rowS P P.parts).2.2.1 < P.limit) : P.isF = 1 := if_neg h
theorem rowS_sum5 {P : PV} (hpos : ∀ p, p < P.parts → ∃ l, l < 6 ∧ 0 < gt P.tl p l) : ∀ i, i ≤ P.parts → (rowS P i).2.2.1 ≤ 5 * i
  | 0, _ => Nat.zero_le _
  | i + 1, h => by
    have h1 := rowS_sum5 hpos i (by omega)
    have h2 := (dload_sp4 (tl := P.tl) (p := i) (s := nxt (rowS P i).1) (hpos i (by omega))).1
    show (rowS P i).2.2.1 + dload P.tl i (nxt (rowS P i).1) ≤ _
    omega
theorem rowS_sd {P : PV} (h : P.seed < 2147483648) : ∀ i, (rowS P i).1 < 2147483648
  | 0 => h
  | i + 1 => nxt_lt _
set_option maxHeartbeats 4000000 in
set_option maxRecDepth 100000 in
theorem c_X10_drawRow_0 {G : GP} {ma z : Nat → Nat} {sf : Nat → UInt64} {st : Nat} {hh : Nat → Nat} {sh : Nat → UInt64} {len : Nat} {tx : Nat → Nat} {th : Nat} {wy mo td : Nat → Nat} {re lo to : Nat} {rw : Nat → Nat} {ha : Int64} (hk : (ZP z sf).rowOK2) (hpw : ∀ p, p < z 0 → ¬ tot (wq z) p = 0) (h00 : FP.dadd (sf 0) FP.dconst0 = sf 0) (hs0 : vf_n64 (sf 0)) (hF : (rowS (ZP z sf) (z 0)).2.2.1 < z 1) : AMd G sX10_drawRow [.ref (ma 0)] (wM G ma z sf st hh sh len tx th wy mo td re lo to rw ha) (some (.int (nI 0))) (wM G ma (zP z (ZP z sf).drawRow) (sfP sf (ZP z sf).drawRow) st hh sh len tx th wy mo td re lo to rw ha) := by
  refine AM.of (σ := sX10_drawRow) (by decide +kernel) (by decide +kernel) (Nat.le_of_ble_eq_true rfl) (fun B hB hR hE0 hN => ?_)
  have hE := BE.of hE0
  obtain ⟨k1, k2, k3, k4, k5, k6, k7, ⟨k8, k9, k10, k11⟩⟩ := hk
  have k1 : z 0 ≤ 6 := k1
  have k2 : z 1 ≤ 99 := k2
  refine a_iconstN (v := 0) hB dX10_drawRow_0 (by decide) ?_
  refine a_istore_n hB dX10_drawRow_1 (by decide) ?_
  refine a_dconst1 hB dX10_drawRow_2 ?_
  refine a_dstore_n hB dX10_drawRow_3 (by decide) ?_
  refine a_iconstN (v := 0) hB dX10_drawRow_4 (by decide) ?_
  refine a_istore hB dX10_drawRow_5 (by decide) ?_
  have lp7 : ∀ (j7 i : Nat), i + j7 = z 0 → aW G sX10_drawRow B 7 [(0, .ref (ma 0)), (1, .int (nI (rowS (ZP z sf) i).2.2.1)), (2, .double (rowS (ZP z sf) i).2.2.2), (4, .int (nI i))] [] (wM G ma (mrZ z sf i) sf st hh sh len tx th wy mo td re lo to rw ha) 0 0 := by
    intro j7
    induction j7 with
    | zero =>
      intro i hi
      obtain rfl : i = z 0 := by omega
      have e0 : mrZ z sf (z 0) 0 = z 0 := mrZ_lo (by decide) (by decide)
      have e1 : mrZ z sf (z 0) 1 = z 1 := mrZ_lo (by decide) (by decide)
      have hsm := rowS_sum5 (P := ZP z sf) k5 (z 0) (Nat.le_refl _)
      refine a_iload hB dX10_drawRow_7 rfl ?_
      refine a_aload_n hB dX10_drawRow_9 rfl ?_
      refine a_get (T := TX10) (ci := 10) hB dX10_drawRow_10 0 fl_X10_7 lay_X10 rfl (by decide) rfl 0 rfl rfl ?_
      refine a_iconstN (v := 0) hB dX10_drawRow_13 (by decide) ?_
      refine a_ialoadN hB dX10_drawRow_14 1 rfl (by omega) (by decide) ?_
      refine a_icmp_geN_t (tgt := 58) hB dX10_drawRow_15 (by decide) (by omega) (by rw [e0]; omega) (by rw [e0]; omega) ?_
      refine a_iload_n hB dX10_drawRow_58 rfl ?_
      refine a_aload_n hB dX10_drawRow_59 rfl ?_
      refine a_get (T := TX10) (ci := 10) hB dX10_drawRow_60 0 fl_X10_7 lay_X10 rfl (by decide) rfl 0 rfl rfl ?_
      refine a_iconstN (v := 1) hB dX10_drawRow_63 (by decide) ?_
      refine a_ialoadN hB dX10_drawRow_64 1 rfl (by omega) (by decide) ?_
      refine a_icmp_ltN_t (tgt := 72) hB dX10_drawRow_65 (by decide) (by omega) (by rw [e1]; omega) (by rw [e1]; exact hF) ?_
      refine a_iconstN (v := 0) hB dX10_drawRow_72 (by decide) ?_
      refine a_istore hB dX10_drawRow_73 (by decide) ?_
      refine a_aload_n hB dX10_drawRow_75 rfl ?_
      refine a_get (T := TX10) (ci := 10) hB dX10_drawRow_76 0 fl_X10_7 lay_X10 rfl (by decide) rfl 0 rfl rfl ?_
      refine a_iconstN (v := 3) hB dX10_drawRow_79 (by decide) ?_
      refine a_dup2_11 hB dX10_drawRow_80 rfl rfl ?_
      refine a_ialoadN hB dX10_drawRow_81 1 rfl (by omega) (by decide) ?_
      refine a_iconstN (v := 1) hB dX10_drawRow_82 (by decide) ?_
      refine a_iaddN hB dX10_drawRow_83 ?_
      refine a_iastoreN hB dX10_drawRow_84 1 rfl (by omega) (by decide) ?_
      refine a_aload_n hB dX10_drawRow_85 rfl ?_
      refine a_get (T := TX10) (ci := 10) hB dX10_drawRow_86 0 fl_X10_7 lay_X10 rfl (by decide) rfl 0 rfl rfl ?_
      refine a_iconstN (v := 4) hB dX10_drawRow_89 (by decide) ?_
      refine a_dup2_11 hB dX10_drawRow_90 rfl rfl ?_
      refine a_ialoadN hB dX10_drawRow_91 1 rfl (by omega) (by decide) ?_
      refine a_iload hB dX10_drawRow_92 rfl ?_
      refine a_iaddN hB dX10_drawRow_94 ?_
      refine a_iastoreN hB dX10_drawRow_95 1 rfl (by omega) (by decide) ?_
      refine a_aload_n hB dX10_drawRow_96 rfl ?_
      refine a_get (T := TX10) (ci := 10) hB dX10_drawRow_97 1 fl_X10_13 lay_X10 rfl (by decide) rfl 0 rfl rfl ?_
      refine a_iconstN (v := 0) hB dX10_drawRow_100 (by decide) ?_
      refine a_dup2_11 hB dX10_drawRow_101 rfl rfl ?_
      refine a_daloadN hB dX10_drawRow_102 2 rfl (by omega) (by decide) ?_
      refine a_iload hB dX10_drawRow_103 rfl ?_
      refine a_iconstN (v := 1) hB dX10_drawRow_105 (by decide) ?_
      refine a_icmp_neN_t (tgt := 113) hB dX10_drawRow_106 (by decide) (by omega) (by omega) (by omega) ?_
      refine a_dconst0 hB dX10_drawRow_113 ?_
      refine a_dadd hB dX10_drawRow_114 (by rw [h00]; exact hs0) ?_
      rw [h00]
      refine a_dastoreN hB dX10_drawRow_115 2 rfl (by omega) (by decide) ?_
      refine a_aload_n hB dX10_drawRow_116 rfl ?_
      refine a_get (T := TX10) (ci := 10) hB dX10_drawRow_117 1 fl_X10_13 lay_X10 rfl (by decide) rfl 0 rfl rfl ?_
      refine a_iconstN (v := 1) hB dX10_drawRow_120 (by decide) ?_
      refine a_dup2_11 hB dX10_drawRow_121 rfl rfl ?_
      refine a_daloadN hB dX10_drawRow_122 2 rfl (by omega) (by decide) ?_
      refine a_dload_n hB dX10_drawRow_123 rfl ?_
      refine a_dadd hB dX10_drawRow_124 k8 ?_
      refine a_dastoreN hB dX10_drawRow_125 2 rfl (by omega) (by decide) ?_
      refine a_aload_n hB dX10_drawRow_126 rfl ?_
      refine a_get (T := TX10) (ci := 10) hB dX10_drawRow_127 1 fl_X10_13 lay_X10 rfl (by decide) rfl 0 rfl rfl ?_
      refine a_iconstN (v := 2) hB dX10_drawRow_130 (by decide) ?_
      refine a_dup2_11 hB dX10_drawRow_131 rfl rfl ?_
      refine a_daloadN hB dX10_drawRow_132 2 rfl (by omega) (by decide) ?_
      refine a_dload_n hB dX10_drawRow_133 rfl ?_
      refine a_dload_n hB dX10_drawRow_134 rfl ?_
      refine a_dmul hB dX10_drawRow_135 k9 ?_
      refine a_dadd hB dX10_drawRow_136 k10 ?_
      refine a_dastoreN hB dX10_drawRow_137 2 rfl (by omega) (by decide) ?_
      refine a_aload_n hB dX10_drawRow_138 rfl ?_
      refine a_get (T := TX10) (ci := 10) hB dX10_drawRow_139 1 fl_X10_13 lay_X10 rfl (by decide) rfl 0 rfl rfl ?_
      refine a_iconstN (v := 3) hB dX10_drawRow_142 (by decide) ?_
      refine a_dload_n hB dX10_drawRow_143 rfl ?_
      refine a_dastoreN hB dX10_drawRow_144 2 rfl (by omega) (by decide) ?_
      refine a_iload hB dX10_drawRow_145 rfl ?_
      exact a_iret hB hE rfl dX10_drawRow_147 (Nat.le_of_ble_eq_true rfl) (Nat.le_of_ble_eq_true rfl) (AKeep.of rfl) ⟨rfl, by rw [← mdZ_eq (sf := sf) k1 (isF_0 (P := ZP z sf) hF) (by decide), PV.drawRow_0 (P := ZP z sf) hF, ← mdF_eq]; rfl⟩
    | succ j7 ih7 =>
      intro i hi
      have hi0 : i < z 0 := by omega
      have e0 : mrZ z sf i 0 = z 0 := mrZ_lo (by decide) (by decide)
      have hsd : mrZ z sf i 2 < 2147483648 := by rw [mrZ_2]; exact rowS_sd k6 i
      obtain ⟨hd6, -, -, hdp⟩ := dload_sp4 (tl := tq z) (p := i) (s := nxt (rowS (ZP z sf) i).1) (k5 i hi0)
      have hcor : corr (rowS (ZP z sf) i).2.2.2 (gt (wq z) i (dload (tq z) i (nxt (rowS (ZP z sf) i).1))) (tot (tq z) i) (tot (wq z) i) (gt (tq z) i (dload (tq z) i (nxt (rowS (ZP z sf) i).1))) = (rowS (ZP z sf) (i + 1)).2.2.2 := (cor_n (P := ZP z sf) (hpw i hi0) hdp).symm
      refine a_iload hB dX10_drawRow_7 rfl ?_
      refine a_aload_n hB dX10_drawRow_9 rfl ?_
      refine a_get (T := TX10) (ci := 10) hB dX10_drawRow_10 0 fl_X10_7 lay_X10 rfl (by decide) rfl 0 rfl rfl ?_
      refine a_iconstN (v := 0) hB dX10_drawRow_13 (by decide) ?_
      refine a_ialoadN hB dX10_drawRow_14 1 rfl (by omega) (by decide) ?_
      refine a_icmp_geN_f (tgt := 58) hB dX10_drawRow_15 (by decide) (by omega) (by rw [e0]; omega) (by rw [e0]; omega) ?_
      refine a_aload_n hB dX10_drawRow_18 rfl ?_
      refine a_iload hB dX10_drawRow_19 rfl ?_
      refine a_callVd (w2 := wM G ma (uN (mrZ z sf i) 2 (nxt ((mrZ z sf i) 2))) sf st hh sh len tx th wy mo td re lo to rw ha) (q0 := 0) hB (c_X10_drawLoadV (z := (mrZ z sf i)) (p := i) (by omega) hsd (by rw [mrZ_t (by omega)]; exact k4) (by rw [mrZ_t (by omega)]; exact k5 i hi0)) mk_X10_drawLoad ml_X10_71 dX10_drawRow_21 rfl rfl [0, 1, 2, 3, 4, 5, 6, 7, 8, 9] rfl (by decide) rfl rfl (fit_of hR (by decide)) (Nat.le_of_ble_eq_true rfl) (wput_all rfl rfl) ?_
      rw [mrZ_t (show i ≤ 6 by omega), mrZ_2]
      refine a_istore hB dX10_drawRow_24 (by decide) ?_
      refine a_aload_n hB dX10_drawRow_26 rfl ?_
      refine a_get (T := TX10) (ci := 10) hB dX10_drawRow_27 0 fl_X10_7 lay_X10 rfl (by decide) rfl 0 rfl rfl ?_
      refine a_iconstN (v := 5) hB dX10_drawRow_30 (by decide) ?_
      refine a_iload hB dX10_drawRow_31 rfl ?_
      refine a_iaddN hB dX10_drawRow_33 ?_
      refine a_iload hB dX10_drawRow_34 rfl ?_
      refine a_iastoreN hB dX10_drawRow_36 1 rfl (by omega) (by decide) ?_
      refine aW_w (ws' := wM G ma (mrZ z sf (i + 1)) sf st hh sh len tx th wy mo td re lo to rw ha) (by rw [← mrZ_step z sf i]; rfl) ?_
      refine a_iload_n hB dX10_drawRow_37 rfl ?_
      refine a_iload hB dX10_drawRow_38 rfl ?_
      refine a_iaddN hB dX10_drawRow_40 ?_
      refine a_istore_n hB dX10_drawRow_41 (by decide) ?_
      refine a_aload_n hB dX10_drawRow_42 rfl ?_
      refine a_dload_n hB dX10_drawRow_43 rfl ?_
      refine a_iload hB dX10_drawRow_44 rfl ?_
      refine a_iload hB dX10_drawRow_46 rfl ?_
      refine a_callVr (q0 := 0) hB (c_X10_corrected (z := mrZ z sf (i + 1)) (c := (rowS (ZP z sf) i).2.2.2) (p := i) (l := (dload (tq z) i (nxt (rowS (ZP z sf) i).1))) (by omega) hd6 (by rw [mrZ_w (by omega), mrZ_t (by omega)]; exact k7 i hi0 (fun q => q.elim (hpw i hi0) (fun q => absurd q (Nat.ne_of_gt hdp))))) mk_X10_corrected ml_X10_74 dX10_drawRow_48 rfl rfl [0, 1, 2, 3, 4, 5, 6, 7, 8, 9] rfl (by decide) rfl rfl (fit_of hR (by decide)) (Nat.le_of_ble_eq_true rfl) ?_
      rw [mrZ_w (show i + 1 ≤ 6 by omega), mrZ_t (show i + 1 ≤ 6 by omega), hcor]
      refine a_dstore_n hB dX10_drawRow_51 (by decide) ?_
      refine a_iincN (b := 1) hB dX10_drawRow_52 rfl (by decide) (by decide) ?_
      refine a_goto (tgt := 7) hB dX10_drawRow_55 (by decide) ?_
      exact aW_at [0, 1, 2, 3] rfl rfl rfl (ih7 (i + 1) (by omega))
  exact aW_at [0, 1, 2, 3] rfl rfl (by rw [mrZ_0]) (lp7 (z 0) 0 (by omega))
set_option maxHeartbeats 4000000 in
set_option maxRecDepth 100000 in
theorem c_X10_drawRow_1 {G : GP} {ma z : Nat → Nat} {sf : Nat → UInt64} {st : Nat} {hh : Nat → Nat} {sh : Nat → UInt64} {len : Nat} {tx : Nat → Nat} {th : Nat} {wy mo td : Nat → Nat} {re lo to : Nat} {rw : Nat → Nat} {ha : Int64} (hk : (ZP z sf).rowOK2) (hpw : ∀ p, p < z 0 → ¬ tot (wq z) p = 0) (h00 : FP.dadd (sf 0) FP.dconst0 = sf 0) (hs0 : vf_n64 (sf 0)) (hF : ¬ (rowS (ZP z sf) (z 0)).2.2.1 < z 1) : AMd G sX10_drawRow [.ref (ma 0)] (wM G ma z sf st hh sh len tx th wy mo td re lo to rw ha) (some (.int (nI 1))) (wM G ma (zP z (ZP z sf).drawRow) (sfP sf (ZP z sf).drawRow) st hh sh len tx th wy mo td re lo to rw ha) := by
  refine AM.of (σ := sX10_drawRow) (by decide +kernel) (by decide +kernel) (Nat.le_of_ble_eq_true rfl) (fun B hB hR hE0 hN => ?_)
  have hE := BE.of hE0
  obtain ⟨k1, k2, k3, k4, k5, k6, k7, ⟨k8, k9, k10, k11⟩⟩ := hk
  have k1 : z 0 ≤ 6 := k1
  have k2 : z 1 ≤ 99 := k2
  refine a_iconstN (v := 0) hB dX10_drawRow_0 (by decide) ?_
  refine a_istore_n hB dX10_drawRow_1 (by decide) ?_
  refine a_dconst1 hB dX10_drawRow_2 ?_
  refine a_dstore_n hB dX10_drawRow_3 (by decide) ?_
  refine a_iconstN (v := 0) hB dX10_drawRow_4 (by decide) ?_
  refine a_istore hB dX10_drawRow_5 (by decide) ?_
  have lp7 : ∀ (j7 i : Nat), i + j7 = z 0 → aW G sX10_drawRow B 7 [(0, .ref (ma 0)), (1, .int (nI (rowS (ZP z sf) i).2.2.1)), (2, .double (rowS (ZP z sf) i).2.2.2), (4, .int (nI i))] [] (wM G ma (mrZ z sf i) sf st hh sh len tx th wy mo td re lo to rw ha) 0 0 := by
    intro j7
    induction j7 with
    | zero =>
      intro i hi
      obtain rfl : i = z 0 := by omega
      have e0 : mrZ z sf (z 0) 0 = z 0 := mrZ_lo (by decide) (by decide)
      have e1 : mrZ z sf (z 0) 1 = z 1 := mrZ_lo (by decide) (by decide)
      have hsm := rowS_sum5 (P := ZP z sf) k5 (z 0) (Nat.le_refl _)
      refine a_iload hB dX10_drawRow_7 rfl ?_
      refine a_aload_n hB dX10_drawRow_9 rfl ?_
      refine a_get (T := TX10) (ci := 10) hB dX10_drawRow_10 0 fl_X10_7 lay_X10 rfl (by decide) rfl 0 rfl rfl ?_
      refine a_iconstN (v := 0) hB dX10_drawRow_13 (by decide) ?_
      refine a_ialoadN hB dX10_drawRow_14 1 rfl (by omega) (by decide) ?_
      refine a_icmp_geN_t (tgt := 58) hB dX10_drawRow_15 (by decide) (by omega) (by rw [e0]; omega) (by rw [e0]; omega) ?_
      refine a_iload_n hB dX10_drawRow_58 rfl ?_
      refine a_aload_n hB dX10_drawRow_59 rfl ?_
      refine a_get (T := TX10) (ci := 10) hB dX10_drawRow_60 0 fl_X10_7 lay_X10 rfl (by decide) rfl 0 rfl rfl ?_
      refine a_iconstN (v := 1) hB dX10_drawRow_63 (by decide) ?_
      refine a_ialoadN hB dX10_drawRow_64 1 rfl (by omega) (by decide) ?_
      refine a_icmp_ltN_f (tgt := 72) hB dX10_drawRow_65 (by decide) (by omega) (by rw [e1]; omega) (by rw [e1]; exact hF) ?_
      refine a_iconstN (v := 1) hB dX10_drawRow_68 (by decide) ?_
      refine a_goto (tgt := 73) hB dX10_drawRow_69 (by decide) ?_
      refine a_istore hB dX10_drawRow_73 (by decide) ?_
      refine a_aload_n hB dX10_drawRow_75 rfl ?_
      refine a_get (T := TX10) (ci := 10) hB dX10_drawRow_76 0 fl_X10_7 lay_X10 rfl (by decide) rfl 0 rfl rfl ?_
      refine a_iconstN (v := 3) hB dX10_drawRow_79 (by decide) ?_
      refine a_dup2_11 hB dX10_drawRow_80 rfl rfl ?_
      refine a_ialoadN hB dX10_drawRow_81 1 rfl (by omega) (by decide) ?_
      refine a_iconstN (v := 1) hB dX10_drawRow_82 (by decide) ?_
      refine a_iaddN hB dX10_drawRow_83 ?_
      refine a_iastoreN hB dX10_drawRow_84 1 rfl (by omega) (by decide) ?_
      refine a_aload_n hB dX10_drawRow_85 rfl ?_
      refine a_get (T := TX10) (ci := 10) hB dX10_drawRow_86 0 fl_X10_7 lay_X10 rfl (by decide) rfl 0 rfl rfl ?_
      refine a_iconstN (v := 4) hB dX10_drawRow_89 (by decide) ?_
      refine a_dup2_11 hB dX10_drawRow_90 rfl rfl ?_
      refine a_ialoadN hB dX10_drawRow_91 1 rfl (by omega) (by decide) ?_
      refine a_iload hB dX10_drawRow_92 rfl ?_
      refine a_iaddN hB dX10_drawRow_94 ?_
      refine a_iastoreN hB dX10_drawRow_95 1 rfl (by omega) (by decide) ?_
      refine a_aload_n hB dX10_drawRow_96 rfl ?_
      refine a_get (T := TX10) (ci := 10) hB dX10_drawRow_97 1 fl_X10_13 lay_X10 rfl (by decide) rfl 0 rfl rfl ?_
      refine a_iconstN (v := 0) hB dX10_drawRow_100 (by decide) ?_
      refine a_dup2_11 hB dX10_drawRow_101 rfl rfl ?_
      refine a_daloadN hB dX10_drawRow_102 2 rfl (by omega) (by decide) ?_
      refine a_iload hB dX10_drawRow_103 rfl ?_
      refine a_iconstN (v := 1) hB dX10_drawRow_105 (by decide) ?_
      refine a_icmp_neN_f (tgt := 113) hB dX10_drawRow_106 (by decide) (by omega) (by omega) (by omega) ?_
      refine a_dload_n hB dX10_drawRow_109 rfl ?_
      refine a_goto (tgt := 114) hB dX10_drawRow_110 (by decide) ?_
      refine a_dadd hB dX10_drawRow_114 k11 ?_
      refine a_dastoreN hB dX10_drawRow_115 2 rfl (by omega) (by decide) ?_
      refine a_aload_n hB dX10_drawRow_116 rfl ?_
      refine a_get (T := TX10) (ci := 10) hB dX10_drawRow_117 1 fl_X10_13 lay_X10 rfl (by decide) rfl 0 rfl rfl ?_
      refine a_iconstN (v := 1) hB dX10_drawRow_120 (by decide) ?_
      refine a_dup2_11 hB dX10_drawRow_121 rfl rfl ?_
      refine a_daloadN hB dX10_drawRow_122 2 rfl (by omega) (by decide) ?_
      refine a_dload_n hB dX10_drawRow_123 rfl ?_
      refine a_dadd hB dX10_drawRow_124 k8 ?_
      refine a_dastoreN hB dX10_drawRow_125 2 rfl (by omega) (by decide) ?_
      refine a_aload_n hB dX10_drawRow_126 rfl ?_
      refine a_get (T := TX10) (ci := 10) hB dX10_drawRow_127 1 fl_X10_13 lay_X10 rfl (by decide) rfl 0 rfl rfl ?_
      refine a_iconstN (v := 2) hB dX10_drawRow_130 (by decide) ?_
      refine a_dup2_11 hB dX10_drawRow_131 rfl rfl ?_
      refine a_daloadN hB dX10_drawRow_132 2 rfl (by omega) (by decide) ?_
      refine a_dload_n hB dX10_drawRow_133 rfl ?_
      refine a_dload_n hB dX10_drawRow_134 rfl ?_
      refine a_dmul hB dX10_drawRow_135 k9 ?_
      refine a_dadd hB dX10_drawRow_136 k10 ?_
      refine a_dastoreN hB dX10_drawRow_137 2 rfl (by omega) (by decide) ?_
      refine a_aload_n hB dX10_drawRow_138 rfl ?_
      refine a_get (T := TX10) (ci := 10) hB dX10_drawRow_139 1 fl_X10_13 lay_X10 rfl (by decide) rfl 0 rfl rfl ?_
      refine a_iconstN (v := 3) hB dX10_drawRow_142 (by decide) ?_
      refine a_dload_n hB dX10_drawRow_143 rfl ?_
      refine a_dastoreN hB dX10_drawRow_144 2 rfl (by omega) (by decide) ?_
      refine a_iload hB dX10_drawRow_145 rfl ?_
      exact a_iret hB hE rfl dX10_drawRow_147 (Nat.le_of_ble_eq_true rfl) (Nat.le_of_ble_eq_true rfl) (AKeep.of rfl) ⟨rfl, by rw [← mdZ_eq (sf := sf) k1 (isF_1 (P := ZP z sf) hF) (by decide), PV.drawRow_1 (P := ZP z sf) hF, ← mdF_eq]; rfl⟩
    | succ j7 ih7 =>
      intro i hi
      have hi0 : i < z 0 := by omega
      have e0 : mrZ z sf i 0 = z 0 := mrZ_lo (by decide) (by decide)
      have hsd : mrZ z sf i 2 < 2147483648 := by rw [mrZ_2]; exact rowS_sd k6 i
      obtain ⟨hd6, -, -, hdp⟩ := dload_sp4 (tl := tq z) (p := i) (s := nxt (rowS (ZP z sf) i).1) (k5 i hi0)
      have hcor : corr (rowS (ZP z sf) i).2.2.2 (gt (wq z) i (dload (tq z) i (nxt (rowS (ZP z sf) i).1))) (tot (tq z) i) (tot (wq z) i) (gt (tq z) i (dload (tq z) i (nxt (rowS (ZP z sf) i).1))) = (rowS (ZP z sf) (i + 1)).2.2.2 := (cor_n (P := ZP z sf) (hpw i hi0) hdp).symm
      refine a_iload hB dX10_drawRow_7 rfl ?_
      refine a_aload_n hB dX10_drawRow_9 rfl ?_
      refine a_get (T := TX10) (ci := 10) hB dX10_drawRow_10 0 fl_X10_7 lay_X10 rfl (by decide) rfl 0 rfl rfl ?_
      refine a_iconstN (v := 0) hB dX10_drawRow_13 (by decide) ?_
      refine a_ialoadN hB dX10_drawRow_14 1 rfl (by omega) (by decide) ?_
      refine a_icmp_geN_f (tgt := 58) hB dX10_drawRow_15 (by decide) (by omega) (by rw [e0]; omega) (by rw [e0]; omega) ?_
      refine a_aload_n hB dX10_drawRow_18 rfl ?_
      refine a_iload hB dX10_drawRow_19 rfl ?_
      refine a_callVd (w2 := wM G ma (uN (mrZ z sf i) 2 (nxt ((mrZ z sf i) 2))) sf st hh sh len tx th wy mo td re lo to rw ha) (q0 := 0) hB (c_X10_drawLoadV (z := (mrZ z sf i)) (p := i) (by omega) hsd (by rw [mrZ_t (by omega)]; exact k4) (by rw [mrZ_t (by omega)]; exact k5 i hi0)) mk_X10_drawLoad ml_X10_71 dX10_drawRow_21 rfl rfl [0, 1, 2, 3, 4, 5, 6, 7, 8, 9] rfl (by decide) rfl rfl (fit_of hR (by decide)) (Nat.le_of_ble_eq_true rfl) (wput_all rfl rfl) ?_
      rw [mrZ_t (show i ≤ 6 by omega), mrZ_2]
      refine a_istore hB dX10_drawRow_24 (by decide) ?_
      refine a_aload_n hB dX10_drawRow_26 rfl ?_
      refine a_get (T := TX10) (ci := 10) hB dX10_drawRow_27 0 fl_X10_7 lay_X10 rfl (by decide) rfl 0 rfl rfl ?_
      refine a_iconstN (v := 5) hB dX10_drawRow_30 (by decide) ?_
      refine a_iload hB dX10_drawRow_31 rfl ?_
      refine a_iaddN hB dX10_drawRow_33 ?_
      refine a_iload hB dX10_drawRow_34 rfl ?_
      refine a_iastoreN hB dX10_drawRow_36 1 rfl (by omega) (by decide) ?_
      refine aW_w (ws' := wM G ma (mrZ z sf (i + 1)) sf st hh sh len tx th wy mo td re lo to rw ha) (by rw [← mrZ_step z sf i]; rfl) ?_
      refine a_iload_n hB dX10_drawRow_37 rfl ?_
      refine a_iload hB dX10_drawRow_38 rfl ?_
      refine a_iaddN hB dX10_drawRow_40 ?_
      refine a_istore_n hB dX10_drawRow_41 (by decide) ?_
      refine a_aload_n hB dX10_drawRow_42 rfl ?_
      refine a_dload_n hB dX10_drawRow_43 rfl ?_
      refine a_iload hB dX10_drawRow_44 rfl ?_
      refine a_iload hB dX10_drawRow_46 rfl ?_
      refine a_callVr (q0 := 0) hB (c_X10_corrected (z := mrZ z sf (i + 1)) (c := (rowS (ZP z sf) i).2.2.2) (p := i) (l := (dload (tq z) i (nxt (rowS (ZP z sf) i).1))) (by omega) hd6 (by rw [mrZ_w (by omega), mrZ_t (by omega)]; exact k7 i hi0 (fun q => q.elim (hpw i hi0) (fun q => absurd q (Nat.ne_of_gt hdp))))) mk_X10_corrected ml_X10_74 dX10_drawRow_48 rfl rfl [0, 1, 2, 3, 4, 5, 6, 7, 8, 9] rfl (by decide) rfl rfl (fit_of hR (by decide)) (Nat.le_of_ble_eq_true rfl) ?_
      rw [mrZ_w (show i + 1 ≤ 6 by omega), mrZ_t (show i + 1 ≤ 6 by omega), hcor]
      refine a_dstore_n hB dX10_drawRow_51 (by decide) ?_
      refine a_iincN (b := 1) hB dX10_drawRow_52 rfl (by decide) (by decide) ?_
      refine a_goto (tgt := 7) hB dX10_drawRow_55 (by decide) ?_
      exact aW_at [0, 1, 2, 3] rfl rfl rfl (ih7 (i + 1) (by omega))
  exact aW_at [0, 1, 2, 3] rfl rfl (by rw [mrZ_0]) (lp7 (z 0) 0 (by omega))
