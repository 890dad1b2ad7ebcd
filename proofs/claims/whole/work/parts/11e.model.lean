theorem sum_z {f : Nat → Nat} {u : Nat} : ∀ n, u ≤ n → (∀ l, u ≤ l → l < n → f l = 0) → sumN f n = sumN f u
  | 0, h, _ => by rw [show u = 0 by omega]
  | n + 1, h, h0 => by
    rcases Nat.lt_or_ge n u with q | q
    · rw [show u = n + 1 by omega]
    · show sumN f n + f n = sumN f u
      rw [h0 n q (Nat.lt_succ_self n), sum_z n q (fun l a b => h0 l a (Nat.lt_succ_of_lt b))]
      rfl
theorem apI_ref {wt : Nat → Nat} {p : Nat} {f : Nat → Nat} {m u : Nat} (hm : m < 31) (hu : u = min 6 (m + 1)) : uN (apI wt p f (m + 1)) m (sumN (fun l => gt wt p l * wv (apI wt p f (m + 1)) m l) u) = apI wt p f m := by
  have e : sumN (fun l => gt wt p l * wv (apI wt p f (m + 1)) m l) 6 = sumN (fun l => gt wt p l * wv (apI wt p f (m + 1)) m l) u := sum_z 6 (by omega) (fun l a b => by
    show gt wt p l * wv (apI wt p f (m + 1)) m l = 0
    unfold wv
    rw [if_neg (by omega)]
    rfl)
  rw [← e]
  exact apI_step hm
set_option maxHeartbeats 4000000 in
set_option maxRecDepth 100000 in
theorem c_X10_addPartWays {G : GP} {ma z : Nat → Nat} {sf : Nat → UInt64} {st : Nat} {hh : Nat → Nat} {sh : Nat → UInt64} {len : Nat} {tx : Nat → Nat} {th : Nat} {wy mo td : Nat → Nat} {re lo to : Nat} {rw : Nat → Nat} {ha : Int64} {p : Nat} (hp : p < 6) (hw : ∀ l, l < 6 → gt (wq z) p l < 2 ^ 31) : AMd G sX10_addPartWays [.ref (ma 0), .int (nI p)] (wM G ma z sf st hh sh len tx th wy mo td re lo to rw ha) none (wM G ma z sf st hh sh len tx th (apP (wq z) p wy) mo td re lo to rw ha) := by
  refine AM.of (σ := sX10_addPartWays) (by decide +kernel) (by decide +kernel) (Nat.le_of_ble_eq_true rfl) (fun B hB hR hE0 hN => ?_)
  have hE := BE.of hE0
  refine a_bipushN (v := 30) hB dX10_addPartWays_0 (by decide) ?_
  refine a_istore_n hB dX10_addPartWays_2 (by decide) ?_
  have lp3 : ∀ (j3 i : Nat), i = j3 ∧ i ≤ 31 → aW G sX10_addPartWays B 3 [(0, .ref (ma 0)), (1, .int (nI p)), (2, .int (nI i + (-1)))] [] (wM G ma z sf st hh sh len tx th (apI (wq z) p wy i) mo td re lo to rw ha) 0 0 := by
    intro j3
    induction j3 with
    | zero =>
      intro i hi
      obtain ⟨rfl, hb⟩ := hi
      refine a_iload_n hB dX10_addPartWays_3 rfl ?_
      refine a_if_lt_t (tgt := 65) hB dX10_addPartWays_4 (by decide) (by decide) ?_
      exact a_vret hB hE rfl dX10_addPartWays_65 (Nat.le_of_ble_eq_true rfl) (Nat.le_of_ble_eq_true rfl) (AKeep.of rfl) ⟨rfl, rfl⟩
    | succ j3 ih3 =>
      intro i hi
      obtain ⟨rfl, hb⟩ := hi
      rw [pk_m1]
      refine a_iload_n hB dX10_addPartWays_3 rfl ?_
      refine a_if_ltN_f (tgt := 65) hB dX10_addPartWays_4 (by decide) (by omega) ?_
      refine a_lconstN (v := 0) hB dX10_addPartWays_7 (by decide) ?_
      refine a_lstore_n hB dX10_addPartWays_8 (by decide) ?_
      refine a_iconstN (v := 0) hB dX10_addPartWays_9 (by decide) ?_
      refine a_istore hB dX10_addPartWays_10 (by decide) ?_
      have lp12 : ∀ (j12 u : Nat), u + j12 = min 6 (j3 + 1) → aW G sX10_addPartWays B 12 [(0, .ref (ma 0)), (1, .int (nI p)), (2, .int (nI j3)), (3, .long (lN (sumN (fun l => gt (wq z) p l * wv (apI (wq z) p wy (j3 + 1)) j3 l) u))), (5, .int (nI u))] [] (wM G ma z sf st hh sh len tx th (apI (wq z) p wy (j3 + 1)) mo td re lo to rw ha) 0 0 := by
        intro j12
        induction j12 with
        | zero =>
          intro u hi
          refine a_iload hB dX10_addPartWays_12 rfl ?_
          refine a_bipushN (v := 6) hB dX10_addPartWays_14 (by decide) ?_
          refine a_icmp_geN (tgt := 52) hB dX10_addPartWays_16 (by decide) (by omega) (by omega) (fun c16 => ?_) (fun c16 => ?_)
          · refine a_aload_n hB dX10_addPartWays_52 rfl ?_
            refine a_get (T := TX10) (ci := 10) hB dX10_addPartWays_53 8 fl_X10_26 lay_X10 rfl (by decide) rfl 0 rfl rfl ?_
            refine a_iload_n hB dX10_addPartWays_56 rfl ?_
            refine a_lload_n hB dX10_addPartWays_57 rfl ?_
            refine a_lastoreN hB dX10_addPartWays_58 6 rfl (by omega) (by decide) ?_
            refine a_iinc (v := -1) hB dX10_addPartWays_59 rfl (by decide) (by decide) ?_
            refine a_goto (tgt := 3) hB dX10_addPartWays_62 (by decide) ?_
            exact aW_at [0, 1, 2] rfl rfl (by rw [← apI_ref (wt := wq z) (p := p) (f := wy) (m := j3) (u := u) (by omega) (by omega)]; rfl) (ih3 j3 ⟨rfl, by omega⟩)
          · refine a_iload hB dX10_addPartWays_19 rfl ?_
            refine a_iload_n hB dX10_addPartWays_21 rfl ?_
            refine a_icmp_gtN_t (tgt := 52) hB dX10_addPartWays_22 (by decide) (by omega) (by omega) (by omega) ?_
            refine a_aload_n hB dX10_addPartWays_52 rfl ?_
            refine a_get (T := TX10) (ci := 10) hB dX10_addPartWays_53 8 fl_X10_26 lay_X10 rfl (by decide) rfl 0 rfl rfl ?_
            refine a_iload_n hB dX10_addPartWays_56 rfl ?_
            refine a_lload_n hB dX10_addPartWays_57 rfl ?_
            refine a_lastoreN hB dX10_addPartWays_58 6 rfl (by omega) (by decide) ?_
            refine a_iinc (v := -1) hB dX10_addPartWays_59 rfl (by decide) (by decide) ?_
            refine a_goto (tgt := 3) hB dX10_addPartWays_62 (by decide) ?_
            exact aW_at [0, 1, 2] rfl rfl (by rw [← apI_ref (wt := wq z) (p := p) (f := wy) (m := j3) (u := u) (by omega) (by omega)]; rfl) (ih3 j3 ⟨rfl, by omega⟩)
        | succ j12 ih12 =>
          intro u hi
          have hwu := hw u (by omega)
          refine a_iload hB dX10_addPartWays_12 rfl ?_
          refine a_bipushN (v := 6) hB dX10_addPartWays_14 (by decide) ?_
          refine a_icmp_geN_f (tgt := 52) hB dX10_addPartWays_16 (by decide) (by omega) (by omega) (by omega) ?_
          refine a_iload hB dX10_addPartWays_19 rfl ?_
          refine a_iload_n hB dX10_addPartWays_21 rfl ?_
          refine a_icmp_gtN_f (tgt := 52) hB dX10_addPartWays_22 (by decide) (by omega) (by omega) (by omega) ?_
          refine a_lload_n hB dX10_addPartWays_25 rfl ?_
          refine a_aload_n hB dX10_addPartWays_26 rfl ?_
          refine a_get (T := TX10) (ci := 10) hB dX10_addPartWays_27 8 fl_X10_26 lay_X10 rfl (by decide) rfl 0 rfl rfl ?_
          refine a_iload_n hB dX10_addPartWays_30 rfl ?_
          refine a_iload hB dX10_addPartWays_31 rfl ?_
          refine a_isubN hB dX10_addPartWays_33 (by omega) ?_
          refine a_laloadN hB dX10_addPartWays_34 6 rfl (by omega) (by decide) ?_
          refine a_aload_n hB dX10_addPartWays_35 rfl ?_
          refine a_iload_n hB dX10_addPartWays_36 rfl ?_
          refine a_iload hB dX10_addPartWays_37 rfl ?_
          refine a_callVr (q0 := 0) hB (c_X10_weightOf (by omega) (by omega)) mk_X10_weightOf ml_X10_50 dX10_addPartWays_39 rfl rfl [0, 1, 2, 3, 4, 5, 6, 7, 8, 9] rfl (by decide) rfl rfl (fit_of hR (by decide)) (Nat.le_of_ble_eq_true rfl) ?_
          refine a_i2lN hB dX10_addPartWays_42 (by omega) ?_
          refine a_lmulN hB dX10_addPartWays_43 ?_
          refine a_laddN hB dX10_addPartWays_44 ?_
          refine a_lstore_n hB dX10_addPartWays_45 (by decide) ?_
          refine a_iincN (b := 1) hB dX10_addPartWays_46 rfl (by decide) (by decide) ?_
          refine a_goto (tgt := 12) hB dX10_addPartWays_49 (by decide) ?_
          have e9 : (apI (wq z) p wy (j3 + 1)) (j3 - u) * gt (wq z) p u = gt (wq z) p u * wv (apI (wq z) p wy (j3 + 1)) j3 u := by
            rw [Nat.mul_comm]
            exact congrArg (fun y => gt (wq z) p u * y) (if_pos (by omega)).symm
          exact aW_at [0, 1, 2, 3, 4] (by rw [e9]; rfl) rfl rfl (ih12 (u + 1) (by omega))
      exact aW_at [0, 1, 2, 3, 4] rfl rfl rfl (lp12 (min 6 (j3 + 1)) 0 (by omega))
  exact aW_at [0, 1, 2] (by rw [show nI 31 + (-1) = nI 30 from pk_m1 30]; first | done | rfl) rfl (by rw [apI_31]) (lp3 31 31 ⟨rfl, Nat.le_refl _⟩)
set_option maxHeartbeats 4000000 in
set_option maxRecDepth 100000 in
theorem c_X10_layWays {G : GP} {ma z : Nat → Nat} {sf : Nat → UInt64} {st : Nat} {hh : Nat → Nat} {sh : Nat → UInt64} {len : Nat} {tx : Nat → Nat} {th : Nat} {wy mo td : Nat → Nat} {re lo to : Nat} {rw : Nat → Nat} {ha : Int64} {wo : Int32} (h6 : z 0 ≤ 6) (hw : ∀ p, p < z 0 → ∀ l, l < 6 → gt (wq z) p l < 2 ^ 31)  : AMd G sX10_layWays [.ref (ma 0), .int wo] (wM G ma z sf st hh sh len tx th wy mo td re lo to rw ha) none (wM G ma z sf st hh sh len tx th (cnF (wq z) wo wy (z 0)) mo td re lo to rw ha) := by
  refine AM.of (σ := sX10_layWays) (by decide +kernel) (by decide +kernel) (Nat.le_of_ble_eq_true rfl) (fun B hB hR hE0 hN => ?_)
  have hE := BE.of hE0
  refine a_iconstN (v := 0) hB dX10_layWays_0 (by decide) ?_
  refine a_istore_n hB dX10_layWays_1 (by decide) ?_
  have lp2 : ∀ (j2 i : Nat), i + j2 = 31 → aW G sX10_layWays B 2 [(0, .ref (ma 0)), (1, .int wo), (2, .int (nI i))] [] (wM G ma z sf st hh sh len tx th (oneF wy i) mo td re lo to rw ha) 0 0 := by
    intro j2
    induction j2 with
    | zero =>
      intro i hi
      refine a_iload_n hB dX10_layWays_2 rfl ?_
      refine a_bipushN (v := 31) hB dX10_layWays_3 (by decide) ?_
      refine a_icmp_geN_t (tgt := 29) hB dX10_layWays_5 (by decide) (by omega) (by omega) (by omega) ?_
      refine a_iconstN (v := 0) hB dX10_layWays_29 (by decide) ?_
      refine a_istore_n hB dX10_layWays_30 (by decide) ?_
      have lp31 : ∀ (j31 i : Nat), i + j31 = z 0 → aW G sX10_layWays B 31 [(0, .ref (ma 0)), (1, .int wo), (2, .int (nI i))] [] (wM G ma z sf st hh sh len tx th (cnF (wq z) wo wy i) mo td re lo to rw ha) 0 0 := by
        intro j31
        induction j31 with
        | zero =>
          intro i hi
          refine a_iload_n hB dX10_layWays_31 rfl ?_
          refine a_aload_n hB dX10_layWays_32 rfl ?_
          refine a_get (T := TX10) (ci := 10) hB dX10_layWays_33 0 fl_X10_7 lay_X10 rfl (by decide) rfl 0 rfl rfl ?_
          refine a_iconstN (v := 0) hB dX10_layWays_36 (by decide) ?_
          refine a_ialoadN hB dX10_layWays_37 1 rfl (by omega) (by decide) ?_
          refine a_icmp_geN_t (tgt := 57) hB dX10_layWays_38 (by decide) (by omega) (by omega) (by omega) ?_
          exact a_vret hB hE rfl dX10_layWays_57 (Nat.le_of_ble_eq_true rfl) (Nat.le_of_ble_eq_true rfl) (AKeep.of rfl) ⟨rfl, by rw [show i = z 0 by omega]⟩
        | succ j31 ih31 =>
          intro i hi
          refine a_iload_n hB dX10_layWays_31 rfl ?_
          refine a_aload_n hB dX10_layWays_32 rfl ?_
          refine a_get (T := TX10) (ci := 10) hB dX10_layWays_33 0 fl_X10_7 lay_X10 rfl (by decide) rfl 0 rfl rfl ?_
          refine a_iconstN (v := 0) hB dX10_layWays_36 (by decide) ?_
          refine a_ialoadN hB dX10_layWays_37 1 rfl (by omega) (by decide) ?_
          refine a_icmp_geN_f (tgt := 57) hB dX10_layWays_38 (by decide) (by omega) (by omega) (by omega) ?_
          refine a_iload_n hB dX10_layWays_41 rfl ?_
          refine a_iload_n hB dX10_layWays_42 rfl ?_
          refine a_icmp_eq (tgt := 51) hB dX10_layWays_43 (by decide) (fun c43 => ?_) (fun c43 => ?_)
          · refine a_iincN (b := 1) hB dX10_layWays_51 rfl (by decide) (by decide) ?_
            refine a_goto (tgt := 31) hB dX10_layWays_54 (by decide) ?_
            first | (have e9 := cnF_y (wt := wq z) (f := wy) c43) | (have e9 := cnF_n (wt := wq z) (f := wy) c43)
            exact aW_at [0, 1, 2] rfl rfl (by rw [e9]) (ih31 (i + 1) (by omega))
          · refine a_aload_n hB dX10_layWays_46 rfl ?_
            refine a_iload_n hB dX10_layWays_47 rfl ?_
            refine a_callVd (w2 := wM G ma z sf st hh sh len tx th (apP (wq z) i (cnF (wq z) wo wy i)) mo td re lo to rw ha) (q0 := 0) hB (c_X10_addPartWays (p := i) (wy := cnF (wq z) wo wy i) (by omega) (hw i (by omega))) mk_X10_addPartWays ml_X10_78 dX10_layWays_48 rfl rfl [0, 1, 2, 3, 4, 5, 6, 7, 8, 9] rfl (by decide) rfl rfl (fit_of hR (by decide)) (Nat.le_of_ble_eq_true rfl) (wput_all rfl rfl) ?_
            refine a_iincN (b := 1) hB dX10_layWays_51 rfl (by decide) (by decide) ?_
            refine a_goto (tgt := 31) hB dX10_layWays_54 (by decide) ?_
            first | (have e9 := cnF_y (wt := wq z) (f := wy) c43) | (have e9 := cnF_n (wt := wq z) (f := wy) c43)
            exact aW_at [0, 1, 2] rfl rfl (by rw [e9]) (ih31 (i + 1) (by omega))
      exact aW_at [0, 1, 2] rfl rfl (by rw [show i = 31 by omega]; rfl) (lp31 (z 0) 0 (by omega))
    | succ j2 ih2 =>
      intro i hi
      refine a_iload_n hB dX10_layWays_2 rfl ?_
      refine a_bipushN (v := 31) hB dX10_layWays_3 (by decide) ?_
      refine a_icmp_geN_f (tgt := 29) hB dX10_layWays_5 (by decide) (by omega) (by omega) (by omega) ?_
      refine a_aload_n hB dX10_layWays_8 rfl ?_
      refine a_get (T := TX10) (ci := 10) hB dX10_layWays_9 8 fl_X10_26 lay_X10 rfl (by decide) rfl 0 rfl rfl ?_
      refine a_iload_n hB dX10_layWays_12 rfl ?_
      refine a_iload_n hB dX10_layWays_13 rfl ?_
      refine a_if_neN (tgt := 21) hB dX10_layWays_14 (by decide) (by omega) (fun c14 => ?_) (fun c14 => ?_)
      · refine a_lconstN (v := 0) hB dX10_layWays_21 (by decide) ?_
        refine a_lastoreN hB dX10_layWays_22 6 rfl (by omega) (by decide) ?_
        refine a_iincN (b := 1) hB dX10_layWays_23 rfl (by decide) (by decide) ?_
        refine a_goto (tgt := 2) hB dX10_layWays_26 (by decide) ?_
        first | (have e9 := oneF_step wy i; rw [if_pos c14] at e9) | (have e9 := oneF_step wy i; rw [if_neg c14] at e9)
        exact aW_at [0, 1, 2] rfl rfl (by rw [← e9]; rfl) (ih2 (i + 1) (by omega))
      · refine a_lconstN (v := 1) hB dX10_layWays_17 (by decide) ?_
        refine a_goto (tgt := 22) hB dX10_layWays_18 (by decide) ?_
        refine a_lastoreN hB dX10_layWays_22 6 rfl (by omega) (by decide) ?_
        refine a_iincN (b := 1) hB dX10_layWays_23 rfl (by decide) (by decide) ?_
        refine a_goto (tgt := 2) hB dX10_layWays_26 (by decide) ?_
        first | (have e9 := oneF_step wy i; rw [if_pos c14] at e9) | (have e9 := oneF_step wy i; rw [if_neg c14] at e9)
        exact aW_at [0, 1, 2] rfl rfl (by rw [← e9]; rfl) (ih2 (i + 1) (by omega))
  exact aW_at [0, 1, 2] rfl rfl (by rw [oneF_0]) (lp2 (31) 0 (by omega))
set_option maxHeartbeats 4000000 in
set_option maxRecDepth 100000 in
theorem c_X10_oddsBy {G : GP} {ma z : Nat → Nat} {sf : Nat → UInt64} {st : Nat} {hh : Nat → Nat} {sh : Nat → UInt64} {len : Nat} {tx : Nat → Nat} {th : Nat} {wy mo td : Nat → Nat} {re lo to : Nat} {rw : Nat → Nat} {ha : Int64} {s : Nat} {wo : Int32} (h6 : z 0 ≤ 6) (hw : ∀ p, p < z 0 → ∀ l, l < 6 → gt (wq z) p l < 2 ^ 31) (hs : s < 2 ^ 30) (ho : vf_n64 (FP.ddiv (FP.l2d (lN (wfrom (cnF (wq z) wo wy (z 0)) s))) (FP.l2d (lN (wfrom (cnF (wq z) wo wy (z 0)) 0))))) : AMd G sX10_oddsBy [.ref (ma 0), .int (nI s), .int wo] (wM G ma z sf st hh sh len tx th wy mo td re lo to rw ha) (some (.double (FP.ddiv (FP.l2d (lN (wfrom (cnF (wq z) wo wy (z 0)) s))) (FP.l2d (lN (wfrom (cnF (wq z) wo wy (z 0)) 0)))))) (wM G ma z sf st hh sh len tx th (cnF (wq z) wo wy (z 0)) mo td re lo to rw ha) := by
  refine AM.of (σ := sX10_oddsBy) (by decide +kernel) (by decide +kernel) (Nat.le_of_ble_eq_true rfl) (fun B hB hR hE0 hN => ?_)
  have hE := BE.of hE0
  refine a_aload_n hB dX10_oddsBy_0 rfl ?_
  refine a_iload_n hB dX10_oddsBy_1 rfl ?_
  refine a_callVd (w2 := wM G ma z sf st hh sh len tx th (cnF (wq z) wo wy (z 0)) mo td re lo to rw ha) (q0 := 0) hB (c_X10_layWays (wo := wo) h6 hw) mk_X10_layWays ml_X10_82 dX10_oddsBy_2 rfl rfl [0, 1, 2, 3, 4, 5, 6, 7, 8, 9] rfl (by decide) rfl rfl (fit_of hR (by decide)) (Nat.le_of_ble_eq_true rfl) (wput_all rfl rfl) ?_
  refine a_aload_n hB dX10_oddsBy_5 rfl ?_
  refine a_iload_n hB dX10_oddsBy_6 rfl ?_
  refine a_callVr (q0 := 0) hB (c_X10_waysFrom (wy := (cnF (wq z) wo wy (z 0))) (by omega)) mk_X10_waysFrom ml_X10_85 dX10_oddsBy_7 rfl rfl [0, 1, 2, 3, 4, 5, 6, 7, 8, 9] rfl (by decide) rfl rfl (fit_of hR (by decide)) (Nat.le_of_ble_eq_true rfl) ?_
  refine a_l2d hB dX10_oddsBy_10 ?_
  refine a_aload_n hB dX10_oddsBy_11 rfl ?_
  refine a_iconstN (v := 0) hB dX10_oddsBy_12 (by decide) ?_
  refine a_callVr (q0 := 0) hB (c_X10_waysFrom (wy := (cnF (wq z) wo wy (z 0))) (by omega)) mk_X10_waysFrom ml_X10_85 dX10_oddsBy_13 rfl rfl [0, 1, 2, 3, 4, 5, 6, 7, 8, 9] rfl (by decide) rfl rfl (fit_of hR (by decide)) (Nat.le_of_ble_eq_true rfl) ?_
  refine a_l2d hB dX10_oddsBy_16 ?_
  refine a_ddiv hB dX10_oddsBy_17 ho ?_
  exact a_dret hB hE rfl dX10_oddsBy_18 (Nat.le_of_ble_eq_true rfl) (Nat.le_of_ble_eq_true rfl) (AKeep.of rfl) ⟨rfl, rfl⟩
