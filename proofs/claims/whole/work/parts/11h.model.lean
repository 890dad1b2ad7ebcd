theorem mxS_l {f : Nat → Nat} {n : Nat} (h : f n ≤ mxN f n) : mxN f (n + 1) = mxN f n := Nat.max_eq_left h
theorem mxS_r {f : Nat → Nat} {n : Nat} (h : ¬ f n ≤ mxN f n) : mxN f (n + 1) = f n := Nat.max_eq_right (Nat.le_of_lt (Nat.lt_of_not_le h))
set_option maxHeartbeats 4000000 in
set_option maxRecDepth 100000 in
theorem c_X10_layMost {G : GP} {ma z : Nat → Nat} {sf : Nat → UInt64} {st : Nat} {hh : Nat → Nat} {sh : Nat → UInt64} {len : Nat} {tx : Nat → Nat} {th : Nat} {wy mo td : Nat → Nat} {re lo to : Nat} {rw : Nat → Nat} {ha : Int64} (h6 : z 0 ≤ 6) (hw : ∀ p l, p < 6 → l < 6 → gt (wq z) p l ≤ 9) : AMd G sX10_layMost [.ref (ma 0)] (wM G ma z sf st hh sh len tx th wy mo td re lo to rw ha) none (wM G ma z sf st hh sh len tx th wy (lkm (wq z) mo (z 0) 0 0) td re lo to rw ha) := by
  refine AM.of (σ := sX10_layMost) (by decide +kernel) (by decide +kernel) (Nat.le_of_ble_eq_true rfl) (fun B hB hR hE0 hN => ?_)
  have hE := BE.of hE0
  refine a_iconstN (v := 0) hB dX10_layMost_0 (by decide) ?_
  refine a_istore_n hB dX10_layMost_1 (by decide) ?_
  have lp2 : ∀ (j2 i : Nat), i + j2 = 100 → aW G sX10_layMost B 2 [(0, .ref (ma 0)), (1, .int (nI i))] [] (wM G ma z sf st hh sh len tx th wy (lkm (wq z) mo (z 0) (z 0 + 1) i) td re lo to rw ha) 0 0 := by
    intro j2
    induction j2 with
    | zero =>
      intro i hi
      refine a_iload_n hB dX10_layMost_2 rfl ?_
      refine a_bipushN (v := 99) hB dX10_layMost_3 (by decide) ?_
      refine a_icmp_gtN_t (tgt := 39) hB dX10_layMost_5 (by decide) (by omega) (by omega) (by omega) ?_
      refine a_aload_n hB dX10_layMost_39 rfl ?_
      refine a_get (T := TX10) (ci := 10) hB dX10_layMost_40 0 fl_X10_7 lay_X10 rfl (by decide) rfl 0 rfl rfl ?_
      refine a_iconstN (v := 0) hB dX10_layMost_43 (by decide) ?_
      refine a_ialoadN hB dX10_layMost_44 1 rfl (by omega) (by decide) ?_
      refine a_iconstN (v := 1) hB dX10_layMost_45 (by decide) ?_
      refine a_isub hB dX10_layMost_46 ?_
      refine a_istore_n hB dX10_layMost_47 (by decide) ?_
      have lp48 : ∀ (j48 i : Nat), i = j48 ∧ i ≤ z 0 → aW G sX10_layMost B 48 [(0, .ref (ma 0)), (1, .int (nI i + (-1)))] [] (wM G ma z sf st hh sh len tx th wy (lkm (wq z) mo (z 0) i 0) td re lo to rw ha) 0 0 := by
        intro j48
        induction j48 with
        | zero =>
          intro i hi
          obtain ⟨rfl, hb⟩ := hi
          refine a_iload_n hB dX10_layMost_48 rfl ?_
          refine a_if_lt_t (tgt := 125) hB dX10_layMost_49 (by decide) (by decide) ?_
          exact a_vret hB hE rfl dX10_layMost_125 (Nat.le_of_ble_eq_true rfl) (Nat.le_of_ble_eq_true rfl) (AKeep.of rfl) ⟨rfl, rfl⟩
        | succ j48 ih48 =>
          intro i hi
          obtain ⟨rfl, hb⟩ := hi
          rw [pk_m1]
          refine a_iload_n hB dX10_layMost_48 rfl ?_
          refine a_if_ltN_f (tgt := 125) hB dX10_layMost_49 (by decide) (by omega) ?_
          refine a_iconstN (v := 0) hB dX10_layMost_52 (by decide) ?_
          refine a_istore_n hB dX10_layMost_53 (by decide) ?_
          have lp54 : ∀ (j54 u : Nat), u + j54 = 100 → aW G sX10_layMost B 54 [(0, .ref (ma 0)), (1, .int (nI j48)), (2, .int (nI u))] [] (wM G ma z sf st hh sh len tx th wy (lkm (wq z) mo (z 0) (j48 + 1) u) td re lo to rw ha) 0 0 := by
            intro j54
            induction j54 with
            | zero =>
              intro u hi
              refine a_iload_n hB dX10_layMost_54 rfl ?_
              refine a_bipushN (v := 99) hB dX10_layMost_55 (by decide) ?_
              refine a_icmp_gtN_t (tgt := 119) hB dX10_layMost_57 (by decide) (by omega) (by omega) (by omega) ?_
              refine a_iinc (v := -1) hB dX10_layMost_119 rfl (by decide) (by decide) ?_
              refine a_goto (tgt := 48) hB dX10_layMost_122 (by decide) ?_
              exact aW_at [0, 1] rfl rfl (by rw [show u = 100 by omega, lkm_row]) (ih48 j48 ⟨rfl, by omega⟩)
            | succ j54 ih54 =>
              intro u hi
              refine a_iload_n hB dX10_layMost_54 rfl ?_
              refine a_bipushN (v := 99) hB dX10_layMost_55 (by decide) ?_
              refine a_icmp_gtN_f (tgt := 119) hB dX10_layMost_57 (by decide) (by omega) (by omega) (by omega) ?_
              refine a_iconstN (v := 0) hB dX10_layMost_60 (by decide) ?_
              refine a_istore_n hB dX10_layMost_61 (by decide) ?_
              refine a_iconstN (v := 0) hB dX10_layMost_62 (by decide) ?_
              refine a_istore hB dX10_layMost_63 (by decide) ?_
              have lp65 : ∀ (j65 t : Nat), t + j65 = 6 → aW G sX10_layMost B 65 [(0, .ref (ma 0)), (1, .int (nI j48)), (2, .int (nI u)), (3, .int (nI (mxN (fun l => gt (wq z) j48 l * bm (wq z) (z 0) (z 0 - (j48 + 1)) (u - l)) t))), (4, .int (nI t))] [] (wM G ma z sf st hh sh len tx th wy (lkm (wq z) mo (z 0) (j48 + 1) u) td re lo to rw ha) 0 0 := by
                intro j65
                induction j65 with
                | zero =>
                  intro t hi
                  refine a_iload hB dX10_layMost_65 rfl ?_
                  refine a_bipushN (v := 6) hB dX10_layMost_67 (by decide) ?_
                  refine a_icmp_geN_t (tgt := 101) hB dX10_layMost_69 (by decide) (by omega) (by omega) (by omega) ?_
                  refine a_aload_n hB dX10_layMost_101 rfl ?_
                  refine a_get (T := TX10) (ci := 10) hB dX10_layMost_102 9 fl_X10_30 lay_X10 rfl (by decide) rfl 0 rfl rfl ?_
                  refine a_bipushN (v := 100) hB dX10_layMost_105 (by decide) ?_
                  refine a_iload_n hB dX10_layMost_107 rfl ?_
                  refine a_imulN hB dX10_layMost_108 ?_
                  refine a_iload_n hB dX10_layMost_109 rfl ?_
                  refine a_iaddN hB dX10_layMost_110 ?_
                  refine a_iload_n hB dX10_layMost_111 rfl ?_
                  refine a_iastoreN hB dX10_layMost_112 7 rfl (by omega) (by decide) ?_
                  refine a_iincN (b := 1) hB dX10_layMost_113 rfl (by decide) (by decide) ?_
                  refine a_goto (tgt := 54) hB dX10_layMost_116 (by decide) ?_
                  exact aW_at [0, 1, 2] rfl rfl (by rw [show t = 6 by omega, ← lkm_step (wt := wq z) (m := mo) (parts := z 0) (q := j48) (u := u) (by omega) (by omega) (bm_eq (by omega))]; rfl) (ih54 (u + 1) (by omega))
                | succ j65 ih65 =>
                  intro t hi
                  have b1 : gt (wq z) j48 t * bm (wq z) (z 0) (z 0 - (j48 + 1)) (u - t) ≤ 9 * 531441 := Nat.mul_le_mul (hw _ _ (by omega) (by omega)) (bm_small h6 hw (by omega) _)
                  have b2 : mxN (fun l => gt (wq z) j48 l * bm (wq z) (z 0) (z 0 - (j48 + 1)) (u - l)) t ≤ 9 * 531441 := mxN_leB t (fun l hl => Nat.mul_le_mul (hw _ _ (by omega) (by omega)) (bm_small h6 hw (by omega) _))
                  refine a_iload hB dX10_layMost_65 rfl ?_
                  refine a_bipushN (v := 6) hB dX10_layMost_67 (by decide) ?_
                  refine a_icmp_geN_f (tgt := 101) hB dX10_layMost_69 (by decide) (by omega) (by omega) (by omega) ?_
                  refine a_aload_n hB dX10_layMost_72 rfl ?_
                  refine a_iload_n hB dX10_layMost_73 rfl ?_
                  refine a_iload_n hB dX10_layMost_74 rfl ?_
                  refine a_iload hB dX10_layMost_75 rfl ?_
                  refine a_callVr (q0 := 0) hB (c_X10_mostBy (by omega) (by omega) (by omega)) mk_X10_mostBy ml_X10_89 dX10_layMost_77 rfl rfl [0, 1, 2, 3, 4, 5, 6, 7, 8, 9] rfl (by decide) rfl rfl (fit_of hR (by decide)) (Nat.le_of_ble_eq_true rfl) ?_
                  rw [mby_at (by omega) (by omega)]
                  refine a_istore hB dX10_layMost_80 (by decide) ?_
                  refine a_iload hB dX10_layMost_82 rfl ?_
                  refine a_iload_n hB dX10_layMost_84 rfl ?_
                  refine a_icmp_leN (tgt := 93) hB dX10_layMost_85 (by decide) (Nat.lt_of_le_of_lt b1 (by decide)) (Nat.lt_of_le_of_lt b2 (by decide)) (fun c85 => ?_) (fun c85 => ?_)
                  · refine a_iload_n hB dX10_layMost_93 rfl ?_
                    refine a_istore_n hB dX10_layMost_94 (by decide) ?_
                    refine a_iincN (b := 1) hB dX10_layMost_95 rfl (by decide) (by decide) ?_
                    refine a_goto (tgt := 65) hB dX10_layMost_98 (by decide) ?_
                    first | (have e9 := mxS_l (f := (fun l => gt (wq z) j48 l * bm (wq z) (z 0) (z 0 - (j48 + 1)) (u - l))) (n := t) c85) | (have e9 := mxS_r (f := (fun l => gt (wq z) j48 l * bm (wq z) (z 0) (z 0 - (j48 + 1)) (u - l))) (n := t) c85)
                    exact aW_at [0, 1, 2, 3, 4] (by rw [e9]; rfl) rfl rfl (ih65 (t + 1) (by omega))
                  · refine a_iload hB dX10_layMost_88 rfl ?_
                    refine a_goto (tgt := 94) hB dX10_layMost_90 (by decide) ?_
                    refine a_istore_n hB dX10_layMost_94 (by decide) ?_
                    refine a_iincN (b := 1) hB dX10_layMost_95 rfl (by decide) (by decide) ?_
                    refine a_goto (tgt := 65) hB dX10_layMost_98 (by decide) ?_
                    first | (have e9 := mxS_l (f := (fun l => gt (wq z) j48 l * bm (wq z) (z 0) (z 0 - (j48 + 1)) (u - l))) (n := t) c85) | (have e9 := mxS_r (f := (fun l => gt (wq z) j48 l * bm (wq z) (z 0) (z 0 - (j48 + 1)) (u - l))) (n := t) c85)
                    exact aW_at [0, 1, 2, 3, 4] (by rw [e9]; rfl) rfl rfl (ih65 (t + 1) (by omega))
              exact aW_at [0, 1, 2, 3, 4] rfl rfl rfl (lp65 (6) 0 (by omega))
          exact aW_at [0, 1, 2] rfl rfl rfl (lp54 (100) 0 (by omega))
      exact aW_at [0, 1] (by rw [lim1 (z 0)]; rfl) rfl (by rw [show i = 100 by omega, lkm_row]) (lp48 (z 0) (z 0) ⟨rfl, Nat.le_refl _⟩)
    | succ j2 ih2 =>
      intro i hi
      refine a_iload_n hB dX10_layMost_2 rfl ?_
      refine a_bipushN (v := 99) hB dX10_layMost_3 (by decide) ?_
      refine a_icmp_gtN_f (tgt := 39) hB dX10_layMost_5 (by decide) (by omega) (by omega) (by omega) ?_
      refine a_aload_n hB dX10_layMost_8 rfl ?_
      refine a_get (T := TX10) (ci := 10) hB dX10_layMost_9 9 fl_X10_30 lay_X10 rfl (by decide) rfl 0 rfl rfl ?_
      refine a_bipushN (v := 100) hB dX10_layMost_12 (by decide) ?_
      refine a_aload_n hB dX10_layMost_14 rfl ?_
      refine a_get (T := TX10) (ci := 10) hB dX10_layMost_15 0 fl_X10_7 lay_X10 rfl (by decide) rfl 0 rfl rfl ?_
      refine a_iconstN (v := 0) hB dX10_layMost_18 (by decide) ?_
      refine a_ialoadN hB dX10_layMost_19 1 rfl (by omega) (by decide) ?_
      refine a_imulN hB dX10_layMost_20 ?_
      refine a_iload_n hB dX10_layMost_21 rfl ?_
      refine a_iaddN hB dX10_layMost_22 ?_
      refine a_iload_n hB dX10_layMost_23 rfl ?_
      refine a_if_neN (tgt := 31) hB dX10_layMost_24 (by decide) (by omega) (fun c24 => ?_) (fun c24 => ?_)
      · refine a_iconstN (v := 0) hB dX10_layMost_31 (by decide) ?_
        refine a_iastoreN hB dX10_layMost_32 7 rfl (by omega) (by decide) ?_
        refine a_iincN (b := 1) hB dX10_layMost_33 rfl (by decide) (by decide) ?_
        refine a_goto (tgt := 2) hB dX10_layMost_36 (by decide) ?_
        have e9 := lkm_step (wt := wq z) (m := mo) (u := i) (Nat.le_refl (z 0)) (by omega) (show (if i = 0 then 1 else 0) = bm (wq z) (z 0) (z 0 - z 0) i by rw [Nat.sub_self]; rfl)
        first | rw [if_pos c24] at e9 | rw [if_neg c24] at e9
        exact aW_at [0, 1] rfl rfl (by rw [← e9]; rfl) (ih2 (i + 1) (by omega))
      · refine a_iconstN (v := 1) hB dX10_layMost_27 (by decide) ?_
        refine a_goto (tgt := 32) hB dX10_layMost_28 (by decide) ?_
        refine a_iastoreN hB dX10_layMost_32 7 rfl (by omega) (by decide) ?_
        refine a_iincN (b := 1) hB dX10_layMost_33 rfl (by decide) (by decide) ?_
        refine a_goto (tgt := 2) hB dX10_layMost_36 (by decide) ?_
        have e9 := lkm_step (wt := wq z) (m := mo) (u := i) (Nat.le_refl (z 0)) (by omega) (show (if i = 0 then 1 else 0) = bm (wq z) (z 0) (z 0 - z 0) i by rw [Nat.sub_self]; rfl)
        first | rw [if_pos c24] at e9 | rw [if_neg c24] at e9
        exact aW_at [0, 1] rfl rfl (by rw [← e9]; rfl) (ih2 (i + 1) (by omega))
  exact aW_at [0, 1] rfl rfl (by rw [lkm_0]) (lp2 (100) 0 (by omega))
