/-- the first load of part p with the most ways for the need n -/
def floM (wt : Nat → Nat) (parts p n : Nat) : Nat := fe6 (fun l => gt wt p l * bm wt parts (parts - (p + 1)) (n - l)) (bm wt parts (parts - p) n)
def neeM (wt : Nat → Nat) (parts lim : Nat) : Nat → Nat
  | 0 => lim
  | p + 1 => neeM wt parts lim p - floM wt parts p (neeM wt parts lim p)
def ldM (wt : Nat → Nat) (parts lim : Nat) : Nat → Nat
  | 0 => 0
  | p + 1 => floM wt parts p (neeM wt parts lim p)
theorem neeM_le (wt : Nat → Nat) (parts lim : Nat) : ∀ p, neeM wt parts lim p ≤ lim
  | 0 => Nat.le_refl _
  | p + 1 => Nat.le_trans (Nat.sub_le _ _) (neeM_le wt parts lim p)
theorem floM_spec {wt : Nat → Nat} {parts p n : Nat} (hp : p < parts) : floM wt parts p n < 6 ∧ gt wt p (floM wt parts p n) * bm wt parts (parts - (p + 1)) (n - floM wt parts p n) = bm wt parts (parts - p) n ∧ ∀ l, l < floM wt parts p n → ¬ gt wt p l * bm wt parts (parts - (p + 1)) (n - l) = bm wt parts (parts - p) n := by
  obtain ⟨l, hl, he⟩ := mxN_ex (fun l => gt wt p l * bm wt parts (parts - (p + 1)) (n - l))
  exact fe6_spec ⟨l, hl, he.trans (bm_eq hp)⟩
theorem mby_0 {wt m : Nat → Nat} {parts p n l : Nat} (hp : p < parts) (hn : n < 100) : gt wt p l * lkm wt m parts 0 0 (100 * p + 100 + (n - l)) = gt wt p l * bm wt parts (parts - (p + 1)) (n - l) := by
  rw [show 100 * p + 100 + (n - l) = 100 * (p + 1) + (n - l) by omega, lkm_at (by omega) (Nat.zero_le _) (by omega)]
set_option maxHeartbeats 4000000 in
set_option maxRecDepth 100000 in
theorem c_X10_likeliestLoad_0 {G : GP} {ma z : Nat → Nat} {sf : Nat → UInt64} {st : Nat} {hh : Nat → Nat} {sh : Nat → UInt64} {len : Nat} {tx : Nat → Nat} {th : Nat} {wy mo td : Nat → Nat} {re lo to : Nat} {rw : Nat → Nat} {ha : Int64} {p : Nat} (h6 : z 0 ≤ 6) (hw : ∀ p l, p < 6 → l < 6 → gt (wq z) p l ≤ 9) (hl : z 1 ≤ 99) (h0 : bm (wq z) (z 0) (z 0) (z 1) = 0) : AMd G sX10_likeliestLoad [.ref (ma 0), .int (nI p)] (wM G ma z sf st hh sh len tx th wy mo td re lo to rw ha) (some (.int (-1))) (wM G ma z sf st hh sh len tx th wy (lkm (wq z) mo (z 0) 0 0) td re lo to rw ha) := by
  refine AM.of (σ := sX10_likeliestLoad) (by decide +kernel) (by decide +kernel) (Nat.le_of_ble_eq_true rfl) (fun B hB hR hE0 hN => ?_)
  have hE := BE.of hE0
  refine a_aload_n hB dX10_likeliestLoad_0 rfl ?_
  refine a_callVd (w2 := wM G ma z sf st hh sh len tx th wy (lkm (wq z) mo (z 0) 0 0) td re lo to rw ha) (q0 := 0) hB (c_X10_likeliestWays h6 hw hl) mk_X10_likeliestWays ml_X10_96 dX10_likeliestLoad_1 rfl rfl [0, 1, 2, 3, 4, 5, 6, 7, 8, 9] rfl (by decide) rfl rfl (fit_of hR (by decide)) (Nat.le_of_ble_eq_true rfl) (wput_all rfl rfl) ?_
  refine a_if_neN_f (tgt := 9) hB dX10_likeliestLoad_4 (by decide) (by omega) (by omega) ?_
  refine a_iconst (v := -1) hB dX10_likeliestLoad_7 (by decide) ?_
  exact a_iret hB hE rfl dX10_likeliestLoad_8 (Nat.le_of_ble_eq_true rfl) (Nat.le_of_ble_eq_true rfl) (AKeep.of rfl) ⟨rfl, rfl⟩
set_option maxHeartbeats 4000000 in
set_option maxRecDepth 100000 in
theorem c_X10_likeliestLoad_n {G : GP} {ma z : Nat → Nat} {sf : Nat → UInt64} {st : Nat} {hh : Nat → Nat} {sh : Nat → UInt64} {len : Nat} {tx : Nat → Nat} {th : Nat} {wy mo td : Nat → Nat} {re lo to : Nat} {rw : Nat → Nat} {ha : Int64} {p : Nat} (h6 : z 0 ≤ 6) (hw : ∀ p l, p < 6 → l < 6 → gt (wq z) p l ≤ 9) (hl : z 1 ≤ 99) (hp : p < z 0) (h0 : ¬ bm (wq z) (z 0) (z 0) (z 1) = 0) : AMd G sX10_likeliestLoad [.ref (ma 0), .int (nI p)] (wM G ma z sf st hh sh len tx th wy mo td re lo to rw ha) (some (.int (nI (ldM (wq z) (z 0) (z 1) (p + 1))))) (wM G ma z sf st hh sh len tx th wy (lkm (wq z) mo (z 0) 0 0) td re lo to rw ha) := by
  refine AM.of (σ := sX10_likeliestLoad) (by decide +kernel) (by decide +kernel) (Nat.le_of_ble_eq_true rfl) (fun B hB hR hE0 hN => ?_)
  have hE := BE.of hE0
  refine a_aload_n hB dX10_likeliestLoad_0 rfl ?_
  refine a_callVd (w2 := wM G ma z sf st hh sh len tx th wy (lkm (wq z) mo (z 0) 0 0) td re lo to rw ha) (q0 := 0) hB (c_X10_likeliestWays h6 hw hl) mk_X10_likeliestWays ml_X10_96 dX10_likeliestLoad_1 rfl rfl [0, 1, 2, 3, 4, 5, 6, 7, 8, 9] rfl (by decide) rfl rfl (fit_of hR (by decide)) (Nat.le_of_ble_eq_true rfl) (wput_all rfl rfl) ?_
  refine a_if_neN_t (tgt := 9) hB dX10_likeliestLoad_4 (by decide) (Nat.lt_of_le_of_lt (bm_small h6 hw h6 _) (by decide)) h0 ?_
  refine a_aload_n hB dX10_likeliestLoad_9 rfl ?_
  refine a_get (T := TX10) (ci := 10) hB dX10_likeliestLoad_10 0 fl_X10_7 lay_X10 rfl (by decide) rfl 0 rfl rfl ?_
  refine a_iconstN (v := 1) hB dX10_likeliestLoad_13 (by decide) ?_
  refine a_ialoadN hB dX10_likeliestLoad_14 1 rfl (by omega) (by decide) ?_
  refine a_istore_n hB dX10_likeliestLoad_15 (by decide) ?_
  refine a_iconstN (v := 0) hB dX10_likeliestLoad_16 (by decide) ?_
  refine a_istore_n hB dX10_likeliestLoad_17 (by decide) ?_
  refine a_iconstN (v := 0) hB dX10_likeliestLoad_18 (by decide) ?_
  refine a_istore hB dX10_likeliestLoad_19 (by decide) ?_
  have lp21 : ∀ (j21 i : Nat), i + j21 = p + 1 → aW G sX10_likeliestLoad B 21 [(0, .ref (ma 0)), (1, .int (nI p)), (2, .int (nI (neeM (wq z) (z 0) (z 1) i))), (3, .int (nI (ldM (wq z) (z 0) (z 1) i))), (4, .int (nI i))] [] (wM G ma z sf st hh sh len tx th wy (lkm (wq z) mo (z 0) 0 0) td re lo to rw ha) 0 0 := by
    intro j21
    induction j21 with
    | zero =>
      intro i hi
      refine a_iload hB dX10_likeliestLoad_21 rfl ?_
      refine a_iload_n hB dX10_likeliestLoad_23 rfl ?_
      refine a_icmp_gtN_t (tgt := 77) hB dX10_likeliestLoad_24 (by decide) (by omega) (by omega) (by omega) ?_
      refine a_iload_n hB dX10_likeliestLoad_77 rfl ?_
      exact a_iret hB hE rfl dX10_likeliestLoad_78 (Nat.le_of_ble_eq_true rfl) (Nat.le_of_ble_eq_true rfl) (AKeep.of rfl) ⟨by rw [show i = p + 1 by omega], rfl⟩
    | succ j21 ih21 =>
      intro i hi
      have sp := floM_spec (wt := wq z) (parts := z 0) (p := i) (n := (neeM (wq z) (z 0) (z 1) i)) (by omega)
      have hn9 := neeM_le (wq z) (z 0) (z 1) i
      refine a_iload hB dX10_likeliestLoad_21 rfl ?_
      refine a_iload_n hB dX10_likeliestLoad_23 rfl ?_
      refine a_icmp_gtN_f (tgt := 77) hB dX10_likeliestLoad_24 (by decide) (by omega) (by omega) (by omega) ?_
      refine a_iconstN (v := 0) hB dX10_likeliestLoad_27 (by decide) ?_
      refine a_istore_n hB dX10_likeliestLoad_28 (by decide) ?_
      have lp29 : ∀ (j29 u : Nat), u + j29 = (floM (wq z) (z 0) i (neeM (wq z) (z 0) (z 1) i)) → aW G sX10_likeliestLoad B 29 [(0, .ref (ma 0)), (1, .int (nI p)), (2, .int (nI (neeM (wq z) (z 0) (z 1) i))), (3, .int (nI u)), (4, .int (nI i))] [] (wM G ma z sf st hh sh len tx th wy (lkm (wq z) mo (z 0) 0 0) td re lo to rw ha) 0 0 := by
        intro j29
        induction j29 with
        | zero =>
          intro u hi
          have b1 : gt (wq z) i u * bm (wq z) (z 0) (z 0 - (i + 1)) ((neeM (wq z) (z 0) (z 1) i) - u) ≤ 9 * 531441 := Nat.mul_le_mul (hw _ _ (by omega) (by omega)) (bm_small h6 hw (by omega) _)
          have b2 : bm (wq z) (z 0) (z 0 - i) (neeM (wq z) (z 0) (z 1) i) ≤ 531441 := bm_small h6 hw (by omega) _
          refine a_aload_n hB dX10_likeliestLoad_29 rfl ?_
          refine a_iload hB dX10_likeliestLoad_30 rfl ?_
          refine a_iload_n hB dX10_likeliestLoad_32 rfl ?_
          refine a_iload_n hB dX10_likeliestLoad_33 rfl ?_
          refine a_callVr (q0 := 0) hB (c_X10_mostBy (mo := (lkm (wq z) mo (z 0) 0 0)) (by omega) (by omega) (by omega)) mk_X10_mostBy ml_X10_89 dX10_likeliestLoad_34 rfl rfl [0, 1, 2, 3, 4, 5, 6, 7, 8, 9] rfl (by decide) rfl rfl (fit_of hR (by decide)) (Nat.le_of_ble_eq_true rfl) ?_
          rw [mby_0 (by omega) (by omega)]
          refine a_aload_n hB dX10_likeliestLoad_37 rfl ?_
          refine a_get (T := TX10) (ci := 10) hB dX10_likeliestLoad_38 9 fl_X10_30 lay_X10 rfl (by decide) rfl 0 rfl rfl ?_
          refine a_bipushN (v := 100) hB dX10_likeliestLoad_41 (by decide) ?_
          refine a_iload hB dX10_likeliestLoad_43 rfl ?_
          refine a_imulN hB dX10_likeliestLoad_45 ?_
          refine a_iload_n hB dX10_likeliestLoad_46 rfl ?_
          refine a_iaddN hB dX10_likeliestLoad_47 ?_
          refine a_ialoadN hB dX10_likeliestLoad_48 7 rfl (by omega) (by decide) ?_
          rw [show lkm (wq z) mo (z 0) 0 0 (100 * i + (neeM (wq z) (z 0) (z 1) i)) = bm (wq z) (z 0) (z 0 - i) (neeM (wq z) (z 0) (z 1) i) from lkm_at (by omega) (Nat.zero_le _) (by omega)]
          refine a_icmp_eqN_t (tgt := 58) hB dX10_likeliestLoad_49 (by decide) (Nat.lt_of_le_of_lt b1 (by decide)) (Nat.lt_of_le_of_lt b2 (by decide)) (by rw [show u = (floM (wq z) (z 0) i (neeM (wq z) (z 0) (z 1) i)) by omega]; exact sp.2.1) ?_
          refine a_iload_n hB dX10_likeliestLoad_58 rfl ?_
          refine a_iload_n hB dX10_likeliestLoad_59 rfl ?_
          refine a_icmp_leN (tgt := 69) hB dX10_likeliestLoad_60 (by decide) (by omega) (by omega) (fun c60 => ?_) (fun c60 => ?_)
          · refine a_iconstN (v := 0) hB dX10_likeliestLoad_69 (by decide) ?_
            refine a_istore_n hB dX10_likeliestLoad_70 (by decide) ?_
            refine a_iincN (b := 1) hB dX10_likeliestLoad_71 rfl (by decide) (by decide) ?_
            refine a_goto (tgt := 21) hB dX10_likeliestLoad_74 (by decide) ?_
            exact aW_at [0, 1, 2, 3, 4] (by first | (rw [show u = (floM (wq z) (z 0) i (neeM (wq z) (z 0) (z 1) i)) by omega]; rfl) | (rw [show neeM (wq z) (z 0) (z 1) (i + 1) = 0 by (show (neeM (wq z) (z 0) (z 1) i) - (floM (wq z) (z 0) i (neeM (wq z) (z 0) (z 1) i)) = 0; omega), show u = (floM (wq z) (z 0) i (neeM (wq z) (z 0) (z 1) i)) by omega]; rfl)) rfl rfl (ih21 (i + 1) (by omega))
          · refine a_iload_n hB dX10_likeliestLoad_63 rfl ?_
            refine a_iload_n hB dX10_likeliestLoad_64 rfl ?_
            refine a_isubN hB dX10_likeliestLoad_65 (by omega) ?_
            refine a_goto (tgt := 70) hB dX10_likeliestLoad_66 (by decide) ?_
            refine a_istore_n hB dX10_likeliestLoad_70 (by decide) ?_
            refine a_iincN (b := 1) hB dX10_likeliestLoad_71 rfl (by decide) (by decide) ?_
            refine a_goto (tgt := 21) hB dX10_likeliestLoad_74 (by decide) ?_
            exact aW_at [0, 1, 2, 3, 4] (by first | (rw [show u = (floM (wq z) (z 0) i (neeM (wq z) (z 0) (z 1) i)) by omega]; rfl) | (rw [show neeM (wq z) (z 0) (z 1) (i + 1) = 0 by (show (neeM (wq z) (z 0) (z 1) i) - (floM (wq z) (z 0) i (neeM (wq z) (z 0) (z 1) i)) = 0; omega), show u = (floM (wq z) (z 0) i (neeM (wq z) (z 0) (z 1) i)) by omega]; rfl)) rfl rfl (ih21 (i + 1) (by omega))
        | succ j29 ih29 =>
          intro u hi
          have b1 : gt (wq z) i u * bm (wq z) (z 0) (z 0 - (i + 1)) ((neeM (wq z) (z 0) (z 1) i) - u) ≤ 9 * 531441 := Nat.mul_le_mul (hw _ _ (by omega) (by omega)) (bm_small h6 hw (by omega) _)
          have b2 : bm (wq z) (z 0) (z 0 - i) (neeM (wq z) (z 0) (z 1) i) ≤ 531441 := bm_small h6 hw (by omega) _
          refine a_aload_n hB dX10_likeliestLoad_29 rfl ?_
          refine a_iload hB dX10_likeliestLoad_30 rfl ?_
          refine a_iload_n hB dX10_likeliestLoad_32 rfl ?_
          refine a_iload_n hB dX10_likeliestLoad_33 rfl ?_
          refine a_callVr (q0 := 0) hB (c_X10_mostBy (mo := (lkm (wq z) mo (z 0) 0 0)) (by omega) (by omega) (by omega)) mk_X10_mostBy ml_X10_89 dX10_likeliestLoad_34 rfl rfl [0, 1, 2, 3, 4, 5, 6, 7, 8, 9] rfl (by decide) rfl rfl (fit_of hR (by decide)) (Nat.le_of_ble_eq_true rfl) ?_
          rw [mby_0 (by omega) (by omega)]
          refine a_aload_n hB dX10_likeliestLoad_37 rfl ?_
          refine a_get (T := TX10) (ci := 10) hB dX10_likeliestLoad_38 9 fl_X10_30 lay_X10 rfl (by decide) rfl 0 rfl rfl ?_
          refine a_bipushN (v := 100) hB dX10_likeliestLoad_41 (by decide) ?_
          refine a_iload hB dX10_likeliestLoad_43 rfl ?_
          refine a_imulN hB dX10_likeliestLoad_45 ?_
          refine a_iload_n hB dX10_likeliestLoad_46 rfl ?_
          refine a_iaddN hB dX10_likeliestLoad_47 ?_
          refine a_ialoadN hB dX10_likeliestLoad_48 7 rfl (by omega) (by decide) ?_
          rw [show lkm (wq z) mo (z 0) 0 0 (100 * i + (neeM (wq z) (z 0) (z 1) i)) = bm (wq z) (z 0) (z 0 - i) (neeM (wq z) (z 0) (z 1) i) from lkm_at (by omega) (Nat.zero_le _) (by omega)]
          refine a_icmp_eqN_f (tgt := 58) hB dX10_likeliestLoad_49 (by decide) (Nat.lt_of_le_of_lt b1 (by decide)) (Nat.lt_of_le_of_lt b2 (by decide)) (sp.2.2 u (by omega)) ?_
          refine a_iincN (b := 1) hB dX10_likeliestLoad_52 rfl (by decide) (by decide) ?_
          refine a_goto (tgt := 29) hB dX10_likeliestLoad_55 (by decide) ?_
          exact aW_at [0, 1, 2, 3, 4] rfl rfl rfl (ih29 (u + 1) (by omega))
      exact aW_at [0, 1, 2, 3, 4] rfl rfl rfl (lp29 ((floM (wq z) (z 0) i (neeM (wq z) (z 0) (z 1) i))) 0 (by omega))
  exact aW_at [0, 1, 2, 3, 4] rfl rfl rfl (lp21 (p + 1) 0 (by omega))
