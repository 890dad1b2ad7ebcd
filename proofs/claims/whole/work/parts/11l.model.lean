/-- a part is begun -/
def bgT (td : Nat → Nat) (re : Nat) : Nat → Nat → Nat
  | 0 => td
  | i + 1 => uN (bgT td re i) (6 * re + i) 0
set_option maxHeartbeats 4000000 in
set_option maxRecDepth 100000 in
theorem c_X10_beginPart {G : GP} {ma z : Nat → Nat} {sf : Nat → UInt64} {st : Nat} {hh : Nat → Nat} {sh : Nat → UInt64} {len : Nat} {tx : Nat → Nat} {th : Nat} {wy mo td : Nat → Nat} {re lo to : Nat} {rw : Nat → Nat} {ha : Int64} (hr : re ≤ 31) : AMd G sX10_beginPart [.ref (ma 0)] (wM G ma z sf st hh sh len tx th wy mo td re lo to rw ha) none (wM G ma z sf st hh sh len tx th wy mo (bgT td re 6) re 0 0 rw ha) := by
  refine AM.of (σ := sX10_beginPart) (by decide +kernel) (by decide +kernel) (Nat.le_of_ble_eq_true rfl) (fun B hB hR hE0 hN => ?_)
  have hE := BE.of hE0
  refine a_iconstN (v := 0) hB dX10_beginPart_0 (by decide) ?_
  refine a_istore_n hB dX10_beginPart_1 (by decide) ?_
  have lp2 : ∀ (j2 i : Nat), i + j2 = 6 → aW G sX10_beginPart B 2 [(0, .ref (ma 0)), (1, .int (nI i))] [] (wM G ma z sf st hh sh len tx th wy mo (bgT td re i) re lo to rw ha) 0 0 := by
    intro j2
    induction j2 with
    | zero =>
      intro i hi
      refine a_iload_n hB dX10_beginPart_2 rfl ?_
      refine a_bipushN (v := 6) hB dX10_beginPart_3 (by decide) ?_
      refine a_icmp_geN_t (tgt := 29) hB dX10_beginPart_5 (by decide) (by omega) (by omega) (by omega) ?_
      refine a_aload_n hB dX10_beginPart_29 rfl ?_
      refine a_iconstN (v := 0) hB dX10_beginPart_30 (by decide) ?_
      refine a_put (T := TX10) (ci := 10) hB dX10_beginPart_31 12 fl_X10_132 lay_X10 tyX10 tyX10_ok nmX10 rfl (by decide) rfl rfl 0 rfl rfl rfl rfl (Nat.le_of_ble_eq_true rfl) ?_
      refine a_aload_n hB dX10_beginPart_34 rfl ?_
      refine a_iconstN (v := 0) hB dX10_beginPart_35 (by decide) ?_
      refine a_put (T := TX10) (ci := 10) hB dX10_beginPart_36 13 fl_X10_135 lay_X10 tyX10 tyX10_ok nmX10 rfl (by decide) rfl rfl 0 rfl rfl rfl rfl (Nat.le_of_ble_eq_true rfl) ?_
      exact a_vret hB hE rfl dX10_beginPart_39 (Nat.le_of_ble_eq_true rfl) (Nat.le_of_ble_eq_true rfl) (AKeep.of rfl) ⟨rfl, by rw [show i = 6 by omega]; rfl⟩
    | succ j2 ih2 =>
      intro i hi
      refine a_iload_n hB dX10_beginPart_2 rfl ?_
      refine a_bipushN (v := 6) hB dX10_beginPart_3 (by decide) ?_
      refine a_icmp_geN_f (tgt := 29) hB dX10_beginPart_5 (by decide) (by omega) (by omega) (by omega) ?_
      refine a_aload_n hB dX10_beginPart_8 rfl ?_
      refine a_get (T := TX10) (ci := 10) hB dX10_beginPart_9 10 fl_X10_33 lay_X10 rfl (by decide) rfl 0 rfl rfl ?_
      refine a_bipushN (v := 6) hB dX10_beginPart_12 (by decide) ?_
      refine a_aload_n hB dX10_beginPart_14 rfl ?_
      refine a_get (T := TX10) (ci := 10) hB dX10_beginPart_15 11 fl_X10_129 lay_X10 rfl (by decide) rfl 0 rfl rfl ?_
      refine a_imulN hB dX10_beginPart_18 ?_
      refine a_iload_n hB dX10_beginPart_19 rfl ?_
      refine a_iaddN hB dX10_beginPart_20 ?_
      refine a_iconstN (v := 0) hB dX10_beginPart_21 (by decide) ?_
      refine a_iastoreN hB dX10_beginPart_22 8 rfl (by omega) (by decide) ?_
      refine a_iincN (b := 1) hB dX10_beginPart_23 rfl (by decide) (by decide) ?_
      refine a_goto (tgt := 2) hB dX10_beginPart_26 (by decide) ?_
      exact aW_at [0, 1] rfl rfl rfl (ih2 (i + 1) (by omega))
  exact aW_at [0, 1] rfl rfl rfl (lp2 (6) 0 (by omega))
theorem ex_eq {f : Nat → Nat} {r i : Nat} (h : i = r) : f i = f r := by rw [h]
set_option maxHeartbeats 4000000 in
set_option maxRecDepth 100000 in
theorem c_X10_greatestLoad {G : GP} {ma z : Nat → Nat} {sf : Nat → UInt64} {st : Nat} {hh : Nat → Nat} {sh : Nat → UInt64} {len : Nat} {tx : Nat → Nat} {th : Nat} {wy mo td : Nat → Nat} {re lo to : Nat} {rw : Nat → Nat} {ha : Int64} {p r : Nat} (hp : p < 6) (hr : r < 6) (h1 : 0 < gt (wq z) p r) (h0 : ∀ l, r < l → l < 6 → gt (wq z) p l = 0) (hs : gt (wq z) p r < 2 ^ 31) : AMd G sX10_greatestLoad [.ref (ma 0), .int (nI p)] (wM G ma z sf st hh sh len tx th wy mo td re lo to rw ha) (some (.int (nI r))) (wM G ma z sf st hh sh len tx th wy mo td re lo to rw ha) := by
  refine AM.of (σ := sX10_greatestLoad) (by decide +kernel) (by decide +kernel) (Nat.le_of_ble_eq_true rfl) (fun B hB hR hE0 hN => ?_)
  have hE := BE.of hE0
  refine a_iconstN (v := 5) hB dX10_greatestLoad_0 (by decide) ?_
  refine a_istore_n hB dX10_greatestLoad_1 (by decide) ?_
  have lp2 : ∀ (j2 i : Nat), i = r + j2 ∧ i < 6 → aW G sX10_greatestLoad B 2 [(0, .ref (ma 0)), (1, .int (nI p)), (2, .int (nI i))] [] (wM G ma z sf st hh sh len tx th wy mo td re lo to rw ha) 0 0 := by
    intro j2
    induction j2 with
    | zero =>
      intro i hi
      refine a_aload_n hB dX10_greatestLoad_2 rfl ?_
      refine a_iload_n hB dX10_greatestLoad_3 rfl ?_
      refine a_iload_n hB dX10_greatestLoad_4 rfl ?_
      refine a_callVr (q0 := 0) hB (c_X10_weightOf (by omega) (by omega)) mk_X10_weightOf ml_X10_50 dX10_greatestLoad_5 rfl rfl [0, 1, 2, 3, 4, 5, 6, 7, 8, 9] rfl (by decide) rfl rfl (fit_of hR (by decide)) (Nat.le_of_ble_eq_true rfl) ?_
      refine a_if_neN_t (tgt := 17) hB dX10_greatestLoad_8 (by decide) (by rw [show i = r by omega]; exact hs) (by rw [show i = r by omega]; omega) ?_
      refine a_iload_n hB dX10_greatestLoad_17 rfl ?_
      exact a_iret hB hE rfl dX10_greatestLoad_18 (Nat.le_of_ble_eq_true rfl) (Nat.le_of_ble_eq_true rfl) (AKeep.of rfl) ⟨by rw [show i = r by omega], rfl⟩
    | succ j2 ih2 =>
      intro i hi
      refine a_aload_n hB dX10_greatestLoad_2 rfl ?_
      refine a_iload_n hB dX10_greatestLoad_3 rfl ?_
      refine a_iload_n hB dX10_greatestLoad_4 rfl ?_
      refine a_callVr (q0 := 0) hB (c_X10_weightOf (by omega) (by omega)) mk_X10_weightOf ml_X10_50 dX10_greatestLoad_5 rfl rfl [0, 1, 2, 3, 4, 5, 6, 7, 8, 9] rfl (by decide) rfl rfl (fit_of hR (by decide)) (Nat.le_of_ble_eq_true rfl) ?_
      refine a_if_neN_f (tgt := 17) hB dX10_greatestLoad_8 (by decide) (by rw [h0 i (by omega) (by omega)]; decide) (h0 i (by omega) (by omega)) ?_
      refine a_iincD hB dX10_greatestLoad_11 (congrArg (fun x => some (Value.int (nI x))) (show i = i - 1 + 1 by omega)) (by decide) (by decide) ?_
      refine a_goto (tgt := 2) hB dX10_greatestLoad_14 (by decide) ?_
      exact aW_at [0, 1, 2] rfl rfl rfl (ih2 (i - 1) (by omega))
  exact aW_at [0, 1, 2] rfl rfl rfl (lp2 (5 - r) 5 (by omega))
