def sX7_copyFrom : MS := (yX7_copyFrom, cX7_copyFrom, 3, none, RX7, 0)
def sX7_dropRow : MS := (yX7_dropRow, cX7_dropRow, 4, none, RX7, 1)
def sX7_get : MS := (yX7_get, cX7_get, 4, (some .int), RX7, 0)
def sX7_greatestLoadOf : MS := (yX7_greatestLoadOf, cX7_greatestLoadOf, 3, (some .int), RX7, 1)
def sX7_init : MS := (yX7_init, cX7_init, 1, none, RX7, 1)
def sX7_leastLoadOf : MS := (yX7_leastLoadOf, cX7_leastLoadOf, 3, (some .int), RX7, 1)
def sX7_momentOf : MS := (yX7_momentOf, cX7_momentOf, 4, (some .int), RX7, 1)
def sX7_set : MS := (yX7_set, cX7_set, 4, none, RX7, 0)
def sX7_totalOf : MS := (yX7_totalOf, cX7_totalOf, 4, (some .int), RX7, 1)
/-- a cell of a table; behind the last part 0 -/
def gt (w : Nat → Nat) (p l : Nat) : Nat := if p < 6 then w (p * 6 + l) else 0
def sumN (f : Nat → Nat) : Nat → Nat
  | 0 => 0
  | n + 1 => sumN f n + f n
def tot (w : Nat → Nat) (p : Nat) : Nat := sumN (fun l => gt w p l) 6
def mom (w : Nat → Nat) (p : Nat) : Nat := sumN (fun l => l * gt w p l) 6
def drL (w : Nat → Nat) (row : Nat) : Nat → Nat → Nat
  | 0 => w
  | l + 1 => uN (drL w row l) (row * 6 + l) (gt (drL w row l) (row + 1) l)
def drR (w : Nat → Nat) (part : Nat) : Nat → Nat → Nat
  | 0 => w
  | r + 1 => drL (drR w part r) (part + r) 6
def cpN {α : Type} (w o : Nat → α) : Nat → Nat → α
  | 0 => w
  | i + 1 => uN (cpN w o i) i (o i)
set_option maxHeartbeats 4000000 in
set_option maxRecDepth 100000 in
theorem c_X7_get {G : GP} {t c : Nat} {w : Nat → Nat} {p l : Nat} (hp : p ≤ 6) (hl : l < 6) : AMd G sX7_get [.ref t, .int (nI p), .int (nI l)] (wT G t c w) (some (.int (nI (gt w p l)))) (wT G t c w) := by
  refine AM.of (σ := sX7_get) (by decide +kernel) (by decide +kernel) (Nat.le_of_ble_eq_true rfl) (fun B hB hR hE0 hN => ?_)
  have hE := BE.of hE0
  refine a_iload_n hB dX7_get_0 rfl ?_
  refine a_if_ltN_f (tgt := 24) hB dX7_get_1 (by decide) (by omega) ?_
  refine a_iload_n hB dX7_get_4 rfl ?_
  refine a_bipushN (v := 6) hB dX7_get_5 (by decide) ?_
  refine a_icmp_geN (tgt := 24) hB dX7_get_7 (by decide) (by omega) (by omega) (fun c7 => ?_) (fun c7 => ?_)
  · refine a_iconstN (v := 0) hB dX7_get_24 (by decide) ?_
    refine a_istore_n hB dX7_get_25 (by decide) ?_
    refine a_iload_n hB dX7_get_26 rfl ?_
    refine a_if_eqN_t (tgt := 44) hB dX7_get_27 (by decide) (by omega) (by omega) ?_
    refine a_iconstN (v := 0) hB dX7_get_44 (by decide) ?_
    exact a_iret hB hE rfl dX7_get_45 (Nat.le_of_ble_eq_true rfl) (Nat.le_of_ble_eq_true rfl) (AKeep.of rfl) ⟨by unfold gt; first | rw [if_pos (by omega)] | rw [if_neg (by omega)], rfl⟩
  · refine a_iload_n hB dX7_get_10 rfl ?_
    refine a_if_ltN_f (tgt := 24) hB dX7_get_11 (by decide) (by omega) ?_
    refine a_iload_n hB dX7_get_14 rfl ?_
    refine a_bipushN (v := 6) hB dX7_get_15 (by decide) ?_
    refine a_icmp_geN_f (tgt := 24) hB dX7_get_17 (by decide) (by omega) (by omega) (by omega) ?_
    refine a_iconstN (v := 1) hB dX7_get_20 (by decide) ?_
    refine a_goto (tgt := 25) hB dX7_get_21 (by decide) ?_
    refine a_istore_n hB dX7_get_25 (by decide) ?_
    refine a_iload_n hB dX7_get_26 rfl ?_
    refine a_if_eqN_f (tgt := 44) hB dX7_get_27 (by decide) (by omega) (by omega) ?_
    refine a_aload_n hB dX7_get_30 rfl ?_
    refine a_get (T := TX7) (ci := 7) hB dX7_get_31 0 fl_X7_9 lay_X7 rfl (by decide) rfl 0 rfl rfl ?_
    refine a_iload_n hB dX7_get_34 rfl ?_
    refine a_bipushN (v := 6) hB dX7_get_35 (by decide) ?_
    refine a_imulN hB dX7_get_37 ?_
    refine a_iload_n hB dX7_get_38 rfl ?_
    refine a_iaddN hB dX7_get_39 ?_
    refine a_ialoadN hB dX7_get_40 1 rfl (by omega) (by decide) ?_
    refine a_goto (tgt := 45) hB dX7_get_41 (by decide) ?_
    exact a_iret hB hE rfl dX7_get_45 (Nat.le_of_ble_eq_true rfl) (Nat.le_of_ble_eq_true rfl) (AKeep.of rfl) ⟨by unfold gt; first | rw [if_pos (by omega)] | rw [if_neg (by omega)], rfl⟩
set_option maxHeartbeats 4000000 in
set_option maxRecDepth 100000 in
theorem c_X7_set {G : GP} {t c : Nat} {w : Nat → Nat} {p l v : Nat} (hp : p < 6) (hl : l < 6) : AMd G sX7_set [.ref t, .int (nI p), .int (nI l), .int (nI v)] (wT G t c w) none (wT G t c (uN w (p * 6 + l) v)) := by
  refine AM.of (σ := sX7_set) (by decide +kernel) (by decide +kernel) (Nat.le_of_ble_eq_true rfl) (fun B hB hR hE0 hN => ?_)
  have hE := BE.of hE0
  refine a_iload_n hB dX7_set_0 rfl ?_
  refine a_if_ltN_f (tgt := 32) hB dX7_set_1 (by decide) (by omega) ?_
  refine a_iload_n hB dX7_set_4 rfl ?_
  refine a_bipushN (v := 6) hB dX7_set_5 (by decide) ?_
  refine a_icmp_geN_f (tgt := 32) hB dX7_set_7 (by decide) (by omega) (by omega) (by omega) ?_
  refine a_iload_n hB dX7_set_10 rfl ?_
  refine a_if_ltN_f (tgt := 32) hB dX7_set_11 (by decide) (by omega) ?_
  refine a_iload_n hB dX7_set_14 rfl ?_
  refine a_bipushN (v := 6) hB dX7_set_15 (by decide) ?_
  refine a_icmp_geN_f (tgt := 32) hB dX7_set_17 (by decide) (by omega) (by omega) (by omega) ?_
  refine a_aload_n hB dX7_set_20 rfl ?_
  refine a_get (T := TX7) (ci := 7) hB dX7_set_21 0 fl_X7_9 lay_X7 rfl (by decide) rfl 0 rfl rfl ?_
  refine a_iload_n hB dX7_set_24 rfl ?_
  refine a_bipushN (v := 6) hB dX7_set_25 (by decide) ?_
  refine a_imulN hB dX7_set_27 ?_
  refine a_iload_n hB dX7_set_28 rfl ?_
  refine a_iaddN hB dX7_set_29 ?_
  refine a_iload_n hB dX7_set_30 rfl ?_
  refine a_iastoreN hB dX7_set_31 1 rfl (by omega) (by decide) ?_
  exact a_vret hB hE rfl dX7_set_32 (Nat.le_of_ble_eq_true rfl) (Nat.le_of_ble_eq_true rfl) (AKeep.of rfl) ⟨rfl, rfl⟩
set_option maxHeartbeats 4000000 in
set_option maxRecDepth 100000 in
theorem c_X7_totalOf {G : GP} {t c : Nat} {w : Nat → Nat} {p : Nat} (hp : p ≤ 6) : AMd G sX7_totalOf [.ref t, .int (nI p)] (wT G t c w) (some (.int (nI (tot w p)))) (wT G t c w) := by
  refine AM.of (σ := sX7_totalOf) (by decide +kernel) (by decide +kernel) (Nat.le_of_ble_eq_true rfl) (fun B hB hR hE0 hN => ?_)
  have hE := BE.of hE0
  refine a_iconstN (v := 0) hB dX7_totalOf_0 (by decide) ?_
  refine a_istore_n hB dX7_totalOf_1 (by decide) ?_
  refine a_iconstN (v := 0) hB dX7_totalOf_2 (by decide) ?_
  refine a_istore_n hB dX7_totalOf_3 (by decide) ?_
  have lp4 : ∀ (j i : Nat), i + j = 6 → aW G sX7_totalOf B 4 [(0, .ref t), (1, .int (nI p)), (2, .int (nI (sumN (fun l => gt w p l) i))), (3, .int (nI i))] [] (wT G t c w) 0 0 := by
    intro j
    induction j with
    | zero =>
      intro i hi
      refine a_iload_n hB dX7_totalOf_4 rfl ?_
      refine a_bipushN (v := 6) hB dX7_totalOf_5 (by decide) ?_
      refine a_icmp_geN_t (tgt := 25) hB dX7_totalOf_7 (by decide) (by omega) (by omega) (by omega) ?_
      refine a_iload_n hB dX7_totalOf_25 rfl ?_
      exact a_iret hB hE rfl dX7_totalOf_26 (Nat.le_of_ble_eq_true rfl) (Nat.le_of_ble_eq_true rfl) (AKeep.of rfl) ⟨by rw [show i = 6 by omega]; rfl, rfl⟩
    | succ j ih =>
      intro i hi
      refine a_iload_n hB dX7_totalOf_4 rfl ?_
      refine a_bipushN (v := 6) hB dX7_totalOf_5 (by decide) ?_
      refine a_icmp_geN_f (tgt := 25) hB dX7_totalOf_7 (by decide) (by omega) (by omega) (by omega) ?_
      refine a_iload_n hB dX7_totalOf_10 rfl ?_
      refine a_aload_n hB dX7_totalOf_11 rfl ?_
      refine a_iload_n hB dX7_totalOf_12 rfl ?_
      refine a_iload_n hB dX7_totalOf_13 rfl ?_
      refine a_callVr (q0 := 0) hB (c_X7_get (by omega) (by omega)) mk_X7_get ml_X7_15 dX7_totalOf_14 rfl rfl [0, 1] rfl (by decide) rfl rfl (fit_of hR (by decide)) (Nat.le_of_ble_eq_true rfl) ?_
      refine a_iaddN hB dX7_totalOf_17 ?_
      refine a_istore_n hB dX7_totalOf_18 (by decide) ?_
      refine a_iincN (b := 1) hB dX7_totalOf_19 rfl (by decide) (by decide) ?_
      refine a_goto (tgt := 4) hB dX7_totalOf_22 (by decide) ?_
      exact aW_at [0, 1, 2, 3] rfl rfl rfl (ih (i + 1) (by omega))
  exact aW_at [0, 1, 2, 3] rfl rfl rfl (lp4 6 0 (by omega))
set_option maxHeartbeats 4000000 in
set_option maxRecDepth 100000 in
theorem c_X7_momentOf {G : GP} {t c : Nat} {w : Nat → Nat} {p : Nat} (hp : p ≤ 6) : AMd G sX7_momentOf [.ref t, .int (nI p)] (wT G t c w) (some (.int (nI (mom w p)))) (wT G t c w) := by
  refine AM.of (σ := sX7_momentOf) (by decide +kernel) (by decide +kernel) (Nat.le_of_ble_eq_true rfl) (fun B hB hR hE0 hN => ?_)
  have hE := BE.of hE0
  refine a_iconstN (v := 0) hB dX7_momentOf_0 (by decide) ?_
  refine a_istore_n hB dX7_momentOf_1 (by decide) ?_
  refine a_iconstN (v := 0) hB dX7_momentOf_2 (by decide) ?_
  refine a_istore_n hB dX7_momentOf_3 (by decide) ?_
  have lp4 : ∀ (j i : Nat), i + j = 6 → aW G sX7_momentOf B 4 [(0, .ref t), (1, .int (nI p)), (2, .int (nI (sumN (fun l => l * gt w p l) i))), (3, .int (nI i))] [] (wT G t c w) 0 0 := by
    intro j
    induction j with
    | zero =>
      intro i hi
      refine a_iload_n hB dX7_momentOf_4 rfl ?_
      refine a_bipushN (v := 6) hB dX7_momentOf_5 (by decide) ?_
      refine a_icmp_geN_t (tgt := 27) hB dX7_momentOf_7 (by decide) (by omega) (by omega) (by omega) ?_
      refine a_iload_n hB dX7_momentOf_27 rfl ?_
      exact a_iret hB hE rfl dX7_momentOf_28 (Nat.le_of_ble_eq_true rfl) (Nat.le_of_ble_eq_true rfl) (AKeep.of rfl) ⟨by rw [show i = 6 by omega]; rfl, rfl⟩
    | succ j ih =>
      intro i hi
      refine a_iload_n hB dX7_momentOf_4 rfl ?_
      refine a_bipushN (v := 6) hB dX7_momentOf_5 (by decide) ?_
      refine a_icmp_geN_f (tgt := 27) hB dX7_momentOf_7 (by decide) (by omega) (by omega) (by omega) ?_
      refine a_iload_n hB dX7_momentOf_10 rfl ?_
      refine a_iload_n hB dX7_momentOf_11 rfl ?_
      refine a_aload_n hB dX7_momentOf_12 rfl ?_
      refine a_iload_n hB dX7_momentOf_13 rfl ?_
      refine a_iload_n hB dX7_momentOf_14 rfl ?_
      refine a_callVr (q0 := 0) hB (c_X7_get (by omega) (by omega)) mk_X7_get ml_X7_15 dX7_momentOf_15 rfl rfl [0, 1] rfl (by decide) rfl rfl (fit_of hR (by decide)) (Nat.le_of_ble_eq_true rfl) ?_
      refine a_imulN hB dX7_momentOf_18 ?_
      refine a_iaddN hB dX7_momentOf_19 ?_
      refine a_istore_n hB dX7_momentOf_20 (by decide) ?_
      refine a_iincN (b := 1) hB dX7_momentOf_21 rfl (by decide) (by decide) ?_
      refine a_goto (tgt := 4) hB dX7_momentOf_24 (by decide) ?_
      exact aW_at [0, 1, 2, 3] rfl rfl rfl (ih (i + 1) (by omega))
  exact aW_at [0, 1, 2, 3] rfl rfl rfl (lp4 6 0 (by omega))
