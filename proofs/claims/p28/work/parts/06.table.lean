def sX7_copyFrom : MS := (yX7_copyFrom, cX7_copyFrom, 3, none, RX7, 0)
def sX7_dropRow : MS := (yX7_dropRow, cX7_dropRow, 4, none, RX7, 1)
def sX7_get : MS := (yX7_get, cX7_get, 4, (some .int), RX7, 0)
def sX7_greatestLoadOf : MS := (yX7_greatestLoadOf, cX7_greatestLoadOf, 3, (some .int), RX7, 1)
def sX7_init : MS := (yX7_init, cX7_init, 1, none, RX7, 1)
def sX7_leastLoadOf : MS := (yX7_leastLoadOf, cX7_leastLoadOf, 3, (some .int), RX7, 1)
def sX7_momentOf : MS := (yX7_momentOf, cX7_momentOf, 4, (some .int), RX7, 1)
def sX7_set : MS := (yX7_set, cX7_set, 4, none, RX7, 0)
def sX7_totalOf : MS := (yX7_totalOf, cX7_totalOf, 4, (some .int), RX7, 1)
/-- a cell of a table; behind the last part 0 -/
def gt (w : Nat → Nat) (p l : Nat) : Nat := if p < 6 then w (p * 6 + l) else 0
def sumN (f : Nat → Nat) : Nat → Nat
  | 0 => 0
  | n + 1 => sumN f n + f n
def tot (w : Nat → Nat) (p : Nat) : Nat := sumN (fun l => gt w p l) 6
def mom (w : Nat → Nat) (p : Nat) : Nat := sumN (fun l => l * gt w p l) 6
def drL (w : Nat → Nat) (row : Nat) : Nat → Nat → Nat
  | 0 => w
  | l + 1 => uN (drL w row l) (row * 6 + l) (gt (drL w row l) (row + 1) l)
def drR (w : Nat → Nat) (part : Nat) : Nat → Nat → Nat
  | 0 => w
  | r + 1 => drL (drR w part r) (part + r) 6
def cpN {α : Type} (w o : Nat → α) : Nat → Nat → α
  | 0 => w
  | i + 1 => uN (cpN w o i) i (o i)
set_option maxHeartbeats 4000000 in
set_option maxRecDepth 100000 in
theorem c_X7_get {G : GP} {t c : Nat} {w : Nat → Nat} {p l : Nat} (hp : p ≤ 6) (hl : l < 6) : AMd G sX7_get [.ref t, .int (nI p), .int (nI l)] (wT G t c w) (some (.int (nI (gt w p l)))) (wT G t c w) := by
  refine AM.of (σ := sX7_get) (by decide +kernel) (by decide +kernel) (Nat.le_of_ble_eq_true rfl) (fun B hB hR hE0 hN => ?_)
  have hE := BE.of hE0
  refine a_iload_n hB dX7_get_0 rfl ?_
  refine a_if_ltN_f (tgt := 24) hB dX7_get_1 (by decide) (by omega) ?_
  refine a_iload_n hB dX7_get_4 rfl ?_
  refine a_bipushN (v := 6) hB dX7_get_5 (by decide) ?_
  refine a_icmp_geN (tgt := 24) hB dX7_get_7 (by decide) (by omega) (by omega) (fun c7 => ?_) (fun c7 => ?_)
  · refine a_iconstN (v := 0) hB dX7_get_24 (by decide) ?_
    refine a_istore_n hB dX7_get_25 (by decide) ?_
    refine a_iload_n hB dX7_get_26 rfl ?_
    refine a_if_eqN_t (tgt := 44) hB dX7_get_27 (by decide) (by omega) (by omega) ?_
    refine a_iconstN (v := 0) hB dX7_get_44 (by decide) ?_
    exact a_iret hB hE rfl dX7_get_45 (Nat.le_of_ble_eq_true rfl) (Nat.le_of_ble_eq_true rfl) (AKeep.of rfl) ⟨by unfold gt; first | rw [if_pos (by omega)] | rw [if_neg (by omega)], rfl⟩
  · refine a_iload_n hB dX7_get_10 rfl ?_
    refine a_if_ltN_f (tgt := 24) hB dX7_get_11 (by decide) (by omega) ?_
    refine a_iload_n hB dX7_get_14 rfl ?_
    refine a_bipushN (v := 6) hB dX7_get_15 (by decide) ?_
    refine a_icmp_geN_f (tgt := 24) hB dX7_get_17 (by decide) (by omega) (by omega) (by omega) ?_
    refine a_iconstN (v := 1) hB dX7_get_20 (by decide) ?_
    refine a_goto (tgt := 25) hB dX7_get_21 (by decide) ?_
    refine a_istore_n hB dX7_get_25 (by decide) ?_
    refine a_iload_n hB dX7_get_26 rfl ?_
    refine a_if_eqN_f (tgt := 44) hB dX7_get_27 (by decide) (by omega) (by omega) ?_
    refine a_aload_n hB dX7_get_30 rfl ?_
    refine a_get (T := TX7) (ci := 7) hB dX7_get_31 0 fl_X7_9 lay_X7 rfl (by decide) rfl 0 rfl rfl ?_
    refine a_iload_n hB dX7_get_34 rfl ?_
    refine a_bipushN (v := 6) hB dX7_get_35 (by decide) ?_
    refine a_imulN hB dX7_get_37 ?_
    refine a_iload_n hB dX7_get_38 rfl ?_
    refine a_iaddN hB dX7_get_39 ?_
    refine a_ialoadN hB dX7_get_40 1 rfl (by omega) (by decide) ?_
    refine a_goto (tgt := 45) hB dX7_get_41 (by decide) ?_
    exact a_iret hB hE rfl dX7_get_45 (Nat.le_of_ble_eq_true rfl) (Nat.le_of_ble_eq_true rfl) (AKeep.of rfl) ⟨by unfold gt; first | rw [if_pos (by omega)] | rw [if_neg (by omega)], rfl⟩
set_option maxHeartbeats 4000000 in
set_option maxRecDepth 100000 in
theorem c_X7_set {G : GP} {t c : Nat} {w : Nat → Nat} {p l v : Nat} (hp : p < 6) (hl : l < 6) : AMd G sX7_set [.ref t, .int (nI p), .int (nI l), .int (nI v)] (wT G t c w) none (wT G t c (uN w (p * 6 + l) v)) := by
  refine AM.of (σ := sX7_set) (by decide +kernel) (by decide +kernel) (Nat.le_of_ble_eq_true rfl) (fun B hB hR hE0 hN => ?_)
  have hE := BE.of hE0
  refine a_iload_n hB dX7_set_0 rfl ?_
  refine a_if_ltN_f (tgt := 32) hB dX7_set_1 (by decide) (by omega) ?_
  refine a_iload_n hB dX7_set_4 rfl ?_
  refine a_bipushN (v := 6) hB dX7_set_5 (by decide) ?_
  refine a_icmp_geN_f (tgt := 32) hB dX7_set_7 (by decide) (by omega) (by omega) (by omega) ?_
  refine a_iload_n hB dX7_set_10 rfl ?_
  refine a_if_ltN_f (tgt := 32) hB dX7_set_11 (by decide) (by omega) ?_
  refine a_iload_n hB dX7_set_14 rfl ?_
  refine a_bipushN (v := 6) hB dX7_set_15 (by decide) ?_
  refine a_icmp_geN_f (tgt := 32) hB dX7_set_17 (by decide) (by omega) (by omega) (by omega) ?_
  refine a_aload_n hB dX7_set_20 rfl ?_
  refine a_get (T := TX7) (ci := 7) hB dX7_set_21 0 fl_X7_9 lay_X7 rfl (by decide) rfl 0 rfl rfl ?_
  refine a_iload_n hB dX7_set_24 rfl ?_
  refine a_bipushN (v := 6) hB dX7_set_25 (by decide) ?_
  refine a_imulN hB dX7_set_27 ?_
  refine a_iload_n hB dX7_set_28 rfl ?_
  refine a_iaddN hB dX7_set_29 ?_
  refine a_iload_n hB dX7_set_30 rfl ?_
  refine a_iastoreN hB dX7_set_31 1 rfl (by omega) (by decide) ?_
  exact a_vret hB hE rfl dX7_set_32 (Nat.le_of_ble_eq_true rfl) (Nat.le_of_ble_eq_true rfl) (AKeep.of rfl) ⟨rfl, rfl⟩
set_option maxHeartbeats 4000000 in
set_option maxRecDepth 100000 in
theorem c_X7_totalOf {G : GP} {t c : Nat} {w : Nat → Nat} {p : Nat} (hp : p ≤ 6) : AMd G sX7_totalOf [.ref t, .int (nI p)] (wT G t c w) (some (.int (nI (tot w p)))) (wT G t c w) := by
  refine AM.of (σ := sX7_totalOf) (by decide +kernel) (by decide +kernel) (Nat.le_of_ble_eq_true rfl) (fun B hB hR hE0 hN => ?_)
  have hE := BE.of hE0
  refine a_iconstN (v := 0) hB dX7_totalOf_0 (by decide) ?_
  refine a_istore_n hB dX7_totalOf_1 (by decide) ?_
  refine a_iconstN (v := 0) hB dX7_totalOf_2 (by decide) ?_
  refine a_istore_n hB dX7_totalOf_3 (by decide) ?_
  have lp4 : ∀ (j4 i : Nat), i + j4 = 6 → aW G sX7_totalOf B 4 [(0, .ref t), (1, .int (nI p)), (2, .int (nI (sumN (fun l => gt w p l) i))), (3, .int (nI i))] [] (wT G t c w) 0 0 := by
    intro j4
    induction j4 with
    | zero =>
      intro i hi
      refine a_iload_n hB dX7_totalOf_4 rfl ?_
      refine a_bipushN (v := 6) hB dX7_totalOf_5 (by decide) ?_
      refine a_icmp_geN_t (tgt := 25) hB dX7_totalOf_7 (by decide) (by omega) (by omega) (by omega) ?_
      refine a_iload_n hB dX7_totalOf_25 rfl ?_
      exact a_iret hB hE rfl dX7_totalOf_26 (Nat.le_of_ble_eq_true rfl) (Nat.le_of_ble_eq_true rfl) (AKeep.of rfl) ⟨by rw [show i = 6 by omega]; rfl, rfl⟩
    | succ j4 ih4 =>
      intro i hi
      refine a_iload_n hB dX7_totalOf_4 rfl ?_
      refine a_bipushN (v := 6) hB dX7_totalOf_5 (by decide) ?_
      refine a_icmp_geN_f (tgt := 25) hB dX7_totalOf_7 (by decide) (by omega) (by omega) (by omega) ?_
      refine a_iload_n hB dX7_totalOf_10 rfl ?_
      refine a_aload_n hB dX7_totalOf_11 rfl ?_
      refine a_iload_n hB dX7_totalOf_12 rfl ?_
      refine a_iload_n hB dX7_totalOf_13 rfl ?_
      refine a_callVr (q0 := 0) hB (c_X7_get (by omega) (by omega)) mk_X7_get ml_X7_15 dX7_totalOf_14 rfl rfl [0, 1] rfl (by decide) rfl rfl (fit_of hR (by decide)) (Nat.le_of_ble_eq_true rfl) ?_
      refine a_iaddN hB dX7_totalOf_17 ?_
      refine a_istore_n hB dX7_totalOf_18 (by decide) ?_
      refine a_iincN (b := 1) hB dX7_totalOf_19 rfl (by decide) (by decide) ?_
      refine a_goto (tgt := 4) hB dX7_totalOf_22 (by decide) ?_
      exact aW_at [0, 1, 2, 3] rfl rfl rfl (ih4 (i + 1) (by omega))
  exact aW_at [0, 1, 2, 3] rfl rfl rfl (lp4 (6) 0 (by omega))
set_option maxHeartbeats 4000000 in
set_option maxRecDepth 100000 in
theorem c_X7_momentOf {G : GP} {t c : Nat} {w : Nat → Nat} {p : Nat} (hp : p ≤ 6) : AMd G sX7_momentOf [.ref t, .int (nI p)] (wT G t c w) (some (.int (nI (mom w p)))) (wT G t c w) := by
  refine AM.of (σ := sX7_momentOf) (by decide +kernel) (by decide +kernel) (Nat.le_of_ble_eq_true rfl) (fun B hB hR hE0 hN => ?_)
  have hE := BE.of hE0
  refine a_iconstN (v := 0) hB dX7_momentOf_0 (by decide) ?_
  refine a_istore_n hB dX7_momentOf_1 (by decide) ?_
  refine a_iconstN (v := 0) hB dX7_momentOf_2 (by decide) ?_
  refine a_istore_n hB dX7_momentOf_3 (by decide) ?_
  have lp4 : ∀ (j4 i : Nat), i + j4 = 6 → aW G sX7_momentOf B 4 [(0, .ref t), (1, .int (nI p)), (2, .int (nI (sumN (fun l => l * gt w p l) i))), (3, .int (nI i))] [] (wT G t c w) 0 0 := by
    intro j4
    induction j4 with
    | zero =>
      intro i hi
      refine a_iload_n hB dX7_momentOf_4 rfl ?_
      refine a_bipushN (v := 6) hB dX7_momentOf_5 (by decide) ?_
      refine a_icmp_geN_t (tgt := 27) hB dX7_momentOf_7 (by decide) (by omega) (by omega) (by omega) ?_
      refine a_iload_n hB dX7_momentOf_27 rfl ?_
      exact a_iret hB hE rfl dX7_momentOf_28 (Nat.le_of_ble_eq_true rfl) (Nat.le_of_ble_eq_true rfl) (AKeep.of rfl) ⟨by rw [show i = 6 by omega]; rfl, rfl⟩
    | succ j4 ih4 =>
      intro i hi
      refine a_iload_n hB dX7_momentOf_4 rfl ?_
      refine a_bipushN (v := 6) hB dX7_momentOf_5 (by decide) ?_
      refine a_icmp_geN_f (tgt := 27) hB dX7_momentOf_7 (by decide) (by omega) (by omega) (by omega) ?_
      refine a_iload_n hB dX7_momentOf_10 rfl ?_
      refine a_iload_n hB dX7_momentOf_11 rfl ?_
      refine a_aload_n hB dX7_momentOf_12 rfl ?_
      refine a_iload_n hB dX7_momentOf_13 rfl ?_
      refine a_iload_n hB dX7_momentOf_14 rfl ?_
      refine a_callVr (q0 := 0) hB (c_X7_get (by omega) (by omega)) mk_X7_get ml_X7_15 dX7_momentOf_15 rfl rfl [0, 1] rfl (by decide) rfl rfl (fit_of hR (by decide)) (Nat.le_of_ble_eq_true rfl) ?_
      refine a_imulN hB dX7_momentOf_18 ?_
      refine a_iaddN hB dX7_momentOf_19 ?_
      refine a_istore_n hB dX7_momentOf_20 (by decide) ?_
      refine a_iincN (b := 1) hB dX7_momentOf_21 rfl (by decide) (by decide) ?_
      refine a_goto (tgt := 4) hB dX7_momentOf_24 (by decide) ?_
      exact aW_at [0, 1, 2, 3] rfl rfl rfl (ih4 (i + 1) (by omega))
  exact aW_at [0, 1, 2, 3] rfl rfl rfl (lp4 (6) 0 (by omega))
set_option maxHeartbeats 4000000 in
set_option maxRecDepth 100000 in
theorem c_X7_leastLoadOf {G : GP} {t c : Nat} {w : Nat → Nat} {p r : Nat} (hp : p ≤ 6) (hr : r < 6) (h1 : 0 < gt w p r) (h0 : ∀ l, l < r → gt w p l = 0) (hs : gt w p r < 2 ^ 31) : AMd G sX7_leastLoadOf [.ref t, .int (nI p)] (wT G t c w) (some (.int (nI r))) (wT G t c w) := by
  refine AM.of (σ := sX7_leastLoadOf) (by decide +kernel) (by decide +kernel) (Nat.le_of_ble_eq_true rfl) (fun B hB hR hE0 hN => ?_)
  have hE := BE.of hE0
  refine a_iconstN (v := 0) hB dX7_leastLoadOf_0 (by decide) ?_
  refine a_istore_n hB dX7_leastLoadOf_1 (by decide) ?_
  have lp2 : ∀ (j2 i : Nat), i + j2 = r → aW G sX7_leastLoadOf B 2 [(0, .ref t), (1, .int (nI p)), (2, .int (nI i))] [] (wT G t c w) 0 0 := by
    intro j2
    induction j2 with
    | zero =>
      intro i hi
      refine a_iload_n hB dX7_leastLoadOf_2 rfl ?_
      refine a_bipushN (v := 6) hB dX7_leastLoadOf_3 (by decide) ?_
      refine a_icmp_geN_f (tgt := 25) hB dX7_leastLoadOf_5 (by decide) (by omega) (by omega) (by omega) ?_
      refine a_aload_n hB dX7_leastLoadOf_8 rfl ?_
      refine a_iload_n hB dX7_leastLoadOf_9 rfl ?_
      refine a_iload_n hB dX7_leastLoadOf_10 rfl ?_
      refine a_callVr (q0 := 0) hB (c_X7_get (by omega) (by omega)) mk_X7_get ml_X7_15 dX7_leastLoadOf_11 rfl rfl [0, 1] rfl (by decide) rfl rfl (fit_of hR (by decide)) (Nat.le_of_ble_eq_true rfl) ?_
      refine a_if_leN_f (tgt := 19) hB dX7_leastLoadOf_14 (by decide) (by rw [show i = r by omega]; exact hs) (by rw [show i = r by omega]; exact Nat.ne_of_gt h1) ?_
      refine a_iload_n hB dX7_leastLoadOf_17 rfl ?_
      exact a_iret hB hE rfl dX7_leastLoadOf_18 (Nat.le_of_ble_eq_true rfl) (Nat.le_of_ble_eq_true rfl) (AKeep.of rfl) ⟨by rw [show i = r by omega], rfl⟩
    | succ j2 ih2 =>
      intro i hi
      refine a_iload_n hB dX7_leastLoadOf_2 rfl ?_
      refine a_bipushN (v := 6) hB dX7_leastLoadOf_3 (by decide) ?_
      refine a_icmp_geN_f (tgt := 25) hB dX7_leastLoadOf_5 (by decide) (by omega) (by omega) (by omega) ?_
      refine a_aload_n hB dX7_leastLoadOf_8 rfl ?_
      refine a_iload_n hB dX7_leastLoadOf_9 rfl ?_
      refine a_iload_n hB dX7_leastLoadOf_10 rfl ?_
      refine a_callVr (q0 := 0) hB (c_X7_get (by omega) (by omega)) mk_X7_get ml_X7_15 dX7_leastLoadOf_11 rfl rfl [0, 1] rfl (by decide) rfl rfl (fit_of hR (by decide)) (Nat.le_of_ble_eq_true rfl) ?_
      refine a_if_leN_t (tgt := 19) hB dX7_leastLoadOf_14 (by decide) (by rw [h0 i (by omega)]; decide) (h0 i (by omega)) ?_
      refine a_iincN (b := 1) hB dX7_leastLoadOf_19 rfl (by decide) (by decide) ?_
      refine a_goto (tgt := 2) hB dX7_leastLoadOf_22 (by decide) ?_
      exact aW_at [0, 1, 2] rfl rfl rfl (ih2 (i + 1) (by omega))
  exact aW_at [0, 1, 2] rfl rfl rfl (lp2 (r) 0 (by omega))
set_option maxHeartbeats 4000000 in
set_option maxRecDepth 100000 in
theorem c_X7_greatestLoadOf {G : GP} {t c : Nat} {w : Nat → Nat} {p r : Nat} (hp : p ≤ 6) (hr : r < 6) (h1 : 0 < gt w p r) (h0 : ∀ l, r < l → l < 6 → gt w p l = 0) (hs : gt w p r < 2 ^ 31) : AMd G sX7_greatestLoadOf [.ref t, .int (nI p)] (wT G t c w) (some (.int (nI r))) (wT G t c w) := by
  refine AM.of (σ := sX7_greatestLoadOf) (by decide +kernel) (by decide +kernel) (Nat.le_of_ble_eq_true rfl) (fun B hB hR hE0 hN => ?_)
  have hE := BE.of hE0
  refine a_iconstN (v := 5) hB dX7_greatestLoadOf_0 (by decide) ?_
  refine a_istore_n hB dX7_greatestLoadOf_1 (by decide) ?_
  have lp2 : ∀ (j2 i : Nat), i = r + j2 ∧ i < 6 → aW G sX7_greatestLoadOf B 2 [(0, .ref t), (1, .int (nI p)), (2, .int (nI i))] [] (wT G t c w) 0 0 := by
    intro j2
    induction j2 with
    | zero =>
      intro i hi
      obtain ⟨rfl, hb⟩ := hi
      refine a_iload_n hB dX7_greatestLoadOf_2 rfl ?_
      refine a_if_ltN_f (tgt := 23) hB dX7_greatestLoadOf_3 (by decide) (by omega) ?_
      refine a_aload_n hB dX7_greatestLoadOf_6 rfl ?_
      refine a_iload_n hB dX7_greatestLoadOf_7 rfl ?_
      refine a_iload_n hB dX7_greatestLoadOf_8 rfl ?_
      refine a_callVr (q0 := 0) hB (c_X7_get (by omega) (by omega)) mk_X7_get ml_X7_15 dX7_greatestLoadOf_9 rfl rfl [0, 1] rfl (by decide) rfl rfl (fit_of hR (by decide)) (Nat.le_of_ble_eq_true rfl) ?_
      refine a_if_leN_f (tgt := 17) hB dX7_greatestLoadOf_12 (by decide) hs (Nat.ne_of_gt h1) ?_
      refine a_iload_n hB dX7_greatestLoadOf_15 rfl ?_
      exact a_iret hB hE rfl dX7_greatestLoadOf_16 (Nat.le_of_ble_eq_true rfl) (Nat.le_of_ble_eq_true rfl) (AKeep.of rfl) ⟨rfl, rfl⟩
    | succ j2 ih2 =>
      intro i hi
      obtain ⟨rfl, hb⟩ := hi
      refine a_iload_n hB dX7_greatestLoadOf_2 rfl ?_
      refine a_if_ltN_f (tgt := 23) hB dX7_greatestLoadOf_3 (by decide) (by omega) ?_
      refine a_aload_n hB dX7_greatestLoadOf_6 rfl ?_
      refine a_iload_n hB dX7_greatestLoadOf_7 rfl ?_
      refine a_iload_n hB dX7_greatestLoadOf_8 rfl ?_
      refine a_callVr (q0 := 0) hB (c_X7_get (by omega) (by omega)) mk_X7_get ml_X7_15 dX7_greatestLoadOf_9 rfl rfl [0, 1] rfl (by decide) rfl rfl (fit_of hR (by decide)) (Nat.le_of_ble_eq_true rfl) ?_
      refine a_if_leN_t (tgt := 17) hB dX7_greatestLoadOf_12 (by decide) (by rw [h0 _ (by omega) (by omega)]; decide) (h0 _ (by omega) (by omega)) ?_
      refine a_iincD hB dX7_greatestLoadOf_17 rfl (by decide) (by decide) ?_
      refine a_goto (tgt := 2) hB dX7_greatestLoadOf_20 (by decide) ?_
      exact aW_at [0, 1, 2] rfl rfl rfl (ih2 (r + j2) ⟨rfl, by omega⟩)
  exact aW_at [0, 1, 2] rfl rfl rfl (lp2 (5 - r) 5 ⟨by omega, by omega⟩)
set_option maxHeartbeats 4000000 in
set_option maxRecDepth 100000 in
theorem c_X7_dropRow {G : GP} {t c : Nat} {w : Nat → Nat} {p : Nat} (hp : p < 6) : AMd G sX7_dropRow [.ref t, .int (nI p)] (wT G t c w) none (wT G t c (drR w p (6 - p))) := by
  refine AM.of (σ := sX7_dropRow) (by decide +kernel) (by decide +kernel) (Nat.le_of_ble_eq_true rfl) (fun B hB hR hE0 hN => ?_)
  have hE := BE.of hE0
  refine a_iload_n hB dX7_dropRow_0 rfl ?_
  refine a_istore_n hB dX7_dropRow_1 (by decide) ?_
  have lp2 : ∀ (j2 i : Nat), i + j2 = 6 - p → aW G sX7_dropRow B 2 [(0, .ref t), (1, .int (nI p)), (2, .int (nI (p + i)))] [] (wT G t c (drR w p i)) 0 0 := by
    intro j2
    induction j2 with
    | zero =>
      intro i hi
      refine a_iload_n hB dX7_dropRow_2 rfl ?_
      refine a_bipushN (v := 6) hB dX7_dropRow_3 (by decide) ?_
      refine a_icmp_geN_t (tgt := 42) hB dX7_dropRow_5 (by decide) (by omega) (by omega) (by omega) ?_
      exact a_vret hB hE rfl dX7_dropRow_42 (Nat.le_of_ble_eq_true rfl) (Nat.le_of_ble_eq_true rfl) (AKeep.of rfl) ⟨rfl, by rw [show i = 6 - p by omega]⟩
    | succ j2 ih2 =>
      intro i hi
      refine a_iload_n hB dX7_dropRow_2 rfl ?_
      refine a_bipushN (v := 6) hB dX7_dropRow_3 (by decide) ?_
      refine a_icmp_geN_f (tgt := 42) hB dX7_dropRow_5 (by decide) (by omega) (by omega) (by omega) ?_
      refine a_iconstN (v := 0) hB dX7_dropRow_8 (by decide) ?_
      refine a_istore_n hB dX7_dropRow_9 (by decide) ?_
      have lp10 : ∀ (j10 u : Nat), u + j10 = 6 → aW G sX7_dropRow B 10 [(0, .ref t), (1, .int (nI p)), (2, .int (nI (p + i))), (3, .int (nI u))] [] (wT G t c (drL (drR w p i) (p + i) u)) 0 0 := by
        intro j10
        induction j10 with
        | zero =>
          intro u hi
          refine a_iload_n hB dX7_dropRow_10 rfl ?_
          refine a_bipushN (v := 6) hB dX7_dropRow_11 (by decide) ?_
          refine a_icmp_geN_t (tgt := 36) hB dX7_dropRow_13 (by decide) (by omega) (by omega) (by omega) ?_
          refine a_iincN (b := 1) hB dX7_dropRow_36 rfl (by decide) (by decide) ?_
          refine a_goto (tgt := 2) hB dX7_dropRow_39 (by decide) ?_
          exact aW_at [0, 1, 2] rfl rfl (by rw [show u = 6 by omega]; rfl) (ih2 (i + 1) (by omega))
        | succ j10 ih10 =>
          intro u hi
          refine a_iload_n hB dX7_dropRow_10 rfl ?_
          refine a_bipushN (v := 6) hB dX7_dropRow_11 (by decide) ?_
          refine a_icmp_geN_f (tgt := 36) hB dX7_dropRow_13 (by decide) (by omega) (by omega) (by omega) ?_
          refine a_aload_n hB dX7_dropRow_16 rfl ?_
          refine a_iload_n hB dX7_dropRow_17 rfl ?_
          refine a_iload_n hB dX7_dropRow_18 rfl ?_
          refine a_aload_n hB dX7_dropRow_19 rfl ?_
          refine a_iload_n hB dX7_dropRow_20 rfl ?_
          refine a_iconstN (v := 1) hB dX7_dropRow_21 (by decide) ?_
          refine a_iaddN hB dX7_dropRow_22 ?_
          refine a_iload_n hB dX7_dropRow_23 rfl ?_
          refine a_callVr (q0 := 0) hB (c_X7_get (by omega) (by omega)) mk_X7_get ml_X7_15 dX7_dropRow_24 rfl rfl [0, 1] rfl (by decide) rfl rfl (fit_of hR (by decide)) (Nat.le_of_ble_eq_true rfl) ?_
          refine a_callVd (q0 := 0) hB (c_X7_set (by omega) (by omega)) mk_X7_set ml_X7_19 dX7_dropRow_27 rfl rfl [0, 1] rfl (by decide) rfl rfl (fit_of hR (by decide)) (Nat.le_of_ble_eq_true rfl) rfl ?_
          refine a_iincN (b := 1) hB dX7_dropRow_30 rfl (by decide) (by decide) ?_
          refine a_goto (tgt := 10) hB dX7_dropRow_33 (by decide) ?_
          exact aW_at [0, 1, 2, 3] rfl rfl rfl (ih10 (u + 1) (by omega))
      exact aW_at [0, 1, 2, 3] rfl rfl rfl (lp10 (6) 0 (by omega))
  exact aW_at [0, 1, 2] rfl rfl rfl (lp2 (6 - p) 0 (by omega))
set_option maxHeartbeats 4000000 in
set_option maxRecDepth 100000 in
theorem c_X7_copyFrom {G : GP} {t c t2 c2 : Nat} {w o : Nat → Nat} : AMd G sX7_copyFrom [.ref t, .ref t2] [(t, ob 7 [.ref c]), (c, aN G 36 w), (t2, ob 7 [.ref c2]), (c2, aN G 36 o)] none [(t, ob 7 [.ref c]), (c, aN G 36 (cpN w o 36)), (t2, ob 7 [.ref c2]), (c2, aN G 36 o)] := by
  refine AM.of (σ := sX7_copyFrom) (by decide +kernel) (by decide +kernel) (Nat.le_of_ble_eq_true rfl) (fun B hB hR hE0 hN => ?_)
  have hE := BE.of hE0
  refine a_iconstN (v := 0) hB dX7_copyFrom_0 (by decide) ?_
  refine a_istore_n hB dX7_copyFrom_1 (by decide) ?_
  have lp2 : ∀ (j2 i : Nat), i + j2 = 36 → aW G sX7_copyFrom B 2 [(0, .ref t), (1, .ref t2), (2, .int (nI i))] [] [(t, ob 7 [.ref c]), (c, aN G 36 (cpN w o i)), (t2, ob 7 [.ref c2]), (c2, aN G 36 o)] 0 0 := by
    intro j2
    induction j2 with
    | zero =>
      intro i hi
      refine a_iload_n hB dX7_copyFrom_2 rfl ?_
      refine a_aload_n hB dX7_copyFrom_3 rfl ?_
      refine a_get (T := TX7) (ci := 7) hB dX7_copyFrom_4 0 fl_X7_9 lay_X7 rfl (by decide) rfl 0 rfl rfl ?_
      refine a_alen (v := nI 36) hB dX7_copyFrom_7 1 1 rfl rfl rfl ?_
      refine a_icmp_geN_t (tgt := 38) hB dX7_copyFrom_8 (by decide) (by omega) (by omega) (by omega) ?_
      exact a_vret hB hE rfl dX7_copyFrom_38 (Nat.le_of_ble_eq_true rfl) (Nat.le_of_ble_eq_true rfl) (AKeep.of rfl) ⟨rfl, by rw [show i = 36 by omega]⟩
    | succ j2 ih2 =>
      intro i hi
      refine a_iload_n hB dX7_copyFrom_2 rfl ?_
      refine a_aload_n hB dX7_copyFrom_3 rfl ?_
      refine a_get (T := TX7) (ci := 7) hB dX7_copyFrom_4 0 fl_X7_9 lay_X7 rfl (by decide) rfl 0 rfl rfl ?_
      refine a_alen (v := nI 36) hB dX7_copyFrom_7 1 1 rfl rfl rfl ?_
      refine a_icmp_geN_f (tgt := 38) hB dX7_copyFrom_8 (by decide) (by omega) (by omega) (by omega) ?_
      refine a_iload_n hB dX7_copyFrom_11 rfl ?_
      refine a_aload_n hB dX7_copyFrom_12 rfl ?_
      refine a_get (T := TX7) (ci := 7) hB dX7_copyFrom_13 0 fl_X7_9 lay_X7 rfl (by decide) rfl 2 rfl rfl ?_
      refine a_alen (v := nI 36) hB dX7_copyFrom_16 3 1 rfl rfl rfl ?_
      refine a_icmp_geN_f (tgt := 38) hB dX7_copyFrom_17 (by decide) (by omega) (by omega) (by omega) ?_
      refine a_aload_n hB dX7_copyFrom_20 rfl ?_
      refine a_get (T := TX7) (ci := 7) hB dX7_copyFrom_21 0 fl_X7_9 lay_X7 rfl (by decide) rfl 0 rfl rfl ?_
      refine a_iload_n hB dX7_copyFrom_24 rfl ?_
      refine a_aload_n hB dX7_copyFrom_25 rfl ?_
      refine a_get (T := TX7) (ci := 7) hB dX7_copyFrom_26 0 fl_X7_9 lay_X7 rfl (by decide) rfl 2 rfl rfl ?_
      refine a_iload_n hB dX7_copyFrom_29 rfl ?_
      refine a_ialoadN hB dX7_copyFrom_30 3 rfl (by omega) (by decide) ?_
      refine a_iastoreN hB dX7_copyFrom_31 1 rfl (by omega) (by decide) ?_
      refine a_iincN (b := 1) hB dX7_copyFrom_32 rfl (by decide) (by decide) ?_
      refine a_goto (tgt := 2) hB dX7_copyFrom_35 (by decide) ?_
      exact aW_at [0, 1, 2] rfl rfl rfl (ih2 (i + 1) (by omega))
  exact aW_at [0, 1, 2] rfl rfl rfl (lp2 (36) 0 (by omega))
set_option maxHeartbeats 4000000 in
set_option maxRecDepth 100000 in
theorem c_X7_init {G : GP} {t : Nat} : AM G sX7_init 1 36 [.ref t] [(t, ob 7 [.null])] (fun v w => v = none ∧ ∃ c, w = wT G t c (fun _ => 0)) := by
  refine AM.of (σ := sX7_init) (by decide +kernel) (by decide +kernel) (Nat.le_of_ble_eq_true rfl) (fun B hB hR hE0 hN => ?_)
  have hE := BE.of hE0
  have hN : B.meth.name = "<init>" := hN
  refine a_aload_n hB dX7_init_0 rfl ?_
  refine a_objInit hB ml_X7_3 dX7_init_1 (roomF hR (Nat.le_of_ble_eq_true rfl)) (room12 hR (Nat.le_of_ble_eq_true rfl)) ?_
  refine a_aload_n hB dX7_init_4 rfl ?_
  refine a_bipushN (v := 36) hB dX7_init_5 (by decide) ?_
  refine a_newI (N := 36) hB dX7_init_7 (nI_pos (by decide)) (nI_clamp (by decide)) (by decide) (roomc hR (Nat.le_of_ble_eq_true rfl)) (rooms hR (Nat.le_of_ble_eq_true rfl)) (fun q1 => ?_)
  refine a_putF (T := TX7) (ci := 7) hB hN dX7_init_9 0 fl_X7_9 lay_X7 tyX7 tyX7_ok nmX7 rfl (by decide) rfl rfl rfl 0 rfl rfl rfl rfl (Nat.le_of_ble_eq_true rfl) ?_
  exact a_vret hB hE rfl dX7_init_12 (Nat.le_of_ble_eq_true rfl) (Nat.le_of_ble_eq_true rfl) (AKeep.of rfl) ⟨rfl, q1, rfl⟩

