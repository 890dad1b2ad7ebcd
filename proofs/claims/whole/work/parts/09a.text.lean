def sX1_addPartOf : MS := (yX1_addPartOf, cX1_addPartOf, 7, none, RX1, 1)
def sX1_fill : MS := (yX1_fill, cX1_fill, 4, none, RX1, 2)
def sX1_init : MS := (yX1_init, cX1_init, 1, none, RX1, 1)
def sX1_oddsFrom : MS := (yX1_oddsFrom, cX1_oddsFrom, 4, (some .double), RX1, 2)
def sX1_waysFrom : MS := (yX1_waysFrom, cX1_waysFrom, 5, (some .long), RX1, 1)
def sX1_waysOf : MS := (yX1_waysOf, cX1_waysOf, 2, (some .long), RX1, 0)
def sX2_init : MS := (yX2_init, cX2_init, 1, none, RX2, 1)
def sX2_restore : MS := (yX2_restore, cX2_restore, 4, none, RX2, 2)
def sX2_save : MS := (yX2_save, cX2_save, 3, none, RX2, 3)
def sX6_accepts : MS := (yX6_accepts, cX6_accepts, 2, (some .boolean), RX6, 1)
def sX6_acceptsDigit : MS := (yX6_acceptsDigit, cX6_acceptsDigit, 2, (some .boolean), RX6, 0)
def sX6_acceptsNextPart : MS := (yX6_acceptsNextPart, cX6_acceptsNextPart, 2, (some .boolean), RX6, 0)
def sX6_init : MS := (yX6_init, cX6_init, 1, none, RX6, 1)
def sX6_isPartComplete : MS := (yX6_isPartComplete, cX6_isPartComplete, 1, (some .boolean), RX6, 0)
def sX6_read : MS := (yX6_read, cX6_read, 3, (some .int), RX6, 2)
def sX8_add : MS := (yX8_add, cX8_add, 2, none, RX8, 0)
def sX8_addPartsTo : MS := (yX8_addPartsTo, cX8_addPartsTo, 6, none, RX8, 2)
def sX8_clear : MS := (yX8_clear, cX8_clear, 1, none, RX8, 0)
def sX8_codeAt : MS := (yX8_codeAt, cX8_codeAt, 2, (some .int), RX8, 0)
def sX8_init : MS := (yX8_init, cX8_init, 1, none, RX8, 1)
abbrev wX (G : GP) (b c len : Nat) (cs : Nat → Nat) : va_W := [(b, ob 8 [.ref c, .int (nI len)]), (c, aN G 60 cs)]
set_option maxHeartbeats 4000000 in
set_option maxRecDepth 100000 in
theorem c_X8_init {G : GP} {b : Nat} : AM G sX8_init 1 60 [.ref b] [(b, ob 8 [.null, .int 0])] (fun v w => v = none ∧ ∃ c, w = wX G b c 0 (fun _ => 0)) := by
  refine AM.of (σ := sX8_init) (by decide +kernel) (by decide +kernel) (Nat.le_of_ble_eq_true rfl) (fun B hB hR hE0 hN => ?_)
  have hE := BE.of hE0
  have hN : B.meth.name = "<init>" := hN
  refine a_aload_n hB dX8_init_0 rfl ?_
  refine a_objInit hB ml_X8_3 dX8_init_1 (roomF hR (Nat.le_of_ble_eq_true rfl)) (room12 hR (Nat.le_of_ble_eq_true rfl)) ?_
  refine a_aload_n hB dX8_init_4 rfl ?_
  refine a_bipushN (v := 60) hB dX8_init_5 (by decide) ?_
  refine a_newI (N := 60) hB dX8_init_7 (nI_pos (by decide)) (nI_clamp (by decide)) (by decide) (roomc hR (Nat.le_of_ble_eq_true rfl)) (rooms hR (Nat.le_of_ble_eq_true rfl)) (fun q1 => ?_)
  refine a_putF (T := TX8) (ci := 8) hB hN dX8_init_9 0 fl_X8_9 lay_X8 tyX8 tyX8_ok nmX8 rfl (by decide) rfl rfl rfl 0 rfl rfl rfl rfl (Nat.le_of_ble_eq_true rfl) ?_
  refine a_aload_n hB dX8_init_12 rfl ?_
  refine a_iconstN (v := 0) hB dX8_init_13 (by decide) ?_
  refine a_put (T := TX8) (ci := 8) hB dX8_init_14 1 fl_X8_15 lay_X8 tyX8 tyX8_ok nmX8 rfl (by decide) rfl rfl 0 rfl rfl rfl rfl (Nat.le_of_ble_eq_true rfl) ?_
  exact a_vret hB hE rfl dX8_init_17 (Nat.le_of_ble_eq_true rfl) (Nat.le_of_ble_eq_true rfl) (AKeep.of rfl) ⟨rfl, q1, rfl⟩
set_option maxHeartbeats 4000000 in
set_option maxRecDepth 100000 in
theorem c_X8_add {G : GP} {b c len code : Nat} {cs : Nat → Nat} (hl : len < 60) : AMd G sX8_add [.ref b, .int (nI code)] (wX G b c len cs) none (wX G b c (len + 1) (uN cs len code)) := by
  refine AM.of (σ := sX8_add) (by decide +kernel) (by decide +kernel) (Nat.le_of_ble_eq_true rfl) (fun B hB hR hE0 hN => ?_)
  have hE := BE.of hE0
  refine a_aload_n hB dX8_add_0 rfl ?_
  refine a_get (T := TX8) (ci := 8) hB dX8_add_1 1 fl_X8_15 lay_X8 rfl (by decide) rfl 0 rfl rfl ?_
  refine a_if_ltN_f (tgt := 39) hB dX8_add_4 (by decide) (by omega) ?_
  refine a_aload_n hB dX8_add_7 rfl ?_
  refine a_get (T := TX8) (ci := 8) hB dX8_add_8 1 fl_X8_15 lay_X8 rfl (by decide) rfl 0 rfl rfl ?_
  refine a_aload_n hB dX8_add_11 rfl ?_
  refine a_get (T := TX8) (ci := 8) hB dX8_add_12 0 fl_X8_9 lay_X8 rfl (by decide) rfl 0 rfl rfl ?_
  refine a_alen (v := nI 60) hB dX8_add_15 1 1 rfl rfl rfl ?_
  refine a_icmp_geN_f (tgt := 39) hB dX8_add_16 (by decide) (by omega) (by omega) (by omega) ?_
  refine a_aload_n hB dX8_add_19 rfl ?_
  refine a_get (T := TX8) (ci := 8) hB dX8_add_20 0 fl_X8_9 lay_X8 rfl (by decide) rfl 0 rfl rfl ?_
  refine a_aload_n hB dX8_add_23 rfl ?_
  refine a_get (T := TX8) (ci := 8) hB dX8_add_24 1 fl_X8_15 lay_X8 rfl (by decide) rfl 0 rfl rfl ?_
  refine a_iload_n hB dX8_add_27 rfl ?_
  refine a_iastoreN hB dX8_add_28 1 rfl (by omega) (by decide) ?_
  refine a_aload_n hB dX8_add_29 rfl ?_
  refine a_dup hB dX8_add_30 rfl ?_
  refine a_get (T := TX8) (ci := 8) hB dX8_add_31 1 fl_X8_15 lay_X8 rfl (by decide) rfl 0 rfl rfl ?_
  refine a_iconstN (v := 1) hB dX8_add_34 (by decide) ?_
  refine a_iaddN hB dX8_add_35 ?_
  refine a_put (T := TX8) (ci := 8) hB dX8_add_36 1 fl_X8_15 lay_X8 tyX8 tyX8_ok nmX8 rfl (by decide) rfl rfl 0 rfl rfl rfl rfl (Nat.le_of_ble_eq_true rfl) ?_
  exact a_vret hB hE rfl dX8_add_39 (Nat.le_of_ble_eq_true rfl) (Nat.le_of_ble_eq_true rfl) (AKeep.of rfl) ⟨rfl, rfl⟩
set_option maxHeartbeats 4000000 in
set_option maxRecDepth 100000 in
theorem c_X8_clear {G : GP} {b c len : Nat} {cs : Nat → Nat} : AMd G sX8_clear [.ref b] (wX G b c len cs) none (wX G b c 0 cs) := by
  refine AM.of (σ := sX8_clear) (by decide +kernel) (by decide +kernel) (Nat.le_of_ble_eq_true rfl) (fun B hB hR hE0 hN => ?_)
  have hE := BE.of hE0
  refine a_aload_n hB dX8_clear_0 rfl ?_
  refine a_iconstN (v := 0) hB dX8_clear_1 (by decide) ?_
  refine a_put (T := TX8) (ci := 8) hB dX8_clear_2 1 fl_X8_15 lay_X8 tyX8 tyX8_ok nmX8 rfl (by decide) rfl rfl 0 rfl rfl rfl rfl (Nat.le_of_ble_eq_true rfl) ?_
  exact a_vret hB hE rfl dX8_clear_5 (Nat.le_of_ble_eq_true rfl) (Nat.le_of_ble_eq_true rfl) (AKeep.of rfl) ⟨rfl, rfl⟩
set_option maxHeartbeats 4000000 in
set_option maxRecDepth 100000 in
theorem c_X8_codeAt {G : GP} {b c len i : Nat} {cs : Nat → Nat} (hi : i < len) (hl : len ≤ 60) : AMd G sX8_codeAt [.ref b, .int (nI i)] (wX G b c len cs) (some (.int (nI (cs i)))) (wX G b c len cs) := by
  refine AM.of (σ := sX8_codeAt) (by decide +kernel) (by decide +kernel) (Nat.le_of_ble_eq_true rfl) (fun B hB hR hE0 hN => ?_)
  have hE := BE.of hE0
  refine a_iload_n hB dX8_codeAt_0 rfl ?_
  refine a_if_ltN_f (tgt := 30) hB dX8_codeAt_1 (by decide) (by omega) ?_
  refine a_iload_n hB dX8_codeAt_4 rfl ?_
  refine a_aload_n hB dX8_codeAt_5 rfl ?_
  refine a_get (T := TX8) (ci := 8) hB dX8_codeAt_6 1 fl_X8_15 lay_X8 rfl (by decide) rfl 0 rfl rfl ?_
  refine a_icmp_geN_f (tgt := 30) hB dX8_codeAt_9 (by decide) (by omega) (by omega) (by omega) ?_
  refine a_iload_n hB dX8_codeAt_12 rfl ?_
  refine a_aload_n hB dX8_codeAt_13 rfl ?_
  refine a_get (T := TX8) (ci := 8) hB dX8_codeAt_14 0 fl_X8_9 lay_X8 rfl (by decide) rfl 0 rfl rfl ?_
  refine a_alen (v := nI 60) hB dX8_codeAt_17 1 1 rfl rfl rfl ?_
  refine a_icmp_geN_f (tgt := 30) hB dX8_codeAt_18 (by decide) (by omega) (by omega) (by omega) ?_
  refine a_aload_n hB dX8_codeAt_21 rfl ?_
  refine a_get (T := TX8) (ci := 8) hB dX8_codeAt_22 0 fl_X8_9 lay_X8 rfl (by decide) rfl 0 rfl rfl ?_
  refine a_iload_n hB dX8_codeAt_25 rfl ?_
  refine a_ialoadN hB dX8_codeAt_26 1 rfl (by omega) (by decide) ?_
  refine a_goto (tgt := 31) hB dX8_codeAt_27 (by decide) ?_
  exact a_iret hB hE rfl dX8_codeAt_31 (Nat.le_of_ble_eq_true rfl) (Nat.le_of_ble_eq_true rfl) (AKeep.of rfl) ⟨rfl, rfl⟩
/-- the parts that a text adds: plant, part, load behind i characters -/
def ats (P : PV) (cs : Nat → Nat) : Nat → PV × Nat × Nat
  | 0 => (P.addE, P.parts, 0)
  | i + 1 => if cs i = 59 then ((ats P cs i).1.addE, (ats P cs i).1.parts, 0) else ((ats P cs i).1.both (ats P cs i).2.1 (ats P cs i).2.2 (cs i - 48), (ats P cs i).2.1, (ats P cs i).2.2 + 1)
theorem ats_s {P : PV} {cs : Nat → Nat} {i : Nat} (h : cs i = 59) : ats P cs (i + 1) = ((ats P cs i).1.addE, (ats P cs i).1.parts, 0) := if_pos h
theorem ats_d {P : PV} {cs : Nat → Nat} {i : Nat} (h : ¬ cs i = 59) : ats P cs (i + 1) = ((ats P cs i).1.both (ats P cs i).2.1 (ats P cs i).2.2 (cs i - 48), (ats P cs i).2.1, (ats P cs i).2.2 + 1) := if_neg h
set_option maxHeartbeats 4000000 in
set_option maxRecDepth 100000 in
theorem c_X8_addPartsTo {G : GP} {b c len : Nat} {cs : Nat → Nat} {pa : Nat → Nat} {P : PV} (hl : len ≤ 60) (hc : ∀ i, i < len → cs i < 2 ^ 31 ∧ (ats P cs i).1.parts < 2 ^ 31 ∧ (¬ cs i = 59 → (ats P cs i).2.1 < 6 ∧ (ats P cs i).2.2 < 6 ∧ 48 ≤ cs i)) : AMd G sX8_addPartsTo [.ref b, .ref (pa 0)] (wX G b c len cs ++ wP G pa P) none (wX G b c len cs ++ wP G pa (ats P cs len).1) := by
  refine AM.of (σ := sX8_addPartsTo) (by decide +kernel) (by decide +kernel) (Nat.le_of_ble_eq_true rfl) (fun B hB hR hE0 hN => ?_)
  have hE := BE.of hE0
  refine a_aload_n hB dX8_addPartsTo_0 rfl ?_
  refine a_callVd (w2 := wX G b c len cs ++ wP G pa P.addE) (q0 := 2) hB (c_X4_addEmptyPart (pa := pa) (P := P)) mk_X4_addEmptyPart ml_X8_19 dX8_addPartsTo_1 rfl rfl [2, 3, 4, 5, 6, 7, 8] rfl (by decide) rfl rfl (fit_of hR (by decide)) (Nat.le_of_ble_eq_true rfl) rfl ?_
  refine a_istore_n hB dX8_addPartsTo_4 (by decide) ?_
  refine a_iconstN (v := 0) hB dX8_addPartsTo_5 (by decide) ?_
  refine a_istore_n hB dX8_addPartsTo_6 (by decide) ?_
  refine a_iconstN (v := 0) hB dX8_addPartsTo_7 (by decide) ?_
  refine a_istore hB dX8_addPartsTo_8 (by decide) ?_
  have lp10 : ∀ (j10 i : Nat), i + j10 = len → aW G sX8_addPartsTo B 10 [(0, .ref b), (1, .ref (pa 0)), (2, .int (nI (ats P cs i).2.1)), (3, .int (nI (ats P cs i).2.2)), (4, .int (nI i))] [] (wX G b c len cs ++ wP G pa (ats P cs i).1) 0 0 := by
    intro j10
    induction j10 with
    | zero =>
      intro i hi
      refine a_iload hB dX8_addPartsTo_10 rfl ?_
      refine a_aload_n hB dX8_addPartsTo_12 rfl ?_
      refine a_get (T := TX8) (ci := 8) hB dX8_addPartsTo_13 1 fl_X8_15 lay_X8 rfl (by decide) rfl 0 rfl rfl ?_
      refine a_icmp_geN_t (tgt := 64) hB dX8_addPartsTo_16 (by decide) (by omega) (by omega) (by omega) ?_
      exact a_vret hB hE rfl dX8_addPartsTo_64 (Nat.le_of_ble_eq_true rfl) (Nat.le_of_ble_eq_true rfl) (AKeep.of rfl) ⟨rfl, by rw [show i = len by omega]⟩
    | succ j10 ih10 =>
      intro i hi
      have hci := hc i (by omega)
      refine a_iload hB dX8_addPartsTo_10 rfl ?_
      refine a_aload_n hB dX8_addPartsTo_12 rfl ?_
      refine a_get (T := TX8) (ci := 8) hB dX8_addPartsTo_13 1 fl_X8_15 lay_X8 rfl (by decide) rfl 0 rfl rfl ?_
      refine a_icmp_geN_f (tgt := 64) hB dX8_addPartsTo_16 (by decide) (by omega) (by omega) (by omega) ?_
      refine a_aload_n hB dX8_addPartsTo_19 rfl ?_
      refine a_iload hB dX8_addPartsTo_20 rfl ?_
      refine a_callVr (q0 := 0) hB (c_X8_codeAt (by omega) (by omega)) mk_X8_codeAt ml_X8_25 dX8_addPartsTo_22 rfl rfl [0, 1] rfl (by decide) rfl rfl (fit_of hR (by decide)) (Nat.le_of_ble_eq_true rfl) ?_
      refine a_istore hB dX8_addPartsTo_25 (by decide) ?_
      refine a_iload hB dX8_addPartsTo_27 rfl ?_
      refine a_bipushN (v := 59) hB dX8_addPartsTo_29 (by decide) ?_
      refine a_icmp_neN (tgt := 44) hB dX8_addPartsTo_31 (by decide) (by omega) (by omega) (fun c31 => ?_) (fun c31 => ?_)
      · refine a_aload_n hB dX8_addPartsTo_44 rfl ?_
        refine a_iload_n hB dX8_addPartsTo_45 rfl ?_
        refine a_iload_n hB dX8_addPartsTo_46 rfl ?_
        refine a_iload hB dX8_addPartsTo_47 rfl ?_
        refine a_bipushN (v := 48) hB dX8_addPartsTo_49 (by decide) ?_
        refine a_isubN hB dX8_addPartsTo_51 (hci.2.2 c31).2.2 ?_
        refine a_callVd (w2 := wX G b c len cs ++ wP G pa ((ats P cs i).1.both (ats P cs i).2.1 (ats P cs i).2.2 (cs i - 48))) (q0 := 2) hB (c_X4_setBothWeights (pa := pa) (P := (ats P cs i).1) (p := (ats P cs i).2.1) (l := (ats P cs i).2.2) (v := cs i - 48) (hci.2.2 c31).1 (hci.2.2 c31).2.1) mk_X4_setBothWeights ml_X8_29 dX8_addPartsTo_52 rfl rfl [2, 3, 4, 5, 6, 7, 8] rfl (by decide) rfl rfl (fit_of hR (by decide)) (Nat.le_of_ble_eq_true rfl) rfl ?_
        refine a_iincN (b := 1) hB dX8_addPartsTo_55 rfl (by decide) (by decide) ?_
        refine a_iincN (b := 1) hB dX8_addPartsTo_58 rfl (by decide) (by decide) ?_
        refine a_goto (tgt := 10) hB dX8_addPartsTo_61 (by decide) ?_
        first | (have e9 := ats_s (P := P) c31) | (have e9 := ats_d (P := P) c31)
        exact aW_at [0, 1, 2, 3, 4] (by rw [e9]; rfl) rfl (by rw [e9]) (ih10 (i + 1) (by omega))
      · refine a_aload_n hB dX8_addPartsTo_34 rfl ?_
        refine a_callVd (w2 := wX G b c len cs ++ wP G pa (ats P cs i).1.addE) (q0 := 2) hB (c_X4_addEmptyPart (pa := pa) (P := (ats P cs i).1)) mk_X4_addEmptyPart ml_X8_19 dX8_addPartsTo_35 rfl rfl [2, 3, 4, 5, 6, 7, 8] rfl (by decide) rfl rfl (fit_of hR (by decide)) (Nat.le_of_ble_eq_true rfl) rfl ?_
        refine a_istore_n hB dX8_addPartsTo_38 (by decide) ?_
        refine a_iconstN (v := 0) hB dX8_addPartsTo_39 (by decide) ?_
        refine a_istore_n hB dX8_addPartsTo_40 (by decide) ?_
        refine a_goto (tgt := 58) hB dX8_addPartsTo_41 (by decide) ?_
        refine a_iincN (b := 1) hB dX8_addPartsTo_58 rfl (by decide) (by decide) ?_
        refine a_goto (tgt := 10) hB dX8_addPartsTo_61 (by decide) ?_
        first | (have e9 := ats_s (P := P) c31) | (have e9 := ats_d (P := P) c31)
        exact aW_at [0, 1, 2, 3, 4] (by rw [e9]; rfl) rfl (by rw [e9]) (ih10 (i + 1) (by omega))
  exact aW_at [0, 1, 2, 3, 4] rfl rfl rfl (lp10 (len) 0 (by omega))
abbrev wY (G : GP) (s : Nat) (S : Nat × Nat × Nat) : va_W := [(s, ob 6 [.int (nI S.1), .int (nI S.2.1), .int (nI S.2.2)])]
/-- the reader's state behind a character, and whether it takes it -/
def syD (S : Nat × Nat × Nat) (d : Nat) : Nat × Nat × Nat := (S.1, S.2.1 + 1, if S.2.2 = 0 ∧ d = 0 then 0 else 1)
def syS (S : Nat × Nat × Nat) (c : Nat) : Nat × Nat × Nat := if c = 59 then (S.1 + 1, 0, 0) else if 48 ≤ c ∧ c ≤ 57 then syD S (c - 48) else S
def syA (S : Nat × Nat × Nat) (c : Nat) : Nat := if c = 59 then S.2.2 else if 48 ≤ c ∧ c ≤ 57 then (if (syD S (c - 48)).2.1 < 6 ∨ (syD S (c - 48)).2.1 = 6 ∧ ¬ (syD S (c - 48)).2.2 = 0 then 1 else 0) else 0
theorem nar_bool {v : Nat} (h : v ≤ 1) : narrow .boolean (.int (nI v)) = .int (nI v) := by
  have : v = 0 ∨ v = 1 := by omega
  rcases this with rfl | rfl <;> decide
set_option maxHeartbeats 4000000 in
set_option maxRecDepth 100000 in
theorem c_X6_init {G : GP} {s : Nat} : AM G sX6_init 0 0 [.ref s] [(s, ob 6 [.int 0, .int 0, .int 0])] (fun v w => v = none ∧ w = wY G s (1, 0, 0)) := by
  refine AM.of (σ := sX6_init) (by decide +kernel) (by decide +kernel) (Nat.le_of_ble_eq_true rfl) (fun B hB hR hE0 hN => ?_)
  have hE := BE.of hE0
  have hN : B.meth.name = "<init>" := hN
  refine a_aload_n hB dX6_init_0 rfl ?_
  refine a_objInit hB ml_X6_3 dX6_init_1 (roomF hR (Nat.le_of_ble_eq_true rfl)) (room12 hR (Nat.le_of_ble_eq_true rfl)) ?_
  refine a_aload_n hB dX6_init_4 rfl ?_
  refine a_iconstN (v := 1) hB dX6_init_5 (by decide) ?_
  refine a_put (T := TX6) (ci := 6) hB dX6_init_6 0 fl_X6_9 lay_X6 tyX6 tyX6_ok nmX6 rfl (by decide) rfl rfl 0 rfl rfl rfl rfl (Nat.le_of_ble_eq_true rfl) ?_
  refine a_aload_n hB dX6_init_9 rfl ?_
  refine a_iconstN (v := 0) hB dX6_init_10 (by decide) ?_
  refine a_put (T := TX6) (ci := 6) hB dX6_init_11 1 fl_X6_15 lay_X6 tyX6 tyX6_ok nmX6 rfl (by decide) rfl rfl 0 rfl rfl rfl rfl (Nat.le_of_ble_eq_true rfl) ?_
  refine a_aload_n hB dX6_init_14 rfl ?_
  refine a_iconstN (v := 0) hB dX6_init_15 (by decide) ?_
  refine a_put (T := TX6) (ci := 6) hB dX6_init_16 2 fl_X6_18 lay_X6 tyX6 tyX6_ok nmX6 rfl (by decide) rfl rfl 0 rfl rfl (by decide) rfl (Nat.le_of_ble_eq_true rfl) ?_
  exact a_vret hB hE rfl dX6_init_19 (Nat.le_of_ble_eq_true rfl) (Nat.le_of_ble_eq_true rfl) (AKeep.of rfl) ⟨rfl, rfl⟩
set_option maxHeartbeats 4000000 in
set_option maxRecDepth 100000 in
theorem c_X6_isPartComplete {G : GP} {s : Nat} {S : Nat × Nat × Nat} (h1 : S.2.2 ≤ 1) : AMd G sX6_isPartComplete [.ref s] (wY G s S) (some (.int (nI S.2.2))) (wY G s S) := by
  refine AM.of (σ := sX6_isPartComplete) (by decide +kernel) (by decide +kernel) (Nat.le_of_ble_eq_true rfl) (fun B hB hR hE0 hN => ?_)
  have hE := BE.of hE0
  refine a_aload_n hB dX6_isPartComplete_0 rfl ?_
  refine a_get (T := TX6) (ci := 6) hB dX6_isPartComplete_1 2 fl_X6_18 lay_X6 rfl (by decide) rfl 0 rfl rfl ?_
  exact a_zret hB hE rfl (nar_bool h1) dX6_isPartComplete_4 (Nat.le_of_ble_eq_true rfl) (Nat.le_of_ble_eq_true rfl) (AKeep.of rfl) ⟨rfl, rfl⟩
set_option maxHeartbeats 4000000 in
set_option maxRecDepth 100000 in
theorem c_X6_acceptsNextPart {G : GP} {s : Nat} {S : Nat × Nat × Nat} (h1 : S.2.2 ≤ 1) : AMd G sX6_acceptsNextPart [.ref s] (wY G s S) (some (.int (nI S.2.2))) (wY G s (S.1 + 1, 0, 0)) := by
  refine AM.of (σ := sX6_acceptsNextPart) (by decide +kernel) (by decide +kernel) (Nat.le_of_ble_eq_true rfl) (fun B hB hR hE0 hN => ?_)
  have hE := BE.of hE0
  refine a_aload_n hB dX6_acceptsNextPart_0 rfl ?_
  refine a_get (T := TX6) (ci := 6) hB dX6_acceptsNextPart_1 2 fl_X6_18 lay_X6 rfl (by decide) rfl 0 rfl rfl ?_
  refine a_istore_n hB dX6_acceptsNextPart_4 (by decide) ?_
  refine a_aload_n hB dX6_acceptsNextPart_5 rfl ?_
  refine a_dup hB dX6_acceptsNextPart_6 rfl ?_
  refine a_get (T := TX6) (ci := 6) hB dX6_acceptsNextPart_7 0 fl_X6_9 lay_X6 rfl (by decide) rfl 0 rfl rfl ?_
  refine a_iconstN (v := 1) hB dX6_acceptsNextPart_10 (by decide) ?_
  refine a_iaddN hB dX6_acceptsNextPart_11 ?_
  refine a_put (T := TX6) (ci := 6) hB dX6_acceptsNextPart_12 0 fl_X6_9 lay_X6 tyX6 tyX6_ok nmX6 rfl (by decide) rfl rfl 0 rfl rfl rfl rfl (Nat.le_of_ble_eq_true rfl) ?_
  refine a_aload_n hB dX6_acceptsNextPart_15 rfl ?_
  refine a_iconstN (v := 0) hB dX6_acceptsNextPart_16 (by decide) ?_
  refine a_put (T := TX6) (ci := 6) hB dX6_acceptsNextPart_17 1 fl_X6_15 lay_X6 tyX6 tyX6_ok nmX6 rfl (by decide) rfl rfl 0 rfl rfl rfl rfl (Nat.le_of_ble_eq_true rfl) ?_
  refine a_aload_n hB dX6_acceptsNextPart_20 rfl ?_
  refine a_iconstN (v := 0) hB dX6_acceptsNextPart_21 (by decide) ?_
  refine a_put (T := TX6) (ci := 6) hB dX6_acceptsNextPart_22 2 fl_X6_18 lay_X6 tyX6 tyX6_ok nmX6 rfl (by decide) rfl rfl 0 rfl rfl (by decide) rfl (Nat.le_of_ble_eq_true rfl) ?_
  refine a_iload_n hB dX6_acceptsNextPart_25 rfl ?_
  exact a_zret hB hE rfl (nar_bool h1) dX6_acceptsNextPart_26 (Nat.le_of_ble_eq_true rfl) (Nat.le_of_ble_eq_true rfl) (AKeep.of rfl) ⟨rfl, rfl⟩
set_option maxHeartbeats 4000000 in
set_option maxRecDepth 100000 in
theorem c_X6_acceptsDigit {G : GP} {s d : Nat} {S : Nat × Nat × Nat} (hd9 : d ≤ 9) (h1 : S.2.2 ≤ 1) (h2 : S.2.1 < 2 ^ 30) : AMd G sX6_acceptsDigit [.ref s, .int (nI d)] (wY G s S) (some (.int (nI (if (syD S d).2.1 < 6 ∨ (syD S d).2.1 = 6 ∧ ¬ (syD S d).2.2 = 0 then 1 else 0)))) (wY G s (syD S d)) := by
  refine AM.of (σ := sX6_acceptsDigit) (by decide +kernel) (by decide +kernel) (Nat.le_of_ble_eq_true rfl) (fun B hB hR hE0 hN => ?_)
  have hE := BE.of hE0
  refine a_aload_n hB dX6_acceptsDigit_0 rfl ?_
  refine a_dup hB dX6_acceptsDigit_1 rfl ?_
  refine a_get (T := TX6) (ci := 6) hB dX6_acceptsDigit_2 1 fl_X6_15 lay_X6 rfl (by decide) rfl 0 rfl rfl ?_
  refine a_iconstN (v := 1) hB dX6_acceptsDigit_5 (by decide) ?_
  refine a_iaddN hB dX6_acceptsDigit_6 ?_
  refine a_put (T := TX6) (ci := 6) hB dX6_acceptsDigit_7 1 fl_X6_15 lay_X6 tyX6 tyX6_ok nmX6 rfl (by decide) rfl rfl 0 rfl rfl rfl rfl (Nat.le_of_ble_eq_true rfl) ?_
  refine a_aload_n hB dX6_acceptsDigit_10 rfl ?_
  refine a_aload_n hB dX6_acceptsDigit_11 rfl ?_
  refine a_get (T := TX6) (ci := 6) hB dX6_acceptsDigit_12 2 fl_X6_18 lay_X6 rfl (by decide) rfl 0 rfl rfl ?_
  refine a_if_neN (tgt := 22) hB dX6_acceptsDigit_15 (by decide) (by omega) (fun c15 => ?_) (fun c15 => ?_)
  · refine a_iconstN (v := 1) hB dX6_acceptsDigit_22 (by decide) ?_
    refine a_goto (tgt := 27) hB dX6_acceptsDigit_23 (by decide) ?_
    refine a_put (T := TX6) (ci := 6) hB dX6_acceptsDigit_27 2 fl_X6_18 lay_X6 tyX6 tyX6_ok nmX6 rfl (by decide) rfl rfl 0 rfl rfl (by decide) rfl (Nat.le_of_ble_eq_true rfl) ?_
    first | (have e9 : (syD S d).2.2 = 1 := if_neg (by omega)) | (have e9 : (syD S d).2.2 = 0 := if_pos (by omega))
    refine a_aload_n hB dX6_acceptsDigit_30 rfl ?_
    refine a_get (T := TX6) (ci := 6) hB dX6_acceptsDigit_31 1 fl_X6_15 lay_X6 rfl (by decide) rfl 0 rfl rfl ?_
    refine a_bipushN (v := 6) hB dX6_acceptsDigit_34 (by decide) ?_
    refine a_icmp_ltN (tgt := 55) hB dX6_acceptsDigit_36 (by decide) (by omega) (by omega) (fun c36 => ?_) (fun c36 => ?_)
    · refine a_iconstN (v := 1) hB dX6_acceptsDigit_55 (by decide) ?_
      refine a_goto (tgt := 60) hB dX6_acceptsDigit_56 (by decide) ?_
      exact a_zret hB hE rfl (by decide) dX6_acceptsDigit_60 (Nat.le_of_ble_eq_true rfl) (Nat.le_of_ble_eq_true rfl) (AKeep.of rfl) ⟨congrArg (fun x => some (Value.int (nI x))) (Eq.symm (by rw [e9]; first | exact if_pos (show S.2.1 + 1 < 6 ∨ S.2.1 + 1 = 6 ∧ ¬ _ = 0 by omega) | exact if_neg (show ¬ (S.2.1 + 1 < 6 ∨ S.2.1 + 1 = 6 ∧ ¬ _ = 0) by omega))), by show _ = wY G s (S.1, S.2.1 + 1, (syD S d).2.2); rw [e9]; rfl⟩
    · refine a_aload_n hB dX6_acceptsDigit_39 rfl ?_
      refine a_get (T := TX6) (ci := 6) hB dX6_acceptsDigit_40 1 fl_X6_15 lay_X6 rfl (by decide) rfl 0 rfl rfl ?_
      refine a_bipushN (v := 6) hB dX6_acceptsDigit_43 (by decide) ?_
      refine a_icmp_neN (tgt := 59) hB dX6_acceptsDigit_45 (by decide) (by omega) (by omega) (fun c45 => ?_) (fun c45 => ?_)
      · refine a_iconstN (v := 0) hB dX6_acceptsDigit_59 (by decide) ?_
        exact a_zret hB hE rfl (by decide) dX6_acceptsDigit_60 (Nat.le_of_ble_eq_true rfl) (Nat.le_of_ble_eq_true rfl) (AKeep.of rfl) ⟨congrArg (fun x => some (Value.int (nI x))) (Eq.symm (by rw [e9]; first | exact if_pos (show S.2.1 + 1 < 6 ∨ S.2.1 + 1 = 6 ∧ ¬ _ = 0 by omega) | exact if_neg (show ¬ (S.2.1 + 1 < 6 ∨ S.2.1 + 1 = 6 ∧ ¬ _ = 0) by omega))), by show _ = wY G s (S.1, S.2.1 + 1, (syD S d).2.2); rw [e9]; rfl⟩
      · refine a_aload_n hB dX6_acceptsDigit_48 rfl ?_
        refine a_get (T := TX6) (ci := 6) hB dX6_acceptsDigit_49 2 fl_X6_18 lay_X6 rfl (by decide) rfl 0 rfl rfl ?_
        refine a_if_eqN (tgt := 59) hB dX6_acceptsDigit_52 (by decide) (by omega) (fun c52 => ?_) (fun c52 => ?_)
        · refine a_iconstN (v := 0) hB dX6_acceptsDigit_59 (by decide) ?_
          exact a_zret hB hE rfl (by decide) dX6_acceptsDigit_60 (Nat.le_of_ble_eq_true rfl) (Nat.le_of_ble_eq_true rfl) (AKeep.of rfl) ⟨congrArg (fun x => some (Value.int (nI x))) (Eq.symm (by rw [e9]; first | exact if_pos (show S.2.1 + 1 < 6 ∨ S.2.1 + 1 = 6 ∧ ¬ _ = 0 by omega) | exact if_neg (show ¬ (S.2.1 + 1 < 6 ∨ S.2.1 + 1 = 6 ∧ ¬ _ = 0) by omega))), by show _ = wY G s (S.1, S.2.1 + 1, (syD S d).2.2); rw [e9]; rfl⟩
        · refine a_iconstN (v := 1) hB dX6_acceptsDigit_55 (by decide) ?_
          refine a_goto (tgt := 60) hB dX6_acceptsDigit_56 (by decide) ?_
          exact a_zret hB hE rfl (by decide) dX6_acceptsDigit_60 (Nat.le_of_ble_eq_true rfl) (Nat.le_of_ble_eq_true rfl) (AKeep.of rfl) ⟨congrArg (fun x => some (Value.int (nI x))) (Eq.symm (by rw [e9]; first | exact if_pos (show S.2.1 + 1 < 6 ∨ S.2.1 + 1 = 6 ∧ ¬ _ = 0 by omega) | exact if_neg (show ¬ (S.2.1 + 1 < 6 ∨ S.2.1 + 1 = 6 ∧ ¬ _ = 0) by omega))), by show _ = wY G s (S.1, S.2.1 + 1, (syD S d).2.2); rw [e9]; rfl⟩
  · refine a_iload_n hB dX6_acceptsDigit_18 rfl ?_
    refine a_if_leN (tgt := 26) hB dX6_acceptsDigit_19 (by decide) (by omega) (fun c19 => ?_) (fun c19 => ?_)
    · refine a_iconstN (v := 0) hB dX6_acceptsDigit_26 (by decide) ?_
      refine a_put (T := TX6) (ci := 6) hB dX6_acceptsDigit_27 2 fl_X6_18 lay_X6 tyX6 tyX6_ok nmX6 rfl (by decide) rfl rfl 0 rfl rfl (by decide) rfl (Nat.le_of_ble_eq_true rfl) ?_
      first | (have e9 : (syD S d).2.2 = 1 := if_neg (by omega)) | (have e9 : (syD S d).2.2 = 0 := if_pos (by omega))
      refine a_aload_n hB dX6_acceptsDigit_30 rfl ?_
      refine a_get (T := TX6) (ci := 6) hB dX6_acceptsDigit_31 1 fl_X6_15 lay_X6 rfl (by decide) rfl 0 rfl rfl ?_
      refine a_bipushN (v := 6) hB dX6_acceptsDigit_34 (by decide) ?_
      refine a_icmp_ltN (tgt := 55) hB dX6_acceptsDigit_36 (by decide) (by omega) (by omega) (fun c36 => ?_) (fun c36 => ?_)
      · refine a_iconstN (v := 1) hB dX6_acceptsDigit_55 (by decide) ?_
        refine a_goto (tgt := 60) hB dX6_acceptsDigit_56 (by decide) ?_
        exact a_zret hB hE rfl (by decide) dX6_acceptsDigit_60 (Nat.le_of_ble_eq_true rfl) (Nat.le_of_ble_eq_true rfl) (AKeep.of rfl) ⟨congrArg (fun x => some (Value.int (nI x))) (Eq.symm (by rw [e9]; first | exact if_pos (show S.2.1 + 1 < 6 ∨ S.2.1 + 1 = 6 ∧ ¬ _ = 0 by omega) | exact if_neg (show ¬ (S.2.1 + 1 < 6 ∨ S.2.1 + 1 = 6 ∧ ¬ _ = 0) by omega))), by show _ = wY G s (S.1, S.2.1 + 1, (syD S d).2.2); rw [e9]; rfl⟩
      · refine a_aload_n hB dX6_acceptsDigit_39 rfl ?_
        refine a_get (T := TX6) (ci := 6) hB dX6_acceptsDigit_40 1 fl_X6_15 lay_X6 rfl (by decide) rfl 0 rfl rfl ?_
        refine a_bipushN (v := 6) hB dX6_acceptsDigit_43 (by decide) ?_
        refine a_icmp_neN (tgt := 59) hB dX6_acceptsDigit_45 (by decide) (by omega) (by omega) (fun c45 => ?_) (fun c45 => ?_)
        · refine a_iconstN (v := 0) hB dX6_acceptsDigit_59 (by decide) ?_
          exact a_zret hB hE rfl (by decide) dX6_acceptsDigit_60 (Nat.le_of_ble_eq_true rfl) (Nat.le_of_ble_eq_true rfl) (AKeep.of rfl) ⟨congrArg (fun x => some (Value.int (nI x))) (Eq.symm (by rw [e9]; first | exact if_pos (show S.2.1 + 1 < 6 ∨ S.2.1 + 1 = 6 ∧ ¬ _ = 0 by omega) | exact if_neg (show ¬ (S.2.1 + 1 < 6 ∨ S.2.1 + 1 = 6 ∧ ¬ _ = 0) by omega))), by show _ = wY G s (S.1, S.2.1 + 1, (syD S d).2.2); rw [e9]; rfl⟩
        · refine a_aload_n hB dX6_acceptsDigit_48 rfl ?_
          refine a_get (T := TX6) (ci := 6) hB dX6_acceptsDigit_49 2 fl_X6_18 lay_X6 rfl (by decide) rfl 0 rfl rfl ?_
          refine a_if_eqN (tgt := 59) hB dX6_acceptsDigit_52 (by decide) (by omega) (fun c52 => ?_) (fun c52 => ?_)
          · refine a_iconstN (v := 0) hB dX6_acceptsDigit_59 (by decide) ?_
            exact a_zret hB hE rfl (by decide) dX6_acceptsDigit_60 (Nat.le_of_ble_eq_true rfl) (Nat.le_of_ble_eq_true rfl) (AKeep.of rfl) ⟨congrArg (fun x => some (Value.int (nI x))) (Eq.symm (by rw [e9]; first | exact if_pos (show S.2.1 + 1 < 6 ∨ S.2.1 + 1 = 6 ∧ ¬ _ = 0 by omega) | exact if_neg (show ¬ (S.2.1 + 1 < 6 ∨ S.2.1 + 1 = 6 ∧ ¬ _ = 0) by omega))), by show _ = wY G s (S.1, S.2.1 + 1, (syD S d).2.2); rw [e9]; rfl⟩
          · refine a_iconstN (v := 1) hB dX6_acceptsDigit_55 (by decide) ?_
            refine a_goto (tgt := 60) hB dX6_acceptsDigit_56 (by decide) ?_
            exact a_zret hB hE rfl (by decide) dX6_acceptsDigit_60 (Nat.le_of_ble_eq_true rfl) (Nat.le_of_ble_eq_true rfl) (AKeep.of rfl) ⟨congrArg (fun x => some (Value.int (nI x))) (Eq.symm (by rw [e9]; first | exact if_pos (show S.2.1 + 1 < 6 ∨ S.2.1 + 1 = 6 ∧ ¬ _ = 0 by omega) | exact if_neg (show ¬ (S.2.1 + 1 < 6 ∨ S.2.1 + 1 = 6 ∧ ¬ _ = 0) by omega))), by show _ = wY G s (S.1, S.2.1 + 1, (syD S d).2.2); rw [e9]; rfl⟩
    · refine a_iconstN (v := 1) hB dX6_acceptsDigit_22 (by decide) ?_
      refine a_goto (tgt := 27) hB dX6_acceptsDigit_23 (by decide) ?_
      refine a_put (T := TX6) (ci := 6) hB dX6_acceptsDigit_27 2 fl_X6_18 lay_X6 tyX6 tyX6_ok nmX6 rfl (by decide) rfl rfl 0 rfl rfl (by decide) rfl (Nat.le_of_ble_eq_true rfl) ?_
      first | (have e9 : (syD S d).2.2 = 1 := if_neg (by omega)) | (have e9 : (syD S d).2.2 = 0 := if_pos (by omega))
      refine a_aload_n hB dX6_acceptsDigit_30 rfl ?_
      refine a_get (T := TX6) (ci := 6) hB dX6_acceptsDigit_31 1 fl_X6_15 lay_X6 rfl (by decide) rfl 0 rfl rfl ?_
      refine a_bipushN (v := 6) hB dX6_acceptsDigit_34 (by decide) ?_
      refine a_icmp_ltN (tgt := 55) hB dX6_acceptsDigit_36 (by decide) (by omega) (by omega) (fun c36 => ?_) (fun c36 => ?_)
      · refine a_iconstN (v := 1) hB dX6_acceptsDigit_55 (by decide) ?_
        refine a_goto (tgt := 60) hB dX6_acceptsDigit_56 (by decide) ?_
        exact a_zret hB hE rfl (by decide) dX6_acceptsDigit_60 (Nat.le_of_ble_eq_true rfl) (Nat.le_of_ble_eq_true rfl) (AKeep.of rfl) ⟨congrArg (fun x => some (Value.int (nI x))) (Eq.symm (by rw [e9]; first | exact if_pos (show S.2.1 + 1 < 6 ∨ S.2.1 + 1 = 6 ∧ ¬ _ = 0 by omega) | exact if_neg (show ¬ (S.2.1 + 1 < 6 ∨ S.2.1 + 1 = 6 ∧ ¬ _ = 0) by omega))), by show _ = wY G s (S.1, S.2.1 + 1, (syD S d).2.2); rw [e9]; rfl⟩
      · refine a_aload_n hB dX6_acceptsDigit_39 rfl ?_
        refine a_get (T := TX6) (ci := 6) hB dX6_acceptsDigit_40 1 fl_X6_15 lay_X6 rfl (by decide) rfl 0 rfl rfl ?_
        refine a_bipushN (v := 6) hB dX6_acceptsDigit_43 (by decide) ?_
        refine a_icmp_neN (tgt := 59) hB dX6_acceptsDigit_45 (by decide) (by omega) (by omega) (fun c45 => ?_) (fun c45 => ?_)
        · refine a_iconstN (v := 0) hB dX6_acceptsDigit_59 (by decide) ?_
          exact a_zret hB hE rfl (by decide) dX6_acceptsDigit_60 (Nat.le_of_ble_eq_true rfl) (Nat.le_of_ble_eq_true rfl) (AKeep.of rfl) ⟨congrArg (fun x => some (Value.int (nI x))) (Eq.symm (by rw [e9]; first | exact if_pos (show S.2.1 + 1 < 6 ∨ S.2.1 + 1 = 6 ∧ ¬ _ = 0 by omega) | exact if_neg (show ¬ (S.2.1 + 1 < 6 ∨ S.2.1 + 1 = 6 ∧ ¬ _ = 0) by omega))), by show _ = wY G s (S.1, S.2.1 + 1, (syD S d).2.2); rw [e9]; rfl⟩
        · refine a_aload_n hB dX6_acceptsDigit_48 rfl ?_
          refine a_get (T := TX6) (ci := 6) hB dX6_acceptsDigit_49 2 fl_X6_18 lay_X6 rfl (by decide) rfl 0 rfl rfl ?_
          refine a_if_eqN (tgt := 59) hB dX6_acceptsDigit_52 (by decide) (by omega) (fun c52 => ?_) (fun c52 => ?_)
          · refine a_iconstN (v := 0) hB dX6_acceptsDigit_59 (by decide) ?_
            exact a_zret hB hE rfl (by decide) dX6_acceptsDigit_60 (Nat.le_of_ble_eq_true rfl) (Nat.le_of_ble_eq_true rfl) (AKeep.of rfl) ⟨congrArg (fun x => some (Value.int (nI x))) (Eq.symm (by rw [e9]; first | exact if_pos (show S.2.1 + 1 < 6 ∨ S.2.1 + 1 = 6 ∧ ¬ _ = 0 by omega) | exact if_neg (show ¬ (S.2.1 + 1 < 6 ∨ S.2.1 + 1 = 6 ∧ ¬ _ = 0) by omega))), by show _ = wY G s (S.1, S.2.1 + 1, (syD S d).2.2); rw [e9]; rfl⟩
          · refine a_iconstN (v := 1) hB dX6_acceptsDigit_55 (by decide) ?_
            refine a_goto (tgt := 60) hB dX6_acceptsDigit_56 (by decide) ?_
            exact a_zret hB hE rfl (by decide) dX6_acceptsDigit_60 (Nat.le_of_ble_eq_true rfl) (Nat.le_of_ble_eq_true rfl) (AKeep.of rfl) ⟨congrArg (fun x => some (Value.int (nI x))) (Eq.symm (by rw [e9]; first | exact if_pos (show S.2.1 + 1 < 6 ∨ S.2.1 + 1 = 6 ∧ ¬ _ = 0 by omega) | exact if_neg (show ¬ (S.2.1 + 1 < 6 ∨ S.2.1 + 1 = 6 ∧ ¬ _ = 0) by omega))), by show _ = wY G s (S.1, S.2.1 + 1, (syD S d).2.2); rw [e9]; rfl⟩
