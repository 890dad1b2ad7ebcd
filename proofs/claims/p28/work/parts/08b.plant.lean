set_option maxHeartbeats 4000000 in
set_option maxRecDepth 100000 in
theorem c_X4_init {G : GP} {p : Nat} : AM G sX4_init 6 87 [.ref p] [(p, ob 4 [.null, .null, .null, .int 0, .int 0, .int 0])] (fun v w => v = none ∧ ∃ pa : Nat → Nat, pa 0 = p ∧ w = wP G pa PV0) := by
  refine AM.of (σ := sX4_init) (by decide +kernel) (by decide +kernel) (Nat.le_of_ble_eq_true rfl) (fun B hB hR hE0 hN => ?_)
  have hE := BE.of hE0
  have hN : B.meth.name = "<init>" := hN
  refine a_aload_n hB dX4_init_0 rfl ?_
  refine a_objInit hB ml_X4_3 dX4_init_1 (roomF hR (Nat.le_of_ble_eq_true rfl)) (room12 hR (Nat.le_of_ble_eq_true rfl)) ?_
  refine a_aload_n hB dX4_init_4 rfl ?_
  refine a_new (T := TX7) (ci := 7) (fs := [.null]) hB dX4_init_5 cl_X4_9 lay_X7 tyX7 tyX7_ok is_X7 in_X7 rfl (fun j hj => by rcases (show j = 0 by omega) with rfl <;> rfl) (roomc hR (Nat.le_of_ble_eq_true rfl)) (rooms hR (Nat.le_of_ble_eq_true rfl)) (fun q1 => ?_)
  refine a_dup hB dX4_init_8 rfl ?_
  refine a_callIN hB (c_X7_init) rfl mk_X7_init (by decide +kernel) dX4_init_9 rfl rfl [1] rfl (by decide) (fit_of hR (by decide)) (Nat.le_of_ble_eq_true rfl) (fun v9 w9 hq9 hk9 => ?_)
  obtain ⟨rfl, a9, rfl⟩ := hq9
  refine a_putF (T := TX4) (ci := 4) hB hN dX4_init_12 0 fl_X4_12 lay_X4 tyX4 tyX4_ok nmX4 rfl (by decide) rfl rfl rfl 0 rfl rfl rfl rfl (Nat.le_of_ble_eq_true rfl) ?_
  refine a_aload_n hB dX4_init_15 rfl ?_
  refine a_new (T := TX7) (ci := 7) (fs := [.null]) hB dX4_init_16 cl_X4_9 lay_X7 tyX7 tyX7_ok is_X7 in_X7 rfl (fun j hj => by rcases (show j = 0 by omega) with rfl <;> rfl) (roomc hR (Nat.le_of_ble_eq_true rfl)) (rooms hR (Nat.le_of_ble_eq_true rfl)) (fun q3 => ?_)
  refine a_dup hB dX4_init_19 rfl ?_
  refine a_callIN hB (c_X7_init) rfl mk_X7_init (by decide +kernel) dX4_init_20 rfl rfl [3] rfl (by decide) (fit_of hR (by decide)) (Nat.le_of_ble_eq_true rfl) (fun v20 w20 hq20 hk20 => ?_)
  obtain ⟨rfl, a20, rfl⟩ := hq20
  refine a_putF (T := TX4) (ci := 4) hB hN dX4_init_23 1 fl_X4_18 lay_X4 tyX4 tyX4_ok nmX4 rfl (by decide) rfl rfl rfl 0 rfl rfl rfl rfl (Nat.le_of_ble_eq_true rfl) ?_
  refine a_aload_n hB dX4_init_26 rfl ?_
  refine a_new (T := TX5) (ci := 5) (fs := [.null, .int 0, .int 0, .double 0, .double 0, .double 0, .double 0]) hB dX4_init_27 cl_X4_21 lay_X5 tyX5 tyX5_ok is_X5 in_X5 rfl (fun j hj => by rcases (show j = 0 ∨ j = 1 ∨ j = 2 ∨ j = 3 ∨ j = 4 ∨ j = 5 ∨ j = 6 by omega) with rfl | rfl | rfl | rfl | rfl | rfl | rfl <;> rfl) (roomc hR (Nat.le_of_ble_eq_true rfl)) (rooms hR (Nat.le_of_ble_eq_true rfl)) (fun q5 => ?_)
  refine a_dup hB dX4_init_30 rfl ?_
  refine a_callIN hB (c_X5_init) rfl mk_X5_init (by decide +kernel) dX4_init_31 rfl rfl [5] rfl (by decide) (fit_of hR (by decide)) (Nat.le_of_ble_eq_true rfl) (fun v31 w31 hq31 hk31 => ?_)
  obtain ⟨rfl, a31, rfl⟩ := hq31
  refine a_putF (T := TX4) (ci := 4) hB hN dX4_init_34 2 fl_X4_24 lay_X4 tyX4 tyX4_ok nmX4 rfl (by decide) rfl rfl rfl 0 rfl rfl rfl rfl (Nat.le_of_ble_eq_true rfl) ?_
  refine a_aload_n hB dX4_init_37 rfl ?_
  refine a_iconstN (v := 0) hB dX4_init_38 (by decide) ?_
  refine a_put (T := TX4) (ci := 4) hB dX4_init_39 3 fl_X4_28 lay_X4 tyX4 tyX4_ok nmX4 rfl (by decide) rfl rfl 0 rfl rfl rfl rfl (Nat.le_of_ble_eq_true rfl) ?_
  refine a_aload_n hB dX4_init_42 rfl ?_
  refine a_bipushN (v := 10) hB dX4_init_43 (by decide) ?_
  refine a_put (T := TX4) (ci := 4) hB dX4_init_45 4 fl_X4_32 lay_X4 tyX4 tyX4_ok nmX4 rfl (by decide) rfl rfl 0 rfl rfl rfl rfl (Nat.le_of_ble_eq_true rfl) ?_
  refine a_aload_n hB dX4_init_48 rfl ?_
  refine a_iconstN (v := 1) hB dX4_init_49 (by decide) ?_
  refine a_put (T := TX4) (ci := 4) hB dX4_init_50 5 fl_X4_35 lay_X4 tyX4 tyX4_ok nmX4 rfl (by decide) rfl rfl 0 rfl rfl rfl rfl (Nat.le_of_ble_eq_true rfl) ?_
  exact a_vret hB hE rfl dX4_init_53 (Nat.le_of_ble_eq_true rfl) (Nat.le_of_ble_eq_true rfl) (AKeep.of rfl) ⟨rfl, (fun i => [p, q1, a9, q3, a20, q5, a31].getD i 0), rfl, rfl⟩
set_option maxHeartbeats 4000000 in
set_option maxRecDepth 100000 in
theorem c_X4_addEmptyPart {G : GP} {pa : Nat → Nat} {P : PV} : AMd G sX4_addEmptyPart [.ref (pa 0)] (wP G pa P) (some (.int (nI P.parts))) (wP G pa P.addE) := by
  refine AM.of (σ := sX4_addEmptyPart) (by decide +kernel) (by decide +kernel) (Nat.le_of_ble_eq_true rfl) (fun B hB hR hE0 hN => ?_)
  have hE := BE.of hE0
  refine a_aload_n hB dX4_addEmptyPart_0 rfl ?_
  refine a_dup hB dX4_addEmptyPart_1 rfl ?_
  refine a_get (T := TX4) (ci := 4) hB dX4_addEmptyPart_2 3 fl_X4_28 lay_X4 rfl (by decide) rfl 0 rfl rfl ?_
  refine a_iconstN (v := 1) hB dX4_addEmptyPart_5 (by decide) ?_
  refine a_iaddN hB dX4_addEmptyPart_6 ?_
  refine a_put (T := TX4) (ci := 4) hB dX4_addEmptyPart_7 3 fl_X4_28 lay_X4 tyX4 tyX4_ok nmX4 rfl (by decide) rfl rfl 0 rfl rfl rfl rfl (Nat.le_of_ble_eq_true rfl) ?_
  refine a_aload_n hB dX4_addEmptyPart_10 rfl ?_
  refine a_get (T := TX4) (ci := 4) hB dX4_addEmptyPart_11 2 fl_X4_24 lay_X4 rfl (by decide) rfl 0 rfl rfl ?_
  refine a_callVd (q0 := 5) hB (c_X5_clear) mk_X5_clear ml_X4_38 dX4_addEmptyPart_14 rfl rfl [5, 6] rfl (by decide) rfl rfl (fit_of hR (by decide)) (Nat.le_of_ble_eq_true rfl) rfl ?_
  refine a_aload_n hB dX4_addEmptyPart_17 rfl ?_
  refine a_get (T := TX4) (ci := 4) hB dX4_addEmptyPart_18 3 fl_X4_28 lay_X4 rfl (by decide) rfl 0 rfl rfl ?_
  refine a_iconstN (v := 1) hB dX4_addEmptyPart_21 (by decide) ?_
  refine a_isubN hB dX4_addEmptyPart_22 (by omega) ?_
  exact a_iret hB hE rfl dX4_addEmptyPart_23 (Nat.le_of_ble_eq_true rfl) (Nat.le_of_ble_eq_true rfl) (AKeep.of rfl) ⟨rfl, rfl⟩
set_option maxHeartbeats 4000000 in
set_option maxRecDepth 100000 in
theorem c_X4_dropPart {G : GP} {pa : Nat → Nat} {P : PV} {p : Nat} (hp : p < 6) (h1 : 1 ≤ P.parts) : AMd G sX4_dropPart [.ref (pa 0), .int (nI p)] (wP G pa P) none (wP G pa (P.drop p)) := by
  refine AM.of (σ := sX4_dropPart) (by decide +kernel) (by decide +kernel) (Nat.le_of_ble_eq_true rfl) (fun B hB hR hE0 hN => ?_)
  have hE := BE.of hE0
  refine a_aload_n hB dX4_dropPart_0 rfl ?_
  refine a_get (T := TX4) (ci := 4) hB dX4_dropPart_1 0 fl_X4_12 lay_X4 rfl (by decide) rfl 0 rfl rfl ?_
  refine a_iload_n hB dX4_dropPart_4 rfl ?_
  refine a_callVd (q0 := 1) hB (c_X7_dropRow (by omega)) mk_X7_dropRow ml_X4_41 dX4_dropPart_5 rfl rfl [1, 2] rfl (by decide) rfl rfl (fit_of hR (by decide)) (Nat.le_of_ble_eq_true rfl) rfl ?_
  refine a_aload_n hB dX4_dropPart_8 rfl ?_
  refine a_get (T := TX4) (ci := 4) hB dX4_dropPart_9 1 fl_X4_18 lay_X4 rfl (by decide) rfl 0 rfl rfl ?_
  refine a_iload_n hB dX4_dropPart_12 rfl ?_
  refine a_callVd (q0 := 3) hB (c_X7_dropRow (by omega)) mk_X7_dropRow ml_X4_41 dX4_dropPart_13 rfl rfl [3, 4] rfl (by decide) rfl rfl (fit_of hR (by decide)) (Nat.le_of_ble_eq_true rfl) rfl ?_
  refine a_aload_n hB dX4_dropPart_16 rfl ?_
  refine a_dup hB dX4_dropPart_17 rfl ?_
  refine a_get (T := TX4) (ci := 4) hB dX4_dropPart_18 3 fl_X4_28 lay_X4 rfl (by decide) rfl 0 rfl rfl ?_
  refine a_iconstN (v := 1) hB dX4_dropPart_21 (by decide) ?_
  refine a_isubN hB dX4_dropPart_22 (by omega) ?_
  refine a_put (T := TX4) (ci := 4) hB dX4_dropPart_23 3 fl_X4_28 lay_X4 tyX4 tyX4_ok nmX4 rfl (by decide) rfl rfl 0 rfl rfl rfl rfl (Nat.le_of_ble_eq_true rfl) ?_
  refine a_aload_n hB dX4_dropPart_26 rfl ?_
  refine a_get (T := TX4) (ci := 4) hB dX4_dropPart_27 2 fl_X4_24 lay_X4 rfl (by decide) rfl 0 rfl rfl ?_
  refine a_callVd (q0 := 5) hB (c_X5_clear) mk_X5_clear ml_X4_38 dX4_dropPart_30 rfl rfl [5, 6] rfl (by decide) rfl rfl (fit_of hR (by decide)) (Nat.le_of_ble_eq_true rfl) rfl ?_
  exact a_vret hB hE rfl dX4_dropPart_33 (Nat.le_of_ble_eq_true rfl) (Nat.le_of_ble_eq_true rfl) (AKeep.of rfl) ⟨rfl, rfl⟩
set_option maxHeartbeats 4000000 in
set_option maxRecDepth 100000 in
theorem c_X4_setBothWeights {G : GP} {pa : Nat → Nat} {P : PV} {p l v : Nat} (hp : p < 6) (hl : l < 6) : AMd G sX4_setBothWeights [.ref (pa 0), .int (nI p), .int (nI l), .int (nI v)] (wP G pa P) none (wP G pa (P.both p l v)) := by
  refine AM.of (σ := sX4_setBothWeights) (by decide +kernel) (by decide +kernel) (Nat.le_of_ble_eq_true rfl) (fun B hB hR hE0 hN => ?_)
  have hE := BE.of hE0
  refine a_aload_n hB dX4_setBothWeights_0 rfl ?_
  refine a_get (T := TX4) (ci := 4) hB dX4_setBothWeights_1 0 fl_X4_12 lay_X4 rfl (by decide) rfl 0 rfl rfl ?_
  refine a_iload_n hB dX4_setBothWeights_4 rfl ?_
  refine a_iload_n hB dX4_setBothWeights_5 rfl ?_
  refine a_iload_n hB dX4_setBothWeights_6 rfl ?_
  refine a_callVd (q0 := 1) hB (c_X7_set (by omega) (by omega)) mk_X7_set ml_X4_45 dX4_setBothWeights_7 rfl rfl [1, 2] rfl (by decide) rfl rfl (fit_of hR (by decide)) (Nat.le_of_ble_eq_true rfl) rfl ?_
  refine a_aload_n hB dX4_setBothWeights_10 rfl ?_
  refine a_get (T := TX4) (ci := 4) hB dX4_setBothWeights_11 1 fl_X4_18 lay_X4 rfl (by decide) rfl 0 rfl rfl ?_
  refine a_iload_n hB dX4_setBothWeights_14 rfl ?_
  refine a_iload_n hB dX4_setBothWeights_15 rfl ?_
  refine a_iload_n hB dX4_setBothWeights_16 rfl ?_
  refine a_callVd (q0 := 3) hB (c_X7_set (by omega) (by omega)) mk_X7_set ml_X4_45 dX4_setBothWeights_17 rfl rfl [3, 4] rfl (by decide) rfl rfl (fit_of hR (by decide)) (Nat.le_of_ble_eq_true rfl) rfl ?_
  exact a_vret hB hE rfl dX4_setBothWeights_20 (Nat.le_of_ble_eq_true rfl) (Nat.le_of_ble_eq_true rfl) (AKeep.of rfl) ⟨rfl, rfl⟩
set_option maxHeartbeats 4000000 in
set_option maxRecDepth 100000 in
theorem c_X4_setWeight {G : GP} {pa : Nat → Nat} {P : PV} {p l v : Nat} (hp : p < 6) (hl : l < 6) (hv : v ≤ 9) (hw : ∀ j, P.wt j ≤ 9) : AMd G sX4_setWeight [.ref (pa 0), .int (nI p), .int (nI l), .int (nI v)] (wP G pa P) none (wP G pa (P.setW p l v)) := by
  refine AM.of (σ := sX4_setWeight) (by decide +kernel) (by decide +kernel) (Nat.le_of_ble_eq_true rfl) (fun B hB hR hE0 hN => ?_)
  have hE := BE.of hE0
  have hg := gt_lt hw p l
  refine a_iload_n hB dX4_setWeight_0 rfl ?_
  refine a_if_eqN (tgt := 16) hB dX4_setWeight_1 (by decide) (by omega) (fun c1 => ?_) (fun c1 => ?_)
  · refine a_aload_n hB dX4_setWeight_16 rfl ?_
    refine a_get (T := TX4) (ci := 4) hB dX4_setWeight_17 1 fl_X4_18 lay_X4 rfl (by decide) rfl 0 rfl rfl ?_
    refine a_iload_n hB dX4_setWeight_20 rfl ?_
    refine a_iload_n hB dX4_setWeight_21 rfl ?_
    refine a_iload_n hB dX4_setWeight_22 rfl ?_
    refine a_callVd (q0 := 3) hB (c_X7_set (by omega) (by omega)) mk_X7_set ml_X4_45 dX4_setWeight_23 rfl rfl [3, 4] rfl (by decide) rfl rfl (fit_of hR (by decide)) (Nat.le_of_ble_eq_true rfl) rfl ?_
    refine a_aload_n hB dX4_setWeight_26 rfl ?_
    refine a_get (T := TX4) (ci := 4) hB dX4_setWeight_27 0 fl_X4_12 lay_X4 rfl (by decide) rfl 0 rfl rfl ?_
    refine a_iload_n hB dX4_setWeight_30 rfl ?_
    refine a_iload_n hB dX4_setWeight_31 rfl ?_
    refine a_iload_n hB dX4_setWeight_32 rfl ?_
    refine a_callVd (q0 := 1) hB (c_X7_set (by omega) (by omega)) mk_X7_set ml_X4_45 dX4_setWeight_33 rfl rfl [1, 2] rfl (by decide) rfl rfl (fit_of hR (by decide)) (Nat.le_of_ble_eq_true rfl) rfl ?_
    refine a_aload_n hB dX4_setWeight_36 rfl ?_
    refine a_get (T := TX4) (ci := 4) hB dX4_setWeight_37 2 fl_X4_24 lay_X4 rfl (by decide) rfl 0 rfl rfl ?_
    refine a_callVd (q0 := 5) hB (c_X5_clear) mk_X5_clear ml_X4_38 dX4_setWeight_40 rfl rfl [5, 6] rfl (by decide) rfl rfl (fit_of hR (by decide)) (Nat.le_of_ble_eq_true rfl) rfl ?_
    exact a_vret hB hE rfl dX4_setWeight_43 (Nat.le_of_ble_eq_true rfl) (Nat.le_of_ble_eq_true rfl) (AKeep.of rfl) ⟨rfl, by first | (unfold PV.setW; rw [if_pos (Or.inl c1)]; rfl) | (unfold PV.setW; rw [if_pos (Or.inr c13)]; rfl) | (unfold PV.setW; rw [if_neg (by omega)]; rfl)⟩
  · refine a_aload_n hB dX4_setWeight_4 rfl ?_
    refine a_get (T := TX4) (ci := 4) hB dX4_setWeight_5 0 fl_X4_12 lay_X4 rfl (by decide) rfl 0 rfl rfl ?_
    refine a_iload_n hB dX4_setWeight_8 rfl ?_
    refine a_iload_n hB dX4_setWeight_9 rfl ?_
    refine a_callVr (q0 := 1) hB (c_X7_get (by omega) (by omega)) mk_X7_get ml_X4_49 dX4_setWeight_10 rfl rfl [1, 2] rfl (by decide) rfl rfl (fit_of hR (by decide)) (Nat.le_of_ble_eq_true rfl) ?_
    refine a_if_neN (tgt := 26) hB dX4_setWeight_13 (by decide) (by omega) (fun c13 => ?_) (fun c13 => ?_)
    · refine a_aload_n hB dX4_setWeight_26 rfl ?_
      refine a_get (T := TX4) (ci := 4) hB dX4_setWeight_27 0 fl_X4_12 lay_X4 rfl (by decide) rfl 0 rfl rfl ?_
      refine a_iload_n hB dX4_setWeight_30 rfl ?_
      refine a_iload_n hB dX4_setWeight_31 rfl ?_
      refine a_iload_n hB dX4_setWeight_32 rfl ?_
      refine a_callVd (q0 := 1) hB (c_X7_set (by omega) (by omega)) mk_X7_set ml_X4_45 dX4_setWeight_33 rfl rfl [1, 2] rfl (by decide) rfl rfl (fit_of hR (by decide)) (Nat.le_of_ble_eq_true rfl) rfl ?_
      refine a_aload_n hB dX4_setWeight_36 rfl ?_
      refine a_get (T := TX4) (ci := 4) hB dX4_setWeight_37 2 fl_X4_24 lay_X4 rfl (by decide) rfl 0 rfl rfl ?_
      refine a_callVd (q0 := 5) hB (c_X5_clear) mk_X5_clear ml_X4_38 dX4_setWeight_40 rfl rfl [5, 6] rfl (by decide) rfl rfl (fit_of hR (by decide)) (Nat.le_of_ble_eq_true rfl) rfl ?_
      exact a_vret hB hE rfl dX4_setWeight_43 (Nat.le_of_ble_eq_true rfl) (Nat.le_of_ble_eq_true rfl) (AKeep.of rfl) ⟨rfl, by first | (unfold PV.setW; rw [if_pos (Or.inl c1)]; rfl) | (unfold PV.setW; rw [if_pos (Or.inr c13)]; rfl) | (unfold PV.setW; rw [if_neg (by omega)]; rfl)⟩
    · refine a_aload_n hB dX4_setWeight_16 rfl ?_
      refine a_get (T := TX4) (ci := 4) hB dX4_setWeight_17 1 fl_X4_18 lay_X4 rfl (by decide) rfl 0 rfl rfl ?_
      refine a_iload_n hB dX4_setWeight_20 rfl ?_
      refine a_iload_n hB dX4_setWeight_21 rfl ?_
      refine a_iload_n hB dX4_setWeight_22 rfl ?_
      refine a_callVd (q0 := 3) hB (c_X7_set (by omega) (by omega)) mk_X7_set ml_X4_45 dX4_setWeight_23 rfl rfl [3, 4] rfl (by decide) rfl rfl (fit_of hR (by decide)) (Nat.le_of_ble_eq_true rfl) rfl ?_
      refine a_aload_n hB dX4_setWeight_26 rfl ?_
      refine a_get (T := TX4) (ci := 4) hB dX4_setWeight_27 0 fl_X4_12 lay_X4 rfl (by decide) rfl 0 rfl rfl ?_
      refine a_iload_n hB dX4_setWeight_30 rfl ?_
      refine a_iload_n hB dX4_setWeight_31 rfl ?_
      refine a_iload_n hB dX4_setWeight_32 rfl ?_
      refine a_callVd (q0 := 1) hB (c_X7_set (by omega) (by omega)) mk_X7_set ml_X4_45 dX4_setWeight_33 rfl rfl [1, 2] rfl (by decide) rfl rfl (fit_of hR (by decide)) (Nat.le_of_ble_eq_true rfl) rfl ?_
      refine a_aload_n hB dX4_setWeight_36 rfl ?_
      refine a_get (T := TX4) (ci := 4) hB dX4_setWeight_37 2 fl_X4_24 lay_X4 rfl (by decide) rfl 0 rfl rfl ?_
      refine a_callVd (q0 := 5) hB (c_X5_clear) mk_X5_clear ml_X4_38 dX4_setWeight_40 rfl rfl [5, 6] rfl (by decide) rfl rfl (fit_of hR (by decide)) (Nat.le_of_ble_eq_true rfl) rfl ?_
      exact a_vret hB hE rfl dX4_setWeight_43 (Nat.le_of_ble_eq_true rfl) (Nat.le_of_ble_eq_true rfl) (AKeep.of rfl) ⟨rfl, by first | (unfold PV.setW; rw [if_pos (Or.inl c1)]; rfl) | (unfold PV.setW; rw [if_pos (Or.inr c13)]; rfl) | (unfold PV.setW; rw [if_neg (by omega)]; rfl)⟩
set_option maxHeartbeats 4000000 in
set_option maxRecDepth 100000 in
theorem c_X4_setTilted {G : GP} {pa : Nat → Nat} {P : PV} {p l v : Nat} (hp : p < 6) (hl : l < 6) : AMd G sX4_setTilted [.ref (pa 0), .int (nI p), .int (nI l), .int (nI v)] (wP G pa P) none (wP G pa (P.setT p l v)) := by
  refine AM.of (σ := sX4_setTilted) (by decide +kernel) (by decide +kernel) (Nat.le_of_ble_eq_true rfl) (fun B hB hR hE0 hN => ?_)
  have hE := BE.of hE0
  refine a_aload_n hB dX4_setTilted_0 rfl ?_
  refine a_get (T := TX4) (ci := 4) hB dX4_setTilted_1 1 fl_X4_18 lay_X4 rfl (by decide) rfl 0 rfl rfl ?_
  refine a_iload_n hB dX4_setTilted_4 rfl ?_
  refine a_iload_n hB dX4_setTilted_5 rfl ?_
  refine a_iload_n hB dX4_setTilted_6 rfl ?_
  refine a_callVd (q0 := 3) hB (c_X7_set (by omega) (by omega)) mk_X7_set ml_X4_45 dX4_setTilted_7 rfl rfl [3, 4] rfl (by decide) rfl rfl (fit_of hR (by decide)) (Nat.le_of_ble_eq_true rfl) rfl ?_
  refine a_aload_n hB dX4_setTilted_10 rfl ?_
  refine a_get (T := TX4) (ci := 4) hB dX4_setTilted_11 2 fl_X4_24 lay_X4 rfl (by decide) rfl 0 rfl rfl ?_
  refine a_callVd (q0 := 5) hB (c_X5_clear) mk_X5_clear ml_X4_38 dX4_setTilted_14 rfl rfl [5, 6] rfl (by decide) rfl rfl (fit_of hR (by decide)) (Nat.le_of_ble_eq_true rfl) rfl ?_
  exact a_vret hB hE rfl dX4_setTilted_17 (Nat.le_of_ble_eq_true rfl) (Nat.le_of_ble_eq_true rfl) (AKeep.of rfl) ⟨rfl, rfl⟩
set_option maxHeartbeats 4000000 in
set_option maxRecDepth 100000 in
theorem c_X4_tiltBy {G : GP} {pa : Nat → Nat} {P : PV} {b : Nat} (hp : P.parts ≤ 6) (hb : b ≤ 9) (hw : ∀ j, P.wt j ≤ 9) : AMd G sX4_tiltBy [.ref (pa 0), .int (nI b)] (wP G pa P) none (wP G pa (P.tiltBy b)) := by
  refine AM.of (σ := sX4_tiltBy) (by decide +kernel) (by decide +kernel) (Nat.le_of_ble_eq_true rfl) (fun B hB hR hE0 hN => ?_)
  have hE := BE.of hE0
  refine a_iconstN (v := 0) hB dX4_tiltBy_0 (by decide) ?_
  refine a_istore_n hB dX4_tiltBy_1 (by decide) ?_
  have lp2 : ∀ (j2 i : Nat), i + j2 = P.parts → aW G sX4_tiltBy B 2 [(0, .ref (pa 0)), (1, .int (nI b)), (2, .int (nI i))] [] (wP G pa (mkP P.wt (tbR P.wt b P.tl i) P.sv P.parts P.limit P.seed)) 0 0 := by
    intro j2
    induction j2 with
    | zero =>
      intro i hi
      refine a_iload_n hB dX4_tiltBy_2 rfl ?_
      refine a_aload_n hB dX4_tiltBy_3 rfl ?_
      refine a_get (T := TX4) (ci := 4) hB dX4_tiltBy_4 3 fl_X4_28 lay_X4 rfl (by decide) rfl 0 rfl rfl ?_
      refine a_icmp_geN_t (tgt := 63) hB dX4_tiltBy_7 (by decide) (by omega) (by show P.parts < _; omega) (by show P.parts ≤ i; omega) ?_
      refine a_aload_n hB dX4_tiltBy_63 rfl ?_
      refine a_get (T := TX4) (ci := 4) hB dX4_tiltBy_64 2 fl_X4_24 lay_X4 rfl (by decide) rfl 0 rfl rfl ?_
      refine a_callVd (q0 := 5) hB (c_X5_clear) mk_X5_clear ml_X4_38 dX4_tiltBy_67 rfl rfl [5, 6] rfl (by decide) rfl rfl (fit_of hR (by decide)) (Nat.le_of_ble_eq_true rfl) rfl ?_
      exact a_vret hB hE rfl dX4_tiltBy_70 (Nat.le_of_ble_eq_true rfl) (Nat.le_of_ble_eq_true rfl) (AKeep.of rfl) ⟨rfl, by rw [show i = P.parts by omega]; rfl⟩
    | succ j2 ih2 =>
      intro i hi
      refine a_iload_n hB dX4_tiltBy_2 rfl ?_
      refine a_aload_n hB dX4_tiltBy_3 rfl ?_
      refine a_get (T := TX4) (ci := 4) hB dX4_tiltBy_4 3 fl_X4_28 lay_X4 rfl (by decide) rfl 0 rfl rfl ?_
      refine a_icmp_geN_f (tgt := 63) hB dX4_tiltBy_7 (by decide) (by omega) (by show P.parts < _; omega) (by show ¬ P.parts ≤ i; omega) ?_
      refine a_iconstN (v := 0) hB dX4_tiltBy_10 (by decide) ?_
      refine a_istore_n hB dX4_tiltBy_11 (by decide) ?_
      have lp12 : ∀ (j12 u : Nat), u + j12 = 6 → aW G sX4_tiltBy B 12 [(0, .ref (pa 0)), (1, .int (nI b)), (2, .int (nI i)), (3, .int (nI u))] [] (wP G pa (mkP P.wt (tbL P.wt b (tbR P.wt b P.tl i) i u) P.sv P.parts P.limit P.seed)) 0 0 := by
        intro j12
        induction j12 with
        | zero =>
          intro u hi
          refine a_iload_n hB dX4_tiltBy_12 rfl ?_
          refine a_bipushN (v := 6) hB dX4_tiltBy_13 (by decide) ?_
          refine a_icmp_geN_t (tgt := 57) hB dX4_tiltBy_15 (by decide) (by omega) (by omega) (by omega) ?_
          refine a_iincN (b := 1) hB dX4_tiltBy_57 rfl (by decide) (by decide) ?_
          refine a_goto (tgt := 2) hB dX4_tiltBy_60 (by decide) ?_
          exact aW_at [0, 1, 2] rfl rfl (by rw [show u = 6 by omega]; rfl) (ih2 (i + 1) (by omega))
        | succ j12 ih12 =>
          intro u hi
          refine a_iload_n hB dX4_tiltBy_12 rfl ?_
          refine a_bipushN (v := 6) hB dX4_tiltBy_13 (by decide) ?_
          refine a_icmp_geN_f (tgt := 57) hB dX4_tiltBy_15 (by decide) (by omega) (by omega) (by omega) ?_
          have hg := gt_lt hw i u
          have hm : gt P.wt i u * (1 + u * b) ≤ 9 * (1 + 6 * 9) := Nat.mul_le_mul hg (Nat.add_le_add_left (Nat.mul_le_mul (by omega) hb) 1)
          refine a_aload_n hB dX4_tiltBy_18 rfl ?_
          refine a_get (T := TX4) (ci := 4) hB dX4_tiltBy_19 0 fl_X4_12 lay_X4 rfl (by decide) rfl 0 rfl rfl ?_
          refine a_iload_n hB dX4_tiltBy_22 rfl ?_
          refine a_iload_n hB dX4_tiltBy_23 rfl ?_
          refine a_callVr (q0 := 1) hB (c_X7_get (by omega) (by omega)) mk_X7_get ml_X4_49 dX4_tiltBy_24 rfl rfl [1, 2] rfl (by decide) rfl rfl (fit_of hR (by decide)) (Nat.le_of_ble_eq_true rfl) ?_
          refine a_iconstN (v := 1) hB dX4_tiltBy_27 (by decide) ?_
          refine a_iload_n hB dX4_tiltBy_28 rfl ?_
          refine a_iload_n hB dX4_tiltBy_29 rfl ?_
          refine a_imulN hB dX4_tiltBy_30 ?_
          refine a_iaddN hB dX4_tiltBy_31 ?_
          refine a_imulN hB dX4_tiltBy_32 ?_
          refine a_istore hB dX4_tiltBy_33 (by decide) ?_
          refine a_aload_n hB dX4_tiltBy_35 rfl ?_
          refine a_get (T := TX4) (ci := 4) hB dX4_tiltBy_36 1 fl_X4_18 lay_X4 rfl (by decide) rfl 0 rfl rfl ?_
          refine a_iload_n hB dX4_tiltBy_39 rfl ?_
          refine a_iload_n hB dX4_tiltBy_40 rfl ?_
          refine a_iload hB dX4_tiltBy_41 rfl ?_
          refine a_bipushN (v := 99) hB dX4_tiltBy_43 (by decide) ?_
          refine a_minN hB ml_X4_53 dX4_tiltBy_45 (by show gt P.wt i u * (1 + u * b) < _; omega) (by omega) (roomF hR (Nat.le_of_ble_eq_true rfl)) (room13 hR (Nat.le_of_ble_eq_true rfl)) (roomc hR (Nat.le_of_ble_eq_true rfl)) (rooms hR (Nat.le_of_ble_eq_true rfl)) ?_
          refine a_callVd (q0 := 3) hB (c_X7_set (by omega) (by omega)) mk_X7_set ml_X4_45 dX4_tiltBy_48 rfl rfl [3, 4] rfl (by decide) rfl rfl (fit_of hR (by decide)) (Nat.le_of_ble_eq_true rfl) rfl ?_
          refine a_iincN (b := 1) hB dX4_tiltBy_51 rfl (by decide) (by decide) ?_
          refine a_goto (tgt := 12) hB dX4_tiltBy_54 (by decide) ?_
          exact aW_at [0, 1, 2, 3] rfl rfl rfl (ih12 (u + 1) (by omega))
      exact aW_at [0, 1, 2, 3] rfl rfl rfl (lp12 (6) 0 (by omega))
  exact aW_at [0, 1, 2] rfl rfl rfl (lp2 (P.parts) 0 (by omega))
set_option maxHeartbeats 4000000 in
set_option maxRecDepth 100000 in
theorem c_X4_setLimit {G : GP} {pa : Nat → Nat} {P : PV} {v : Nat} : AMd G sX4_setLimit [.ref (pa 0), .int (nI v)] (wP G pa P) none (wP G pa (P.setLim v)) := by
  refine AM.of (σ := sX4_setLimit) (by decide +kernel) (by decide +kernel) (Nat.le_of_ble_eq_true rfl) (fun B hB hR hE0 hN => ?_)
  have hE := BE.of hE0
  refine a_aload_n hB dX4_setLimit_0 rfl ?_
  refine a_iload_n hB dX4_setLimit_1 rfl ?_
  refine a_put (T := TX4) (ci := 4) hB dX4_setLimit_2 4 fl_X4_32 lay_X4 tyX4 tyX4_ok nmX4 rfl (by decide) rfl rfl 0 rfl rfl rfl rfl (Nat.le_of_ble_eq_true rfl) ?_
  refine a_aload_n hB dX4_setLimit_5 rfl ?_
  refine a_get (T := TX4) (ci := 4) hB dX4_setLimit_6 2 fl_X4_24 lay_X4 rfl (by decide) rfl 0 rfl rfl ?_
  refine a_callVd (q0 := 5) hB (c_X5_clear) mk_X5_clear ml_X4_38 dX4_setLimit_9 rfl rfl [5, 6] rfl (by decide) rfl rfl (fit_of hR (by decide)) (Nat.le_of_ble_eq_true rfl) rfl ?_
  exact a_vret hB hE rfl dX4_setLimit_12 (Nat.le_of_ble_eq_true rfl) (Nat.le_of_ble_eq_true rfl) (AKeep.of rfl) ⟨rfl, rfl⟩
set_option maxHeartbeats 4000000 in
set_option maxRecDepth 100000 in
theorem c_X4_sumOfTiltedTotals {G : GP} {pa : Nat → Nat} {P : PV} (hp : P.parts ≤ 6) : AMd G sX4_sumOfTiltedTotals [.ref (pa 0)] (wP G pa P) (some (.int (nI (sumN (tot P.tl) P.parts)))) (wP G pa P) := by
  refine AM.of (σ := sX4_sumOfTiltedTotals) (by decide +kernel) (by decide +kernel) (Nat.le_of_ble_eq_true rfl) (fun B hB hR hE0 hN => ?_)
  have hE := BE.of hE0
  refine a_iconstN (v := 0) hB dX4_sumOfTiltedTotals_0 (by decide) ?_
  refine a_istore_n hB dX4_sumOfTiltedTotals_1 (by decide) ?_
  refine a_iconstN (v := 0) hB dX4_sumOfTiltedTotals_2 (by decide) ?_
  refine a_istore_n hB dX4_sumOfTiltedTotals_3 (by decide) ?_
  have lp4 : ∀ (j4 i : Nat), i + j4 = P.parts → aW G sX4_sumOfTiltedTotals B 4 [(0, .ref (pa 0)), (1, .int (nI (sumN (tot P.tl) i))), (2, .int (nI i))] [] (wP G pa P) 0 0 := by
    intro j4
    induction j4 with
    | zero =>
      intro i hi
      refine a_iload_n hB dX4_sumOfTiltedTotals_4 rfl ?_
      refine a_aload_n hB dX4_sumOfTiltedTotals_5 rfl ?_
      refine a_get (T := TX4) (ci := 4) hB dX4_sumOfTiltedTotals_6 3 fl_X4_28 lay_X4 rfl (by decide) rfl 0 rfl rfl ?_
      refine a_icmp_geN_t (tgt := 29) hB dX4_sumOfTiltedTotals_9 (by decide) (by omega) (by omega) (by omega) ?_
      refine a_iload_n hB dX4_sumOfTiltedTotals_29 rfl ?_
      exact a_iret hB hE rfl dX4_sumOfTiltedTotals_30 (Nat.le_of_ble_eq_true rfl) (Nat.le_of_ble_eq_true rfl) (AKeep.of rfl) ⟨by rw [show i = P.parts by omega], rfl⟩
    | succ j4 ih4 =>
      intro i hi
      refine a_iload_n hB dX4_sumOfTiltedTotals_4 rfl ?_
      refine a_aload_n hB dX4_sumOfTiltedTotals_5 rfl ?_
      refine a_get (T := TX4) (ci := 4) hB dX4_sumOfTiltedTotals_6 3 fl_X4_28 lay_X4 rfl (by decide) rfl 0 rfl rfl ?_
      refine a_icmp_geN_f (tgt := 29) hB dX4_sumOfTiltedTotals_9 (by decide) (by omega) (by omega) (by omega) ?_
      refine a_iload_n hB dX4_sumOfTiltedTotals_12 rfl ?_
      refine a_aload_n hB dX4_sumOfTiltedTotals_13 rfl ?_
      refine a_get (T := TX4) (ci := 4) hB dX4_sumOfTiltedTotals_14 1 fl_X4_18 lay_X4 rfl (by decide) rfl 0 rfl rfl ?_
      refine a_iload_n hB dX4_sumOfTiltedTotals_17 rfl ?_
      refine a_callVr (q0 := 3) hB (c_X7_totalOf (by omega)) mk_X7_totalOf ml_X4_58 dX4_sumOfTiltedTotals_18 rfl rfl [3, 4] rfl (by decide) rfl rfl (fit_of hR (by decide)) (Nat.le_of_ble_eq_true rfl) ?_
      refine a_iaddN hB dX4_sumOfTiltedTotals_21 ?_
      refine a_istore_n hB dX4_sumOfTiltedTotals_22 (by decide) ?_
      refine a_iincN (b := 1) hB dX4_sumOfTiltedTotals_23 rfl (by decide) (by decide) ?_
      refine a_goto (tgt := 4) hB dX4_sumOfTiltedTotals_26 (by decide) ?_
      exact aW_at [0, 1, 2] rfl rfl rfl (ih4 (i + 1) (by omega))
  exact aW_at [0, 1, 2] rfl rfl rfl (lp4 (P.parts) 0 (by omega))
set_option maxHeartbeats 4000000 in
set_option maxRecDepth 100000 in
theorem c_X4_leastSum {G : GP} {pa : Nat → Nat} {P : PV} (hp : P.parts ≤ 6) (hw : ∀ j, P.wt j ≤ 9) (h1 : ∀ p, p < P.parts → ∃ l, l < 6 ∧ 0 < gt P.wt p l) : AMd G sX4_leastSum [.ref (pa 0)] (wP G pa P) (some (.int (nI (sumN (fun p => lo6 (gt P.wt p)) P.parts)))) (wP G pa P) := by
  refine AM.of (σ := sX4_leastSum) (by decide +kernel) (by decide +kernel) (Nat.le_of_ble_eq_true rfl) (fun B hB hR hE0 hN => ?_)
  have hE := BE.of hE0
  refine a_iconstN (v := 0) hB dX4_leastSum_0 (by decide) ?_
  refine a_istore_n hB dX4_leastSum_1 (by decide) ?_
  refine a_iconstN (v := 0) hB dX4_leastSum_2 (by decide) ?_
  refine a_istore_n hB dX4_leastSum_3 (by decide) ?_
  have lp4 : ∀ (j4 i : Nat), i + j4 = P.parts → aW G sX4_leastSum B 4 [(0, .ref (pa 0)), (1, .int (nI (sumN (fun p => lo6 (gt P.wt p)) i))), (2, .int (nI i))] [] (wP G pa P) 0 0 := by
    intro j4
    induction j4 with
    | zero =>
      intro i hi
      refine a_iload_n hB dX4_leastSum_4 rfl ?_
      refine a_aload_n hB dX4_leastSum_5 rfl ?_
      refine a_get (T := TX4) (ci := 4) hB dX4_leastSum_6 3 fl_X4_28 lay_X4 rfl (by decide) rfl 0 rfl rfl ?_
      refine a_icmp_geN_t (tgt := 29) hB dX4_leastSum_9 (by decide) (by omega) (by omega) (by omega) ?_
      refine a_iload_n hB dX4_leastSum_29 rfl ?_
      exact a_iret hB hE rfl dX4_leastSum_30 (Nat.le_of_ble_eq_true rfl) (Nat.le_of_ble_eq_true rfl) (AKeep.of rfl) ⟨by rw [show i = P.parts by omega], rfl⟩
    | succ j4 ih4 =>
      intro i hi
      refine a_iload_n hB dX4_leastSum_4 rfl ?_
      refine a_aload_n hB dX4_leastSum_5 rfl ?_
      refine a_get (T := TX4) (ci := 4) hB dX4_leastSum_6 3 fl_X4_28 lay_X4 rfl (by decide) rfl 0 rfl rfl ?_
      refine a_icmp_geN_f (tgt := 29) hB dX4_leastSum_9 (by decide) (by omega) (by omega) (by omega) ?_
      have hs := lo6_spec (h1 i (by omega))
      refine a_iload_n hB dX4_leastSum_12 rfl ?_
      refine a_aload_n hB dX4_leastSum_13 rfl ?_
      refine a_get (T := TX4) (ci := 4) hB dX4_leastSum_14 0 fl_X4_12 lay_X4 rfl (by decide) rfl 0 rfl rfl ?_
      refine a_iload_n hB dX4_leastSum_17 rfl ?_
      refine a_callVr (q0 := 1) hB (c_X7_leastLoadOf (by omega) hs.1 hs.2.1 hs.2.2 (Nat.lt_of_le_of_lt (gt_lt hw i _) (by decide))) mk_X7_leastLoadOf ml_X4_62 dX4_leastSum_18 rfl rfl [1, 2] rfl (by decide) rfl rfl (fit_of hR (by decide)) (Nat.le_of_ble_eq_true rfl) ?_
      refine a_iaddN hB dX4_leastSum_21 ?_
      refine a_istore_n hB dX4_leastSum_22 (by decide) ?_
      refine a_iincN (b := 1) hB dX4_leastSum_23 rfl (by decide) (by decide) ?_
      refine a_goto (tgt := 4) hB dX4_leastSum_26 (by decide) ?_
      exact aW_at [0, 1, 2] rfl rfl rfl (ih4 (i + 1) (by omega))
  exact aW_at [0, 1, 2] rfl rfl rfl (lp4 (P.parts) 0 (by omega))
set_option maxHeartbeats 4000000 in
set_option maxRecDepth 100000 in
theorem c_X4_greatestSum {G : GP} {pa : Nat → Nat} {P : PV} (hp : P.parts ≤ 6) (hw : ∀ j, P.wt j ≤ 9) (h1 : ∀ p, p < P.parts → ∃ l, l < 6 ∧ 0 < gt P.wt p l) : AMd G sX4_greatestSum [.ref (pa 0)] (wP G pa P) (some (.int (nI (sumN (fun p => hi6 (gt P.wt p)) P.parts)))) (wP G pa P) := by
  refine AM.of (σ := sX4_greatestSum) (by decide +kernel) (by decide +kernel) (Nat.le_of_ble_eq_true rfl) (fun B hB hR hE0 hN => ?_)
  have hE := BE.of hE0
  refine a_iconstN (v := 0) hB dX4_greatestSum_0 (by decide) ?_
  refine a_istore_n hB dX4_greatestSum_1 (by decide) ?_
  refine a_iconstN (v := 0) hB dX4_greatestSum_2 (by decide) ?_
  refine a_istore_n hB dX4_greatestSum_3 (by decide) ?_
  have lp4 : ∀ (j4 i : Nat), i + j4 = P.parts → aW G sX4_greatestSum B 4 [(0, .ref (pa 0)), (1, .int (nI (sumN (fun p => hi6 (gt P.wt p)) i))), (2, .int (nI i))] [] (wP G pa P) 0 0 := by
    intro j4
    induction j4 with
    | zero =>
      intro i hi
      refine a_iload_n hB dX4_greatestSum_4 rfl ?_
      refine a_aload_n hB dX4_greatestSum_5 rfl ?_
      refine a_get (T := TX4) (ci := 4) hB dX4_greatestSum_6 3 fl_X4_28 lay_X4 rfl (by decide) rfl 0 rfl rfl ?_
      refine a_icmp_geN_t (tgt := 29) hB dX4_greatestSum_9 (by decide) (by omega) (by omega) (by omega) ?_
      refine a_iload_n hB dX4_greatestSum_29 rfl ?_
      exact a_iret hB hE rfl dX4_greatestSum_30 (Nat.le_of_ble_eq_true rfl) (Nat.le_of_ble_eq_true rfl) (AKeep.of rfl) ⟨by rw [show i = P.parts by omega], rfl⟩
    | succ j4 ih4 =>
      intro i hi
      refine a_iload_n hB dX4_greatestSum_4 rfl ?_
      refine a_aload_n hB dX4_greatestSum_5 rfl ?_
      refine a_get (T := TX4) (ci := 4) hB dX4_greatestSum_6 3 fl_X4_28 lay_X4 rfl (by decide) rfl 0 rfl rfl ?_
      refine a_icmp_geN_f (tgt := 29) hB dX4_greatestSum_9 (by decide) (by omega) (by omega) (by omega) ?_
      have hs := hi6_spec (h1 i (by omega))
      refine a_iload_n hB dX4_greatestSum_12 rfl ?_
      refine a_aload_n hB dX4_greatestSum_13 rfl ?_
      refine a_get (T := TX4) (ci := 4) hB dX4_greatestSum_14 0 fl_X4_12 lay_X4 rfl (by decide) rfl 0 rfl rfl ?_
      refine a_iload_n hB dX4_greatestSum_17 rfl ?_
      refine a_callVr (q0 := 1) hB (c_X7_greatestLoadOf (by omega) hs.1 hs.2.1 hs.2.2 (Nat.lt_of_le_of_lt (gt_lt hw i _) (by decide))) mk_X7_greatestLoadOf ml_X4_65 dX4_greatestSum_18 rfl rfl [1, 2] rfl (by decide) rfl rfl (fit_of hR (by decide)) (Nat.le_of_ble_eq_true rfl) ?_
      refine a_iaddN hB dX4_greatestSum_21 ?_
      refine a_istore_n hB dX4_greatestSum_22 (by decide) ?_
      refine a_iincN (b := 1) hB dX4_greatestSum_23 rfl (by decide) (by decide) ?_
      refine a_goto (tgt := 4) hB dX4_greatestSum_26 (by decide) ?_
      exact aW_at [0, 1, 2] rfl rfl rfl (ih4 (i + 1) (by omega))
  exact aW_at [0, 1, 2] rfl rfl rfl (lp4 (P.parts) 0 (by omega))
set_option maxHeartbeats 4000000 in
set_option maxRecDepth 100000 in
theorem c_X4_drawLoad {G : GP} {pa : Nat → Nat} {P : PV} {p r : Nat} (hp : p < 6) (ht99 : ∀ j, P.tl j ≤ 99) (hpos : 0 < tot P.tl p) (hsd : P.seed < 2147483648) (hr : r < 6) (hd : nxt P.seed / 65536 % tot P.tl p < sumN (fun l => gt P.tl p l) (r + 1)) (h0 : ∀ l, l < r → sumN (fun l => gt P.tl p l) (l + 1) ≤ nxt P.seed / 65536 % tot P.tl p) : AMd G sX4_drawLoad [.ref (pa 0), .int (nI p)] (wP G pa P) (some (.int (nI r))) (wP G pa (P.setSeed (nxt P.seed))) := by
  refine AM.of (σ := sX4_drawLoad) (by decide +kernel) (by decide +kernel) (Nat.le_of_ble_eq_true rfl) (fun B hB hR hE0 hN => ?_)
  have hE := BE.of hE0
  have ht := tot_le ht99 p
  have hnx := nxt_lt P.seed
  have hnm : nxt P.seed / 65536 % tot P.tl p < tot P.tl p := Nat.mod_lt _ hpos
  refine a_aload_n hB dX4_drawLoad_0 rfl ?_
  refine a_aload_n hB dX4_drawLoad_1 rfl ?_
  refine a_get (T := TX4) (ci := 4) hB dX4_drawLoad_2 5 fl_X4_35 lay_X4 rfl (by decide) rfl 0 rfl rfl ?_
  refine a_i2lN hB dX4_drawLoad_5 (by omega) ?_
  refine a_ldc2N (v := 1103515245) hB dX4_drawLoad_6 kk_X4_83 (by decide) ?_
  refine a_lmulN hB dX4_drawLoad_9 ?_
  refine a_ldc2N (v := 12345) hB dX4_drawLoad_10 kk_X4_85 (by decide) ?_
  refine a_laddN hB dX4_drawLoad_13 ?_
  refine a_ldc2N (v := 2147483648) hB dX4_drawLoad_14 kk_X4_87 (by decide) ?_
  refine a_lremN hB dX4_drawLoad_17 (by omega) (by omega) (by omega) ?_
  rw [← nxt_eq]
  refine a_l2iN hB dX4_drawLoad_18 ?_
  refine a_put (T := TX4) (ci := 4) hB dX4_drawLoad_19 5 fl_X4_35 lay_X4 tyX4 tyX4_ok nmX4 rfl (by decide) rfl rfl 0 rfl rfl rfl rfl (Nat.le_of_ble_eq_true rfl) ?_
  refine a_aload_n hB dX4_drawLoad_22 rfl ?_
  refine a_get (T := TX4) (ci := 4) hB dX4_drawLoad_23 1 fl_X4_18 lay_X4 rfl (by decide) rfl 0 rfl rfl ?_
  refine a_iload_n hB dX4_drawLoad_26 rfl ?_
  refine a_callVr (q0 := 3) hB (c_X7_totalOf (by omega)) mk_X7_totalOf ml_X4_58 dX4_drawLoad_27 rfl rfl [3, 4] rfl (by decide) rfl rfl (fit_of hR (by decide)) (Nat.le_of_ble_eq_true rfl) ?_
  refine a_istore_n hB dX4_drawLoad_30 (by decide) ?_
  refine a_iload_n hB dX4_drawLoad_31 rfl ?_
  refine a_if_leN_f (tgt := 47) hB dX4_drawLoad_32 (by decide) (by omega) (by omega) ?_
  refine a_aload_n hB dX4_drawLoad_35 rfl ?_
  refine a_get (T := TX4) (ci := 4) hB dX4_drawLoad_36 5 fl_X4_35 lay_X4 rfl (by decide) rfl 0 rfl rfl ?_
  refine a_ldcN (v := 65536) hB dX4_drawLoad_39 kk_X4_89 (by decide) ?_
  refine a_idivN hB dX4_drawLoad_41 (by omega) (by omega) (by omega) ?_
  refine a_iload_n hB dX4_drawLoad_42 rfl ?_
  refine a_iremN hB dX4_drawLoad_43 (by omega) (by omega) (by omega) ?_
  refine a_goto (tgt := 48) hB dX4_drawLoad_44 (by decide) ?_
  refine a_istore_n hB dX4_drawLoad_48 (by decide) ?_
  refine a_iconstN (v := 0) hB dX4_drawLoad_49 (by decide) ?_
  refine a_istore hB dX4_drawLoad_50 (by decide) ?_
  refine a_iconstN (v := 0) hB dX4_drawLoad_52 (by decide) ?_
  refine a_istore hB dX4_drawLoad_53 (by decide) ?_
  have lp55 : ∀ (j55 i : Nat), i + j55 = r → aW G sX4_drawLoad B 55 [(0, .ref (pa 0)), (1, .int (nI p)), (2, .int (nI (tot P.tl p))), (3, .int (nI (nxt P.seed / 65536 % tot P.tl p))), (4, .int (nI (sumN (fun l => gt P.tl p l) i))), (5, .int (nI i))] [] (wP G pa (P.setSeed (nxt P.seed))) 0 0 := by
    intro j55
    induction j55 with
    | zero =>
      intro i hi
      refine a_iload hB dX4_drawLoad_55 rfl ?_
      refine a_bipushN (v := 6) hB dX4_drawLoad_57 (by decide) ?_
      refine a_icmp_geN_f (tgt := 92) hB dX4_drawLoad_59 (by decide) (by omega) (by omega) (by omega) ?_
      have hi6 : i < 6 := by omega
      have hg := gt_lt ht99 p i
      have hc := sumN_le (f := fun l => gt P.tl p l) (fun l => gt_lt ht99 p l) i
      refine a_iload hB dX4_drawLoad_62 rfl ?_
      refine a_aload_n hB dX4_drawLoad_64 rfl ?_
      refine a_get (T := TX4) (ci := 4) hB dX4_drawLoad_65 1 fl_X4_18 lay_X4 rfl (by decide) rfl 0 rfl rfl ?_
      refine a_iload_n hB dX4_drawLoad_68 rfl ?_
      refine a_iload hB dX4_drawLoad_69 rfl ?_
      refine a_callVr (q0 := 3) hB (c_X7_get (by omega) (by omega)) mk_X7_get ml_X4_49 dX4_drawLoad_71 rfl rfl [3, 4] rfl (by decide) rfl rfl (fit_of hR (by decide)) (Nat.le_of_ble_eq_true rfl) ?_
      show aW G sX4_drawLoad B _ _ (.int (nI (gt P.tl p i)) :: _) _ _ _
      refine a_iaddN hB dX4_drawLoad_74 ?_
      refine a_istore hB dX4_drawLoad_75 (by decide) ?_
      refine a_iload hB dX4_drawLoad_77 rfl ?_
      refine a_iload_n hB dX4_drawLoad_79 rfl ?_
      refine a_icmp_leN_f (tgt := 86) hB dX4_drawLoad_80 (by decide) (by omega) (by omega) (by rw [show i = r by omega]; exact Nat.not_le.mpr hd) ?_
      refine a_iload hB dX4_drawLoad_83 rfl ?_
      exact a_iret hB hE rfl dX4_drawLoad_85 (Nat.le_of_ble_eq_true rfl) (Nat.le_of_ble_eq_true rfl) (AKeep.of rfl) ⟨by rw [show i = r by omega], rfl⟩
    | succ j55 ih55 =>
      intro i hi
      refine a_iload hB dX4_drawLoad_55 rfl ?_
      refine a_bipushN (v := 6) hB dX4_drawLoad_57 (by decide) ?_
      refine a_icmp_geN_f (tgt := 92) hB dX4_drawLoad_59 (by decide) (by omega) (by omega) (by omega) ?_
      have hi6 : i < 6 := by omega
      have hg := gt_lt ht99 p i
      have hc := sumN_le (f := fun l => gt P.tl p l) (fun l => gt_lt ht99 p l) i
      refine a_iload hB dX4_drawLoad_62 rfl ?_
      refine a_aload_n hB dX4_drawLoad_64 rfl ?_
      refine a_get (T := TX4) (ci := 4) hB dX4_drawLoad_65 1 fl_X4_18 lay_X4 rfl (by decide) rfl 0 rfl rfl ?_
      refine a_iload_n hB dX4_drawLoad_68 rfl ?_
      refine a_iload hB dX4_drawLoad_69 rfl ?_
      refine a_callVr (q0 := 3) hB (c_X7_get (by omega) (by omega)) mk_X7_get ml_X4_49 dX4_drawLoad_71 rfl rfl [3, 4] rfl (by decide) rfl rfl (fit_of hR (by decide)) (Nat.le_of_ble_eq_true rfl) ?_
      show aW G sX4_drawLoad B _ _ (.int (nI (gt P.tl p i)) :: _) _ _ _
      refine a_iaddN hB dX4_drawLoad_74 ?_
      refine a_istore hB dX4_drawLoad_75 (by decide) ?_
      refine a_iload hB dX4_drawLoad_77 rfl ?_
      refine a_iload_n hB dX4_drawLoad_79 rfl ?_
      refine a_icmp_leN_t (tgt := 86) hB dX4_drawLoad_80 (by decide) (by omega) (by omega) (h0 i (by omega)) ?_
      refine a_iincN (b := 1) hB dX4_drawLoad_86 rfl (by decide) (by decide) ?_
      refine a_goto (tgt := 55) hB dX4_drawLoad_89 (by decide) ?_
      exact aW_at [0, 1, 2, 3, 4, 5] rfl rfl rfl (ih55 (i + 1) (by omega))
  exact aW_at [0, 1, 2, 3, 4, 5] rfl rfl rfl (lp55 (r) 0 (by omega))
set_option maxHeartbeats 4000000 in
set_option maxRecDepth 100000 in
theorem c_X4_corrected {G : GP} {pa : Nat → Nat} {P : PV} {c : UInt64} {p l : Nat} (hp : p < 6) (hl : l < 6) (hw : ∀ j, P.wt j ≤ 9) (ht99 : ∀ j, P.tl j ≤ 99) (hc : P.corOK c p l) : AMd G sX4_corrected [.ref (pa 0), .double c, .int (nI p), .int (nI l)] (wP G pa P) (some (.double (P.cor c p l))) (wP G pa P) := by
  refine AM.of (σ := sX4_corrected) (by decide +kernel) (by decide +kernel) (Nat.le_of_ble_eq_true rfl) (fun B hB hR hE0 hN => ?_)
  have hE := BE.of hE0
  have h1 := tot_le hw p
  have h2 := gt_lt ht99 p l
  have h3 := tot_le ht99 p
  have h4 := gt_lt hw p l
  refine a_aload_n hB dX4_corrected_0 rfl ?_
  refine a_get (T := TX4) (ci := 4) hB dX4_corrected_1 0 fl_X4_12 lay_X4 rfl (by decide) rfl 0 rfl rfl ?_
  refine a_iload_n hB dX4_corrected_4 rfl ?_
  refine a_callVr (q0 := 1) hB (c_X7_totalOf (by omega)) mk_X7_totalOf ml_X4_58 dX4_corrected_5 rfl rfl [1, 2] rfl (by decide) rfl rfl (fit_of hR (by decide)) (Nat.le_of_ble_eq_true rfl) ?_
  refine a_istore hB dX4_corrected_8 (by decide) ?_
  refine a_aload_n hB dX4_corrected_10 rfl ?_
  refine a_get (T := TX4) (ci := 4) hB dX4_corrected_11 1 fl_X4_18 lay_X4 rfl (by decide) rfl 0 rfl rfl ?_
  refine a_iload_n hB dX4_corrected_14 rfl ?_
  refine a_iload hB dX4_corrected_15 rfl ?_
  refine a_callVr (q0 := 3) hB (c_X7_get (by omega) (by omega)) mk_X7_get ml_X4_49 dX4_corrected_17 rfl rfl [3, 4] rfl (by decide) rfl rfl (fit_of hR (by decide)) (Nat.le_of_ble_eq_true rfl) ?_
  refine a_istore hB dX4_corrected_20 (by decide) ?_
  refine a_iload hB dX4_corrected_22 rfl ?_
  refine a_if_leN (tgt := 32) hB dX4_corrected_24 (by decide) (by omega) (fun c24 => ?_) (fun c24 => ?_)
  · refine a_dconst0 hB dX4_corrected_32 ?_
    exact a_dret hB hE rfl dX4_corrected_33 (Nat.le_of_ble_eq_true rfl) (Nat.le_of_ble_eq_true rfl) (AKeep.of rfl) ⟨by unfold PV.cor; first | (rw [if_pos (by omega)]; done) | (rw [if_neg (by omega)]; rfl), rfl⟩
  · refine a_iload hB dX4_corrected_27 rfl ?_
    refine a_if_gtN (tgt := 34) hB dX4_corrected_29 (by decide) (by omega) (fun c29 => ?_) (fun c29 => ?_)
    · refine a_dload_n hB dX4_corrected_34 rfl ?_
      refine a_aload_n hB dX4_corrected_35 rfl ?_
      refine a_get (T := TX4) (ci := 4) hB dX4_corrected_36 0 fl_X4_12 lay_X4 rfl (by decide) rfl 0 rfl rfl ?_
      refine a_iload_n hB dX4_corrected_39 rfl ?_
      refine a_iload hB dX4_corrected_40 rfl ?_
      refine a_callVr (q0 := 1) hB (c_X7_get (by omega) (by omega)) mk_X7_get ml_X4_49 dX4_corrected_42 rfl rfl [1, 2] rfl (by decide) rfl rfl (fit_of hR (by decide)) (Nat.le_of_ble_eq_true rfl) ?_
      refine a_i2d hB dX4_corrected_45 ?_
      refine a_dmul hB dX4_corrected_46 (hc (by omega)).1 ?_
      refine a_aload_n hB dX4_corrected_47 rfl ?_
      refine a_get (T := TX4) (ci := 4) hB dX4_corrected_48 1 fl_X4_18 lay_X4 rfl (by decide) rfl 0 rfl rfl ?_
      refine a_iload_n hB dX4_corrected_51 rfl ?_
      refine a_callVr (q0 := 3) hB (c_X7_totalOf (by omega)) mk_X7_totalOf ml_X4_58 dX4_corrected_52 rfl rfl [3, 4] rfl (by decide) rfl rfl (fit_of hR (by decide)) (Nat.le_of_ble_eq_true rfl) ?_
      refine a_i2d hB dX4_corrected_55 ?_
      refine a_dmul hB dX4_corrected_56 (hc (by omega)).2.1 ?_
      refine a_iload hB dX4_corrected_57 rfl ?_
      refine a_i2d hB dX4_corrected_59 ?_
      refine a_ddiv hB dX4_corrected_60 (hc (by omega)).2.2.1 ?_
      refine a_iload hB dX4_corrected_61 rfl ?_
      refine a_i2d hB dX4_corrected_63 ?_
      refine a_ddiv hB dX4_corrected_64 (hc (by omega)).2.2.2 ?_
      exact a_dret hB hE rfl dX4_corrected_65 (Nat.le_of_ble_eq_true rfl) (Nat.le_of_ble_eq_true rfl) (AKeep.of rfl) ⟨by unfold PV.cor; first | (rw [if_pos (by omega)]; done) | (rw [if_neg (by omega)]; rfl), rfl⟩
    · refine a_dconst0 hB dX4_corrected_32 ?_
      exact a_dret hB hE rfl dX4_corrected_33 (Nat.le_of_ble_eq_true rfl) (Nat.le_of_ble_eq_true rfl) (AKeep.of rfl) ⟨by unfold PV.cor; first | (rw [if_pos (by omega)]; done) | (rw [if_neg (by omega)]; rfl), rfl⟩

