abbrev wH (G : GP) (h a : Nat) (pl : Nat → Option Nat) (nx num : Nat) : va_W := [(h, ob 2 [.ref a, .int (nI nx), .int (nI num)]), (a, aP G 6 pl)]
set_option maxHeartbeats 4000000 in
set_option maxRecDepth 100000 in
theorem c_X2_init {G : GP} {h : Nat} : AM G sX2_init 1 6 [.ref h] [(h, ob 2 [.null, .int 0, .int 0])] (fun v w => v = none ∧ ∃ a, w = wH G h a (fun _ => none) 0 0) := by
  refine AM.of (σ := sX2_init) (by decide +kernel) (by decide +kernel) (Nat.le_of_ble_eq_true rfl) (fun B hB hR hE0 hN => ?_)
  have hE := BE.of hE0
  have hN : B.meth.name = "<init>" := hN
  refine a_aload_n hB dX2_init_0 rfl ?_
  refine a_objInit hB ml_X2_3 dX2_init_1 (roomF hR (Nat.le_of_ble_eq_true rfl)) (room12 hR (Nat.le_of_ble_eq_true rfl)) ?_
  refine a_aload_n hB dX2_init_4 rfl ?_
  refine a_bipushN (v := 6) hB dX2_init_5 (by decide) ?_
  refine a_newP (N := 6) hB dX2_init_7 cl_X2_9 (nI_pos (by decide)) (nI_clamp (by decide)) (by decide) (roomc hR (Nat.le_of_ble_eq_true rfl)) (rooms hR (Nat.le_of_ble_eq_true rfl)) (fun q1 => ?_)
  refine a_putF (T := TX2) (ci := 2) hB hN dX2_init_10 0 fl_X2_11 lay_X2 tyX2 tyX2_ok nmX2 rfl (by decide) rfl rfl rfl 0 rfl rfl rfl rfl (Nat.le_of_ble_eq_true rfl) ?_
  refine a_aload_n hB dX2_init_13 rfl ?_
  refine a_iconstN (v := 0) hB dX2_init_14 (by decide) ?_
  refine a_put (T := TX2) (ci := 2) hB dX2_init_15 1 fl_X2_17 lay_X2 tyX2 tyX2_ok nmX2 rfl (by decide) rfl rfl 0 rfl rfl rfl rfl (Nat.le_of_ble_eq_true rfl) ?_
  refine a_aload_n hB dX2_init_18 rfl ?_
  refine a_iconstN (v := 0) hB dX2_init_19 (by decide) ?_
  refine a_put (T := TX2) (ci := 2) hB dX2_init_20 2 fl_X2_21 lay_X2 tyX2 tyX2_ok nmX2 rfl (by decide) rfl rfl 0 rfl rfl rfl rfl (Nat.le_of_ble_eq_true rfl) ?_
  exact a_vret hB hE rfl dX2_init_23 (Nat.le_of_ble_eq_true rfl) (Nat.le_of_ble_eq_true rfl) (AKeep.of rfl) ⟨rfl, q1, rfl⟩
set_option maxHeartbeats 4000000 in
set_option maxRecDepth 100000 in
theorem c_X4_copyFrom2 {G : GP} {pa qa : Nat → Nat} {P O : PV} : AMd G sX4_copyFrom [.ref (qa 0), .ref (pa 0)] (wP G pa P ++ wP G qa O) none (wP G pa P ++ wP G qa (O.cpy P)) := by
  refine AM.of (σ := sX4_copyFrom) (by decide +kernel) (by decide +kernel) (Nat.le_of_ble_eq_true rfl) (fun B hB hR hE0 hN => ?_)
  have hE := BE.of hE0
  refine a_aload_n hB dX4_copyFrom_0 rfl ?_
  refine a_get (T := TX4) (ci := 4) hB dX4_copyFrom_1 0 fl_X4_12 lay_X4 rfl (by decide) rfl 7 rfl rfl ?_
  refine a_aload_n hB dX4_copyFrom_4 rfl ?_
  refine a_get (T := TX4) (ci := 4) hB dX4_copyFrom_5 0 fl_X4_12 lay_X4 rfl (by decide) rfl 0 rfl rfl ?_
  refine a_callVd (w2 := wP G pa P ++ wP G qa (mkP (cpN O.wt P.wt 36) O.tl O.sv O.parts O.limit O.seed)) (q0 := 8) hB (c_X7_copyFrom (w := O.wt) (o := P.wt)) mk_X7_copyFrom ml_X4_90 dX4_copyFrom_8 rfl rfl [8, 9, 1, 2] rfl (by decide) rfl rfl (fit_of hR (by decide)) (Nat.le_of_ble_eq_true rfl) rfl ?_
  refine a_aload_n hB dX4_copyFrom_11 rfl ?_
  refine a_get (T := TX4) (ci := 4) hB dX4_copyFrom_12 1 fl_X4_18 lay_X4 rfl (by decide) rfl 7 rfl rfl ?_
  refine a_aload_n hB dX4_copyFrom_15 rfl ?_
  refine a_get (T := TX4) (ci := 4) hB dX4_copyFrom_16 1 fl_X4_18 lay_X4 rfl (by decide) rfl 0 rfl rfl ?_
  refine a_callVd (w2 := wP G pa P ++ wP G qa (mkP (cpN O.wt P.wt 36) (cpN O.tl P.tl 36) O.sv O.parts O.limit O.seed)) (q0 := 10) hB (c_X7_copyFrom (w := O.tl) (o := P.tl)) mk_X7_copyFrom ml_X4_90 dX4_copyFrom_19 rfl rfl [10, 11, 3, 4] rfl (by decide) rfl rfl (fit_of hR (by decide)) (Nat.le_of_ble_eq_true rfl) rfl ?_
  refine a_aload_n hB dX4_copyFrom_22 rfl ?_
  refine a_get (T := TX4) (ci := 4) hB dX4_copyFrom_23 2 fl_X4_24 lay_X4 rfl (by decide) rfl 7 rfl rfl ?_
  refine a_aload_n hB dX4_copyFrom_26 rfl ?_
  refine a_get (T := TX4) (ci := 4) hB dX4_copyFrom_27 2 fl_X4_24 lay_X4 rfl (by decide) rfl 0 rfl rfl ?_
  refine a_callVd (w2 := wP G pa P ++ wP G qa (mkP (cpN O.wt P.wt 36) (cpN O.tl P.tl 36) (O.sv.cpy P.sv) O.parts O.limit O.seed)) (q0 := 12) hB (c_X5_copyFrom (S := O.sv) (O := P.sv)) mk_X5_copyFrom ml_X4_94 dX4_copyFrom_30 rfl rfl [12, 13, 5, 6] rfl (by decide) rfl rfl (fit_of hR (by decide)) (Nat.le_of_ble_eq_true rfl) rfl ?_
  refine a_aload_n hB dX4_copyFrom_33 rfl ?_
  refine a_aload_n hB dX4_copyFrom_34 rfl ?_
  refine a_get (T := TX4) (ci := 4) hB dX4_copyFrom_35 3 fl_X4_28 lay_X4 rfl (by decide) rfl 0 rfl rfl ?_
  refine a_put (T := TX4) (ci := 4) hB dX4_copyFrom_38 3 fl_X4_28 lay_X4 tyX4 tyX4_ok nmX4 rfl (by decide) rfl rfl 7 rfl rfl rfl rfl (Nat.le_of_ble_eq_true rfl) ?_
  refine a_aload_n hB dX4_copyFrom_41 rfl ?_
  refine a_aload_n hB dX4_copyFrom_42 rfl ?_
  refine a_get (T := TX4) (ci := 4) hB dX4_copyFrom_43 4 fl_X4_32 lay_X4 rfl (by decide) rfl 0 rfl rfl ?_
  refine a_put (T := TX4) (ci := 4) hB dX4_copyFrom_46 4 fl_X4_32 lay_X4 tyX4 tyX4_ok nmX4 rfl (by decide) rfl rfl 7 rfl rfl rfl rfl (Nat.le_of_ble_eq_true rfl) ?_
  refine a_aload_n hB dX4_copyFrom_49 rfl ?_
  refine a_aload_n hB dX4_copyFrom_50 rfl ?_
  refine a_get (T := TX4) (ci := 4) hB dX4_copyFrom_51 5 fl_X4_35 lay_X4 rfl (by decide) rfl 0 rfl rfl ?_
  refine a_put (T := TX4) (ci := 4) hB dX4_copyFrom_54 5 fl_X4_35 lay_X4 tyX4 tyX4_ok nmX4 rfl (by decide) rfl rfl 7 rfl rfl rfl rfl (Nat.le_of_ble_eq_true rfl) ?_
  exact a_vret hB hE rfl dX4_copyFrom_57 (Nat.le_of_ble_eq_true rfl) (Nat.le_of_ble_eq_true rfl) (AKeep.of rfl) ⟨rfl, rfl⟩
