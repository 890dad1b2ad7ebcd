def sX1_addPartOf : MS := (yX1_addPartOf, cX1_addPartOf, 7, none, RX1, 1)
def sX1_fill : MS := (yX1_fill, cX1_fill, 4, none, RX1, 2)
def sX1_init : MS := (yX1_init, cX1_init, 1, none, RX1, 1)
def sX1_oddsFrom : MS := (yX1_oddsFrom, cX1_oddsFrom, 4, (some .double), RX1, 2)
def sX1_waysFrom : MS := (yX1_waysFrom, cX1_waysFrom, 5, (some .long), RX1, 1)
def sX1_waysOf : MS := (yX1_waysOf, cX1_waysOf, 2, (some .long), RX1, 0)
def sX2_init : MS := (yX2_init, cX2_init, 1, none, RX2, 1)
def sX2_save : MS := (yX2_save, cX2_save, 3, none, RX2, 3)
def sX8_init : MS := (yX8_init, cX8_init, 1, none, RX8, 1)
abbrev wX (G : GP) (b c len : Nat) (cs : Nat → Nat) : va_W := [(b, ob 8 [.ref c, .int (nI len)]), (c, aN G 60 cs)]
set_option maxHeartbeats 4000000 in
set_option maxRecDepth 100000 in
theorem c_X8_init {G : GP} {b : Nat} : AM G sX8_init 1 60 [.ref b] [(b, ob 8 [.null, .int 0])] (fun v w => v = none ∧ ∃ c, w = wX G b c 0 (fun _ => 0)) := by
  refine AM.of (σ := sX8_init) (by decide +kernel) (by decide +kernel) (Nat.le_of_ble_eq_true rfl) (fun B hB hR hE0 hN => ?_)
  have hE := BE.of hE0
  have hN : B.meth.name = "<init>" := hN
  refine a_aload_n hB dX8_init_0 rfl ?_
  refine a_objInit hB ml_X8_3 dX8_init_1 (roomF hR (Nat.le_of_ble_eq_true rfl)) (room12 hR (Nat.le_of_ble_eq_true rfl)) ?_
  refine a_aload_n hB dX8_init_4 rfl ?_
  refine a_bipushN (v := 60) hB dX8_init_5 (by decide) ?_
  refine a_newI (N := 60) hB dX8_init_7 (nI_pos (by decide)) (nI_clamp (by decide)) (by decide) (roomc hR (Nat.le_of_ble_eq_true rfl)) (rooms hR (Nat.le_of_ble_eq_true rfl)) (fun q1 => ?_)
  refine a_putF (T := TX8) (ci := 8) hB hN dX8_init_9 0 fl_X8_9 lay_X8 tyX8 tyX8_ok nmX8 rfl (by decide) rfl rfl rfl 0 rfl rfl rfl rfl (Nat.le_of_ble_eq_true rfl) ?_
  refine a_aload_n hB dX8_init_12 rfl ?_
  refine a_iconstN (v := 0) hB dX8_init_13 (by decide) ?_
  refine a_put (T := TX8) (ci := 8) hB dX8_init_14 1 fl_X8_15 lay_X8 tyX8 tyX8_ok nmX8 rfl (by decide) rfl rfl 0 rfl rfl rfl rfl (Nat.le_of_ble_eq_true rfl) ?_
  exact a_vret hB hE rfl dX8_init_17 (Nat.le_of_ble_eq_true rfl) (Nat.le_of_ble_eq_true rfl) (AKeep.of rfl) ⟨rfl, q1, rfl⟩
