def sX9_addPart : MS := (yX9_addPart, cX9_addPart, 4, (some .int), RX9, 6)
def sX9_count : MS := (yX9_count, cX9_count, 2, (some .int), RX9, 7)
def sX9_draw : MS := (yX9_draw, cX9_draw, 4, (some .int), RX9, 7)
def sX9_init : MS := (yX9_init, cX9_init, 1, none, RX9, 3)
def sX9_likeliest : MS := (yX9_likeliest, cX9_likeliest, 2, (some .int), RX9, 7)
def sX9_limit : MS := (yX9_limit, cX9_limit, 3, (some .int), RX9, 7)
def sX9_measure : MS := (yX9_measure, cX9_measure, 3, (some .double), RX9, 7)
def sX9_oddsFor : MS := (yX9_oddsFor, cX9_oddsFor, 3, (some .double), RX9, 3)
def sX9_part : MS := (yX9_part, cX9_part, 3, (some .int), RX9, 7)
def sX9_removePart : MS := (yX9_removePart, cX9_removePart, 2, (some .int), RX9, 7)
def sX9_requireLoad : MS := (yX9_requireLoad, cX9_requireLoad, 1, none, RX9, 6)
def sX9_requirePart : MS := (yX9_requirePart, cX9_requirePart, 2, none, RX9, 6)
def sX9_requireRange : MS := (yX9_requireRange, cX9_requireRange, 3, none, RX9, 6)
def sX9_seed : MS := (yX9_seed, cX9_seed, 3, (some .int), RX9, 6)
def sX9_tilt : MS := (yX9_tilt, cX9_tilt, 5, (some .int), RX9, 7)
def sX9_tiltAll : MS := (yX9_tiltAll, cX9_tiltAll, 2, (some .int), RX9, 7)
def sX9_ways : MS := (yX9_ways, cX9_ways, 3, (some .long), RX9, 7)
def sX9_weigh : MS := (yX9_weigh, cX9_weigh, 5, (some .int), RX9, 7)
def sX9_weight : MS := (yX9_weight, cX9_weight, 4, (some .int), RX9, 7)
abbrev oR (xa pa : Nat → Nat) : Nat × va_E := (xa 0, ob 9 [.ref (pa 0), .ref (xa 1), .ref (xa 3), .ref (xa 5), .ref (xa 7), .ref (xa 9)])
/-- text, counting, likeliest, corrections -/
abbrev wZ (G : GP) (xa : Nat → Nat) (len : Nat) (cs f m : Nat → Nat) (g : Nat → UInt64) : va_W := wX G (xa 3) (xa 4) len cs ++ (wK G (xa 5) (xa 6) f ++ (wI G (xa 7) (xa 8) m ++ wC G (xa 9) (xa 10) g))
/-- the class's object with all that is its own; T: the saved plant that is written next, if it was made -/
abbrev wR (G : GP) (xa pa : Nat → Nat) (P : PV) (pl : Nat → Option Nat) (nx num : Nat) (T : va_W) (len : Nat) (cs f m : Nat → Nat) (g : Nat → UInt64) : va_W := oR xa pa :: (wP G pa P ++ (wH G (xa 1) (xa 2) pl nx num ++ (T ++ wZ G xa len cs f m g)))
set_option maxHeartbeats 4000000 in
set_option maxRecDepth 100000 in
theorem c_X9_requirePart {G : GP} {x0 p0 w0 t0 s0 n : Nat} {h1 h2 h3 h4 h5 li se : Value} {p : Nat} (hp : p < n) (hn : n < 2 ^ 31) : AMd G sX9_requirePart [.ref x0, .int (nI p)] [(x0, ob 9 [.ref p0, h1, h2, h3, h4, h5]), (p0, ob 4 [.ref w0, .ref t0, .ref s0, .int (nI n), li, se])] none [(x0, ob 9 [.ref p0, h1, h2, h3, h4, h5]), (p0, ob 4 [.ref w0, .ref t0, .ref s0, .int (nI n), li, se])] := by
  refine AM.of (σ := sX9_requirePart) (by decide +kernel) (by decide +kernel) (Nat.le_of_ble_eq_true rfl) (fun B hB hR hE0 hN => ?_)
  have hE := BE.of hE0
  refine a_iload_n hB dX9_requirePart_0 rfl ?_
  refine a_if_ltN_f (tgt := 15) hB dX9_requirePart_1 (by decide) (by omega) ?_
  refine a_iload_n hB dX9_requirePart_4 rfl ?_
  refine a_aload_n hB dX9_requirePart_5 rfl ?_
  refine a_get (T := TX9) (ci := 9) hB dX9_requirePart_6 0 fl_X9_12 lay_X9 rfl (by decide) rfl 0 rfl rfl ?_
  refine a_get (T := TX4) (ci := 4) hB dX9_requirePart_9 3 fl_X9_58 lay_X4 rfl (by decide) rfl 1 rfl rfl ?_
  refine a_icmp_ltN_t (tgt := 26) hB dX9_requirePart_12 (by decide) (by omega) (by omega) (by omega) ?_
  exact a_vret hB hE rfl dX9_requirePart_26 (Nat.le_of_ble_eq_true rfl) (Nat.le_of_ble_eq_true rfl) (AKeep.of rfl) ⟨rfl, rfl⟩
set_option maxHeartbeats 4000000 in
set_option maxRecDepth 100000 in
theorem c_X9_requireLoad {G : GP} {p : Nat} (hp : p < 6) : AMd G sX9_requireLoad [.int (nI p)] [] none [] := by
  refine AM.of (σ := sX9_requireLoad) (by decide +kernel) (by decide +kernel) (Nat.le_of_ble_eq_true rfl) (fun B hB hR hE0 hN => ?_)
  have hE := BE.of hE0
  refine a_iload_n hB dX9_requireLoad_0 rfl ?_
  refine a_if_ltN_f (tgt := 10) hB dX9_requireLoad_1 (by decide) (by omega) ?_
  refine a_iload_n hB dX9_requireLoad_4 rfl ?_
  refine a_bipushN (v := 6) hB dX9_requireLoad_5 (by decide) ?_
  refine a_icmp_ltN_t (tgt := 21) hB dX9_requireLoad_7 (by decide) (by omega) (by omega) (by omega) ?_
  exact a_vret hB hE rfl dX9_requireLoad_21 (Nat.le_of_ble_eq_true rfl) (Nat.le_of_ble_eq_true rfl) (AKeep.of rfl) ⟨rfl, rfl⟩
set_option maxHeartbeats 4000000 in
set_option maxRecDepth 100000 in
theorem c_X9_requireRange {G : GP} {v a b : Nat} (h1 : a ≤ v) (h2 : v ≤ b) (hb : b < 2 ^ 31) : AMd G sX9_requireRange [.int (nI v), .int (nI a), .int (nI b)] [] none [] := by
  refine AM.of (σ := sX9_requireRange) (by decide +kernel) (by decide +kernel) (Nat.le_of_ble_eq_true rfl) (fun B hB hR hE0 hN => ?_)
  have hE := BE.of hE0
  refine a_iload_n hB dX9_requireRange_0 rfl ?_
  refine a_iload_n hB dX9_requireRange_1 rfl ?_
  refine a_icmp_ltN_f (tgt := 10) hB dX9_requireRange_2 (by decide) (by omega) (by omega) (by omega) ?_
  refine a_iload_n hB dX9_requireRange_5 rfl ?_
  refine a_iload_n hB dX9_requireRange_6 rfl ?_
  refine a_icmp_leN_t (tgt := 21) hB dX9_requireRange_7 (by decide) (by omega) (by omega) (by omega) ?_
  exact a_vret hB hE rfl dX9_requireRange_21 (Nat.le_of_ble_eq_true rfl) (Nat.le_of_ble_eq_true rfl) (AKeep.of rfl) ⟨rfl, rfl⟩
set_option maxHeartbeats 4000000 in
set_option maxRecDepth 100000 in
theorem c_X9_init {G : GP} {x0 : Nat} : AM G sX9_init 17 446 [.ref x0] [(x0, ob 9 [.null, .null, .null, .null, .null, .null])] (fun v w => v = none ∧ ∃ xa pa : Nat → Nat, xa 0 = x0 ∧ w = wR G xa pa PV0 (fun _ => none) 0 0 [] 0 (fun _ => 0) (fun _ => 0) (fun _ => 0) (fun _ => FP.dconst0)) := by
  refine AM.of (σ := sX9_init) (by decide +kernel) (by decide +kernel) (Nat.le_of_ble_eq_true rfl) (fun B hB hR hE0 hN => ?_)
  have hE := BE.of hE0
  have hN : B.meth.name = "<init>" := hN
  refine a_aload_n hB dX9_init_0 rfl ?_
  refine a_objInit hB ml_X9_3 dX9_init_1 (roomF hR (Nat.le_of_ble_eq_true rfl)) (room12 hR (Nat.le_of_ble_eq_true rfl)) ?_
  refine a_aload_n hB dX9_init_4 rfl ?_
  refine a_new (T := TX4) (ci := 4) (fs := [.null, .null, .null, .int 0, .int 0, .int 0]) hB dX9_init_5 cl_X9_9 lay_X4 tyX4 tyX4_ok is_X4 in_X4 rfl (fun j hj => by rcases (show j = 0 ∨ j = 1 ∨ j = 2 ∨ j = 3 ∨ j = 4 ∨ j = 5 by omega) with rfl | rfl | rfl | rfl | rfl | rfl <;> rfl) (roomc hR (Nat.le_of_ble_eq_true rfl)) (rooms hR (Nat.le_of_ble_eq_true rfl)) (fun q1 => ?_)
  refine a_dup hB dX9_init_8 rfl ?_
  refine a_callIN hB (c_X4_init) rfl mk_X4_init (by decide +kernel) dX9_init_9 rfl rfl [1] rfl (by decide) (fit_of hR (by decide)) (Nat.le_of_ble_eq_true rfl) (fun v9 w9 hq9 hk9 => ?_)
  obtain ⟨rfl, pa, hpa, rfl⟩ := hq9
  rw [← hpa]
  refine aW_w (ws' := (x0, ob 9 [.null, .null, .null, .null, .null, .null]) :: (wP G pa PV0)) rfl ?_
  refine a_putF (T := TX9) (ci := 9) hB hN dX9_init_12 0 fl_X9_12 lay_X9 tyX9 tyX9_ok nmX9 rfl (by decide) rfl rfl rfl 0 rfl rfl rfl rfl (Nat.le_of_ble_eq_true rfl) ?_
  refine a_aload_n hB dX9_init_15 rfl ?_
  refine a_new (T := TX2) (ci := 2) (fs := [.null, .int 0, .int 0]) hB dX9_init_16 cl_X9_16 lay_X2 tyX2 tyX2_ok is_X2 in_X2 rfl (fun j hj => by rcases (show j = 0 ∨ j = 1 ∨ j = 2 by omega) with rfl | rfl | rfl <;> rfl) (roomc hR (Nat.le_of_ble_eq_true rfl)) (rooms hR (Nat.le_of_ble_eq_true rfl)) (fun q8 => ?_)
  refine a_dup hB dX9_init_19 rfl ?_
  refine a_callIN hB (c_X2_init) rfl mk_X2_init (by decide +kernel) dX9_init_20 rfl rfl [8] rfl (by decide) (fit_of hR (by decide)) (Nat.le_of_ble_eq_true rfl) (fun v20 w20 hq20 hk20 => ?_)
  obtain ⟨rfl, a20, rfl⟩ := hq20
  refine aW_w (ws' := (x0, ob 9 [.ref (pa 0), .null, .null, .null, .null, .null]) :: (wP G pa PV0 ++ (wH G q8 a20 (fun _ => none) 0 0))) rfl ?_
  refine a_putF (T := TX9) (ci := 9) hB hN dX9_init_23 1 fl_X9_19 lay_X9 tyX9 tyX9_ok nmX9 rfl (by decide) rfl rfl rfl 0 rfl rfl rfl rfl (Nat.le_of_ble_eq_true rfl) ?_
  refine a_aload_n hB dX9_init_26 rfl ?_
  refine a_new (T := TX8) (ci := 8) (fs := [.null, .int 0]) hB dX9_init_27 cl_X9_23 lay_X8 tyX8 tyX8_ok is_X8 in_X8 rfl (fun j hj => by rcases (show j = 0 ∨ j = 1 by omega) with rfl | rfl <;> rfl) (roomc hR (Nat.le_of_ble_eq_true rfl)) (rooms hR (Nat.le_of_ble_eq_true rfl)) (fun q10 => ?_)
  refine a_dup hB dX9_init_30 rfl ?_
  refine a_callIN hB (c_X8_init) rfl mk_X8_init (by decide +kernel) dX9_init_31 rfl rfl [10] rfl (by decide) (fit_of hR (by decide)) (Nat.le_of_ble_eq_true rfl) (fun v31 w31 hq31 hk31 => ?_)
  obtain ⟨rfl, a31, rfl⟩ := hq31
  refine aW_w (ws' := (x0, ob 9 [.ref (pa 0), .ref q8, .null, .null, .null, .null]) :: (wP G pa PV0 ++ (wH G q8 a20 (fun _ => none) 0 0 ++ (wX G q10 a31 0 (fun _ => 0))))) rfl ?_
  refine a_putF (T := TX9) (ci := 9) hB hN dX9_init_34 2 fl_X9_26 lay_X9 tyX9 tyX9_ok nmX9 rfl (by decide) rfl rfl rfl 0 rfl rfl rfl rfl (Nat.le_of_ble_eq_true rfl) ?_
  refine a_aload_n hB dX9_init_37 rfl ?_
  refine a_new (T := TX1) (ci := 1) (fs := [.null]) hB dX9_init_38 cl_X9_30 lay_X1 tyX1 tyX1_ok is_X1 in_X1 rfl (fun j hj => by rcases (show j = 0 by omega) with rfl <;> rfl) (roomc hR (Nat.le_of_ble_eq_true rfl)) (rooms hR (Nat.le_of_ble_eq_true rfl)) (fun q12 => ?_)
  refine a_dup hB dX9_init_41 rfl ?_
  refine a_callIN hB (c_X1_init) rfl mk_X1_init (by decide +kernel) dX9_init_42 rfl rfl [12] rfl (by decide) (fit_of hR (by decide)) (Nat.le_of_ble_eq_true rfl) (fun v42 w42 hq42 hk42 => ?_)
  obtain ⟨rfl, a42, rfl⟩ := hq42
  refine aW_w (ws' := (x0, ob 9 [.ref (pa 0), .ref q8, .ref q10, .null, .null, .null]) :: (wP G pa PV0 ++ (wH G q8 a20 (fun _ => none) 0 0 ++ (wX G q10 a31 0 (fun _ => 0) ++ (wK G q12 a42 (fun _ => 0)))))) rfl ?_
  refine a_putF (T := TX9) (ci := 9) hB hN dX9_init_45 3 fl_X9_33 lay_X9 tyX9 tyX9_ok nmX9 rfl (by decide) rfl rfl rfl 0 rfl rfl rfl rfl (Nat.le_of_ble_eq_true rfl) ?_
  refine a_aload_n hB dX9_init_48 rfl ?_
  refine a_new (T := TX3) (ci := 3) (fs := [.null]) hB dX9_init_49 cl_X9_37 lay_X3 tyX3 tyX3_ok is_X3 in_X3 rfl (fun j hj => by rcases (show j = 0 by omega) with rfl <;> rfl) (roomc hR (Nat.le_of_ble_eq_true rfl)) (rooms hR (Nat.le_of_ble_eq_true rfl)) (fun q14 => ?_)
  refine a_dup hB dX9_init_52 rfl ?_
  refine a_callIN hB (c_X3_init) rfl mk_X3_init (by decide +kernel) dX9_init_53 rfl rfl [14] rfl (by decide) (fit_of hR (by decide)) (Nat.le_of_ble_eq_true rfl) (fun v53 w53 hq53 hk53 => ?_)
  obtain ⟨rfl, a53, rfl⟩ := hq53
  refine aW_w (ws' := (x0, ob 9 [.ref (pa 0), .ref q8, .ref q10, .ref q12, .null, .null]) :: (wP G pa PV0 ++ (wH G q8 a20 (fun _ => none) 0 0 ++ (wX G q10 a31 0 (fun _ => 0) ++ (wK G q12 a42 (fun _ => 0) ++ (wI G q14 a53 (fun _ => 0))))))) rfl ?_
  refine a_putF (T := TX9) (ci := 9) hB hN dX9_init_56 4 fl_X9_40 lay_X9 tyX9 tyX9_ok nmX9 rfl (by decide) rfl rfl rfl 0 rfl rfl rfl rfl (Nat.le_of_ble_eq_true rfl) ?_
  refine a_aload_n hB dX9_init_59 rfl ?_
  refine a_new (T := TX0) (ci := 0) (fs := [.null]) hB dX9_init_60 cl_X9_44 lay_X0 tyX0 tyX0_ok is_X0 in_X0 rfl (fun j hj => by rcases (show j = 0 by omega) with rfl <;> rfl) (roomc hR (Nat.le_of_ble_eq_true rfl)) (rooms hR (Nat.le_of_ble_eq_true rfl)) (fun q16 => ?_)
  refine a_dup hB dX9_init_63 rfl ?_
  refine a_callIN hB (c_X0_init) rfl mk_X0_init (by decide +kernel) dX9_init_64 rfl rfl [16] rfl (by decide) (fit_of hR (by decide)) (Nat.le_of_ble_eq_true rfl) (fun v64 w64 hq64 hk64 => ?_)
  obtain ⟨rfl, a64, rfl⟩ := hq64
  refine aW_w (ws' := (x0, ob 9 [.ref (pa 0), .ref q8, .ref q10, .ref q12, .ref q14, .null]) :: (wP G pa PV0 ++ (wH G q8 a20 (fun _ => none) 0 0 ++ (wX G q10 a31 0 (fun _ => 0) ++ (wK G q12 a42 (fun _ => 0) ++ (wI G q14 a53 (fun _ => 0) ++ (wC G q16 a64 (fun _ => FP.dconst0)))))))) rfl ?_
  refine a_putF (T := TX9) (ci := 9) hB hN dX9_init_67 5 fl_X9_47 lay_X9 tyX9 tyX9_ok nmX9 rfl (by decide) rfl rfl rfl 0 rfl rfl rfl rfl (Nat.le_of_ble_eq_true rfl) ?_
  exact a_vret hB hE rfl dX9_init_70 (Nat.le_of_ble_eq_true rfl) (Nat.le_of_ble_eq_true rfl) (AKeep.of rfl) ⟨rfl, (fun i => [x0, q8, a20, q10, a31, q12, a42, q14, a53, q16, a64].getD i 0), pa, rfl, rfl⟩

