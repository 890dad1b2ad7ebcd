set_option maxHeartbeats 4000000 in
set_option maxRecDepth 100000 in
theorem x_X9_addPart_r {G : GP} (hF : G.l.stackTraces = false) {xa pa : Nat → Nat} {P : PV} {pl : Nat → Option Nat} {nx num len : Nat} {cs f m : Nat → Nat} {g : Nat → UInt64} {x : Int32} (hx : x < 0 ∨ nI 6 ≤ x) : AMX G sX9_addPart 1 6 [.ref (xa 0), .int x] (wR G xa pa P pl nx num [] len cs f m g) (fun _ _ => False) (fun E w => E = xIAE ∧ w = wR G xa pa P pl nx num [] len cs f m g) := by
  refine AMX.of (σ := sX9_addPart) (by decide +kernel) (by decide +kernel) (Nat.le_of_ble_eq_true rfl) (fun B hB hR hE0 hT => ?_)
  have hE := BE.ofX hE0
  refine a_iload_n hB dX9_addPart_0 rfl ?_
  refine a_if_lt (tgt := 10) hB dX9_addPart_1 (by decide) (fun c1 => ?_) (fun c1 => ?_)
  · exact a_throw (text := "greatest is out of range") hB hE0 hT hF rfl thIAE (by decide +kernel) dX9_addPart_10 dX9_addPart_13 dX9_addPart_14 dX9_addPart_16 dX9_addPart_19 (room6 hR (by decide)) (room82 hR (Nat.le_of_ble_eq_true rfl)) (roomc hR (Nat.le_of_ble_eq_true rfl)) (rooms hR (Nat.le_of_ble_eq_true rfl)) (Nat.le_of_ble_eq_true rfl) (Nat.le_of_ble_eq_true rfl) (AKeep.of rfl) ⟨rfl, rfl⟩
  · refine a_iload_n hB dX9_addPart_4 rfl ?_
    refine a_bipushN (v := 6) hB dX9_addPart_5 (by decide) ?_
    refine a_icmp_lt (tgt := 20) hB dX9_addPart_7 (by decide) (fun c7 => ?_) (fun c7 => ?_)
    · exact (hx.elim (fun z => absurd z c1) (fun z => absurd c7 (Int32.not_lt.mpr z)))
    · exact a_throw (text := "greatest is out of range") hB hE0 hT hF rfl thIAE (by decide +kernel) dX9_addPart_10 dX9_addPart_13 dX9_addPart_14 dX9_addPart_16 dX9_addPart_19 (room6 hR (by decide)) (room82 hR (Nat.le_of_ble_eq_true rfl)) (roomc hR (Nat.le_of_ble_eq_true rfl)) (rooms hR (Nat.le_of_ble_eq_true rfl)) (Nat.le_of_ble_eq_true rfl) (Nat.le_of_ble_eq_true rfl) (AKeep.of rfl) ⟨rfl, rfl⟩
set_option maxHeartbeats 4000000 in
set_option maxRecDepth 100000 in
theorem x_X9_addPart_s {G : GP} (hF : G.l.stackTraces = false) {xa pa : Nat → Nat} {P : PV} {pl : Nat → Option Nat} {nx num len : Nat} {cs f m : Nat → Nat} {g : Nat → UInt64} {v : Nat} (hv : v < 6) (h6 : 6 ≤ P.parts) (h62 : P.parts ≤ 6) : AMX G sX9_addPart 1 6 [.ref (xa 0), .int (nI v)] (wR G xa pa P pl nx num [] len cs f m g) (fun _ _ => False) (fun E w => E = xISE ∧ w = wR G xa pa P pl nx num [] len cs f m g) := by
  refine AMX.of (σ := sX9_addPart) (by decide +kernel) (by decide +kernel) (Nat.le_of_ble_eq_true rfl) (fun B hB hR hE0 hT => ?_)
  have hE := BE.ofX hE0
  refine a_iload_n hB dX9_addPart_0 rfl ?_
  refine a_if_ltN_f (tgt := 10) hB dX9_addPart_1 (by decide) (by omega) ?_
  refine a_iload_n hB dX9_addPart_4 rfl ?_
  refine a_bipushN (v := 6) hB dX9_addPart_5 (by decide) ?_
  refine a_icmp_ltN_t (tgt := 20) hB dX9_addPart_7 (by decide) (by omega) (by omega) (by omega) ?_
  refine a_aload_n hB dX9_addPart_20 rfl ?_
  refine a_get (T := TX9) (ci := 9) hB dX9_addPart_21 0 fl_X9_12 lay_X9 rfl (by decide) rfl 0 rfl rfl ?_
  refine a_get (T := TX4) (ci := 4) hB dX9_addPart_24 3 fl_X9_58 lay_X4 rfl (by decide) rfl 1 rfl rfl ?_
  refine a_bipushN (v := 6) hB dX9_addPart_27 (by decide) ?_
  refine a_icmp_ltN_f (tgt := 42) hB dX9_addPart_29 (by decide) (by omega) (by omega) (by omega) ?_
  exact a_throw (text := "there are 6 parts") hB hE0 hT hF rfl thISE (by decide +kernel) dX9_addPart_32 dX9_addPart_35 dX9_addPart_36 dX9_addPart_38 dX9_addPart_41 (room6 hR (by decide)) (room82 hR (Nat.le_of_ble_eq_true rfl)) (roomc hR (Nat.le_of_ble_eq_true rfl)) (rooms hR (Nat.le_of_ble_eq_true rfl)) (Nat.le_of_ble_eq_true rfl) (Nat.le_of_ble_eq_true rfl) (AKeep.of rfl) ⟨rfl, rfl⟩
set_option maxHeartbeats 4000000 in
set_option maxRecDepth 100000 in
theorem x_X9_removePart_p {G : GP} (hF : G.l.stackTraces = false) {xa pa : Nat → Nat} {P : PV} {pl : Nat → Option Nat} {nx num len : Nat} {cs f m : Nat → Nat} {g : Nat → UInt64} {x : Int32} (hx : x < 0 ∨ nI P.parts ≤ x) : AMX G sX9_removePart 1 6 [.ref (xa 0), .int x] (wR G xa pa P pl nx num [] len cs f m g) (fun _ _ => False) (fun E w => E = xIOB ∧ w = wR G xa pa P pl nx num [] len cs f m g) := by
  refine AMX.of (σ := sX9_removePart) (by decide +kernel) (by decide +kernel) (Nat.le_of_ble_eq_true rfl) (fun B hB hR hE0 hT => ?_)
  have hE := BE.ofX hE0
  refine a_aload_n hB dX9_removePart_0 rfl ?_
  refine a_iload_n hB dX9_removePart_1 rfl ?_
  refine a_callVX (q0 := 0) hB (x_X9_requirePart hF hx) mk_X9_requirePart ml_X9_79 dX9_removePart_2 rfl rfl [0, 1] rfl (by decide) rfl rfl (fit_of hR (by decide)) (Nat.le_of_ble_eq_true rfl) (fun E2 w2 hq2 hk2 => ?_) (fun v2 w2 hq2 hk2 => ?_)
  · obtain ⟨rfl, rfl⟩ := hq2
    exact aX_out hB hE0 hT (Nat.le_of_ble_eq_true rfl) (Nat.le_of_ble_eq_true rfl) (AKeep.of rfl) ⟨rfl, rfl⟩
  exact hq2.elim
set_option maxHeartbeats 4000000 in
set_option maxRecDepth 100000 in
theorem x_X9_weigh_p {G : GP} (hF : G.l.stackTraces = false) {xa pa : Nat → Nat} {P : PV} {pl : Nat → Option Nat} {nx num len : Nat} {cs f m : Nat → Nat} {g : Nat → UInt64} {x y z : Int32} (hx : x < 0 ∨ nI P.parts ≤ x) : AMX G sX9_weigh 1 6 [.ref (xa 0), .int x, .int y, .int z] (wR G xa pa P pl nx num [] len cs f m g) (fun _ _ => False) (fun E w => E = xIOB ∧ w = wR G xa pa P pl nx num [] len cs f m g) := by
  refine AMX.of (σ := sX9_weigh) (by decide +kernel) (by decide +kernel) (Nat.le_of_ble_eq_true rfl) (fun B hB hR hE0 hT => ?_)
  have hE := BE.ofX hE0
  refine a_aload_n hB dX9_weigh_0 rfl ?_
  refine a_iload_n hB dX9_weigh_1 rfl ?_
  refine a_callVX (q0 := 0) hB (x_X9_requirePart hF hx) mk_X9_requirePart ml_X9_79 dX9_weigh_2 rfl rfl [0, 1] rfl (by decide) rfl rfl (fit_of hR (by decide)) (Nat.le_of_ble_eq_true rfl) (fun E2 w2 hq2 hk2 => ?_) (fun v2 w2 hq2 hk2 => ?_)
  · obtain ⟨rfl, rfl⟩ := hq2
    exact aX_out hB hE0 hT (Nat.le_of_ble_eq_true rfl) (Nat.le_of_ble_eq_true rfl) (AKeep.of rfl) ⟨rfl, rfl⟩
  exact hq2.elim
set_option maxHeartbeats 4000000 in
set_option maxRecDepth 100000 in
theorem x_X9_weigh_l {G : GP} (hF : G.l.stackTraces = false) {xa pa : Nat → Nat} {P : PV} {pl : Nat → Option Nat} {nx num len : Nat} {cs f m : Nat → Nat} {g : Nat → UInt64} {p : Nat} {x z : Int32} (hp : p < P.parts) (h6 : P.parts ≤ 6) (hx : x < 0 ∨ nI 6 ≤ x) : AMX G sX9_weigh 1 6 [.ref (xa 0), .int (nI p), .int x, .int z] (wR G xa pa P pl nx num [] len cs f m g) (fun _ _ => False) (fun E w => E = xIOB ∧ w = wR G xa pa P pl nx num [] len cs f m g) := by
  refine AMX.of (σ := sX9_weigh) (by decide +kernel) (by decide +kernel) (Nat.le_of_ble_eq_true rfl) (fun B hB hR hE0 hT => ?_)
  have hE := BE.ofX hE0
  refine a_aload_n hB dX9_weigh_0 rfl ?_
  refine a_iload_n hB dX9_weigh_1 rfl ?_
  refine a_callVr (q0 := 0) hB (c_X9_requirePart (n := P.parts) (by omega) (by omega)) mk_X9_requirePart ml_X9_79 dX9_weigh_2 rfl rfl [0, 1] rfl (by decide) rfl rfl (fit_of hR (by decide)) (Nat.le_of_ble_eq_true rfl) ?_
  refine a_iload_n hB dX9_weigh_5 rfl ?_
  refine a_callSX hB (x_X9_requireLoad hF hx) mk_X9_requireLoad ml_X9_86 dX9_weigh_6 rfl rfl [] rfl (by decide) (fit_of hR (by decide)) (Nat.le_of_ble_eq_true rfl) (fun E6 w6 hq6 hk6 => ?_) (fun v6 w6 hq6 hk6 => ?_)
  · obtain ⟨rfl, rfl⟩ := hq6
    exact aX_out hB hE0 hT (Nat.le_of_ble_eq_true rfl) (Nat.le_of_ble_eq_true rfl) (AKeep.of rfl) ⟨rfl, rfl⟩
  exact hq6.elim
set_option maxHeartbeats 4000000 in
set_option maxRecDepth 100000 in
theorem x_X9_weigh_r {G : GP} (hF : G.l.stackTraces = false) {xa pa : Nat → Nat} {P : PV} {pl : Nat → Option Nat} {nx num len : Nat} {cs f m : Nat → Nat} {g : Nat → UInt64} {p l : Nat} {x : Int32} (hp : p < P.parts) (h6 : P.parts ≤ 6) (hl : l < 6) (hx : x < nI 0 ∨ nI 9 < x) : AMX G sX9_weigh 1 6 [.ref (xa 0), .int (nI p), .int (nI l), .int x] (wR G xa pa P pl nx num [] len cs f m g) (fun _ _ => False) (fun E w => E = xIAE ∧ w = wR G xa pa P pl nx num [] len cs f m g) := by
  refine AMX.of (σ := sX9_weigh) (by decide +kernel) (by decide +kernel) (Nat.le_of_ble_eq_true rfl) (fun B hB hR hE0 hT => ?_)
  have hE := BE.ofX hE0
  refine a_aload_n hB dX9_weigh_0 rfl ?_
  refine a_iload_n hB dX9_weigh_1 rfl ?_
  refine a_callVr (q0 := 0) hB (c_X9_requirePart (n := P.parts) (by omega) (by omega)) mk_X9_requirePart ml_X9_79 dX9_weigh_2 rfl rfl [0, 1] rfl (by decide) rfl rfl (fit_of hR (by decide)) (Nat.le_of_ble_eq_true rfl) ?_
  refine a_iload_n hB dX9_weigh_5 rfl ?_
  refine a_callSr hB (c_X9_requireLoad (by omega)) mk_X9_requireLoad ml_X9_86 dX9_weigh_6 rfl rfl [] rfl (by decide) (fit_of hR (by decide)) (Nat.le_of_ble_eq_true rfl) ?_
  refine a_iload_n hB dX9_weigh_9 rfl ?_
  refine a_iconstN (v := 0) hB dX9_weigh_10 (by decide) ?_
  refine a_bipushN (v := 9) hB dX9_weigh_11 (by decide) ?_
  refine a_callSX hB (x_X9_requireRange hF hx) mk_X9_requireRange ml_X9_89 dX9_weigh_13 rfl rfl [] rfl (by decide) (fit_of hR (by decide)) (Nat.le_of_ble_eq_true rfl) (fun E13 w13 hq13 hk13 => ?_) (fun v13 w13 hq13 hk13 => ?_)
  · obtain ⟨rfl, rfl⟩ := hq13
    exact aX_out hB hE0 hT (Nat.le_of_ble_eq_true rfl) (Nat.le_of_ble_eq_true rfl) (AKeep.of rfl) ⟨rfl, rfl⟩
  exact hq13.elim
set_option maxHeartbeats 4000000 in
set_option maxRecDepth 100000 in
theorem x_X9_tilt_p {G : GP} (hF : G.l.stackTraces = false) {xa pa : Nat → Nat} {P : PV} {pl : Nat → Option Nat} {nx num len : Nat} {cs f m : Nat → Nat} {g : Nat → UInt64} {x y z : Int32} (hx : x < 0 ∨ nI P.parts ≤ x) : AMX G sX9_tilt 1 6 [.ref (xa 0), .int x, .int y, .int z] (wR G xa pa P pl nx num [] len cs f m g) (fun _ _ => False) (fun E w => E = xIOB ∧ w = wR G xa pa P pl nx num [] len cs f m g) := by
  refine AMX.of (σ := sX9_tilt) (by decide +kernel) (by decide +kernel) (Nat.le_of_ble_eq_true rfl) (fun B hB hR hE0 hT => ?_)
  have hE := BE.ofX hE0
  refine a_aload_n hB dX9_tilt_0 rfl ?_
  refine a_iload_n hB dX9_tilt_1 rfl ?_
  refine a_callVX (q0 := 0) hB (x_X9_requirePart hF hx) mk_X9_requirePart ml_X9_79 dX9_tilt_2 rfl rfl [0, 1] rfl (by decide) rfl rfl (fit_of hR (by decide)) (Nat.le_of_ble_eq_true rfl) (fun E2 w2 hq2 hk2 => ?_) (fun v2 w2 hq2 hk2 => ?_)
  · obtain ⟨rfl, rfl⟩ := hq2
    exact aX_out hB hE0 hT (Nat.le_of_ble_eq_true rfl) (Nat.le_of_ble_eq_true rfl) (AKeep.of rfl) ⟨rfl, rfl⟩
  exact hq2.elim
set_option maxHeartbeats 4000000 in
set_option maxRecDepth 100000 in
theorem x_X9_tilt_l {G : GP} (hF : G.l.stackTraces = false) {xa pa : Nat → Nat} {P : PV} {pl : Nat → Option Nat} {nx num len : Nat} {cs f m : Nat → Nat} {g : Nat → UInt64} {p : Nat} {x z : Int32} (hp : p < P.parts) (h6 : P.parts ≤ 6) (hx : x < 0 ∨ nI 6 ≤ x) : AMX G sX9_tilt 1 6 [.ref (xa 0), .int (nI p), .int x, .int z] (wR G xa pa P pl nx num [] len cs f m g) (fun _ _ => False) (fun E w => E = xIOB ∧ w = wR G xa pa P pl nx num [] len cs f m g) := by
  refine AMX.of (σ := sX9_tilt) (by decide +kernel) (by decide +kernel) (Nat.le_of_ble_eq_true rfl) (fun B hB hR hE0 hT => ?_)
  have hE := BE.ofX hE0
  refine a_aload_n hB dX9_tilt_0 rfl ?_
  refine a_iload_n hB dX9_tilt_1 rfl ?_
  refine a_callVr (q0 := 0) hB (c_X9_requirePart (n := P.parts) (by omega) (by omega)) mk_X9_requirePart ml_X9_79 dX9_tilt_2 rfl rfl [0, 1] rfl (by decide) rfl rfl (fit_of hR (by decide)) (Nat.le_of_ble_eq_true rfl) ?_
  refine a_iload_n hB dX9_tilt_5 rfl ?_
  refine a_callSX hB (x_X9_requireLoad hF hx) mk_X9_requireLoad ml_X9_86 dX9_tilt_6 rfl rfl [] rfl (by decide) (fit_of hR (by decide)) (Nat.le_of_ble_eq_true rfl) (fun E6 w6 hq6 hk6 => ?_) (fun v6 w6 hq6 hk6 => ?_)
  · obtain ⟨rfl, rfl⟩ := hq6
    exact aX_out hB hE0 hT (Nat.le_of_ble_eq_true rfl) (Nat.le_of_ble_eq_true rfl) (AKeep.of rfl) ⟨rfl, rfl⟩
  exact hq6.elim
set_option maxHeartbeats 4000000 in
set_option maxRecDepth 100000 in
theorem x_X9_tilt_r {G : GP} (hF : G.l.stackTraces = false) {xa pa : Nat → Nat} {P : PV} {pl : Nat → Option Nat} {nx num len : Nat} {cs f m : Nat → Nat} {g : Nat → UInt64} {p l : Nat} {x : Int32} (hp : p < P.parts) (h6 : P.parts ≤ 6) (hl : l < 6) (hx : x < nI 1 ∨ nI 99 < x) : AMX G sX9_tilt 1 6 [.ref (xa 0), .int (nI p), .int (nI l), .int x] (wR G xa pa P pl nx num [] len cs f m g) (fun _ _ => False) (fun E w => E = xIAE ∧ w = wR G xa pa P pl nx num [] len cs f m g) := by
  refine AMX.of (σ := sX9_tilt) (by decide +kernel) (by decide +kernel) (Nat.le_of_ble_eq_true rfl) (fun B hB hR hE0 hT => ?_)
  have hE := BE.ofX hE0
  refine a_aload_n hB dX9_tilt_0 rfl ?_
  refine a_iload_n hB dX9_tilt_1 rfl ?_
  refine a_callVr (q0 := 0) hB (c_X9_requirePart (n := P.parts) (by omega) (by omega)) mk_X9_requirePart ml_X9_79 dX9_tilt_2 rfl rfl [0, 1] rfl (by decide) rfl rfl (fit_of hR (by decide)) (Nat.le_of_ble_eq_true rfl) ?_
  refine a_iload_n hB dX9_tilt_5 rfl ?_
  refine a_callSr hB (c_X9_requireLoad (by omega)) mk_X9_requireLoad ml_X9_86 dX9_tilt_6 rfl rfl [] rfl (by decide) (fit_of hR (by decide)) (Nat.le_of_ble_eq_true rfl) ?_
  refine a_iload_n hB dX9_tilt_9 rfl ?_
  refine a_iconstN (v := 1) hB dX9_tilt_10 (by decide) ?_
  refine a_bipushN (v := 99) hB dX9_tilt_11 (by decide) ?_
  refine a_callSX hB (x_X9_requireRange hF hx) mk_X9_requireRange ml_X9_89 dX9_tilt_13 rfl rfl [] rfl (by decide) (fit_of hR (by decide)) (Nat.le_of_ble_eq_true rfl) (fun E13 w13 hq13 hk13 => ?_) (fun v13 w13 hq13 hk13 => ?_)
  · obtain ⟨rfl, rfl⟩ := hq13
    exact aX_out hB hE0 hT (Nat.le_of_ble_eq_true rfl) (Nat.le_of_ble_eq_true rfl) (AKeep.of rfl) ⟨rfl, rfl⟩
  exact hq13.elim
set_option maxHeartbeats 4000000 in
set_option maxRecDepth 100000 in
theorem x_X9_weigh_s {G : GP} (hF : G.l.stackTraces = false) {xa pa : Nat → Nat} {P : PV} {pl : Nat → Option Nat} {nx num len : Nat} {cs f m : Nat → Nat} {g : Nat → UInt64} {p l v : Nat} (hp : p < P.parts) (h6 : P.parts ≤ 6) (hl : l < 6) (hv : v = 0) (hw : ∀ j, P.wt j ≤ 9) (ht : ∀ j, P.tl j ≤ 99) (hz : tot P.wt p = gt P.wt p l) : AMX G sX9_weigh 1 6 [.ref (xa 0), .int (nI p), .int (nI l), .int (nI v)] (wR G xa pa P pl nx num [] len cs f m g) (fun _ _ => False) (fun E w => E = xISE ∧ w = wR G xa pa P pl nx num [] len cs f m g) := by
  refine AMX.of (σ := sX9_weigh) (by decide +kernel) (by decide +kernel) (Nat.le_of_ble_eq_true rfl) (fun B hB hR hE0 hT => ?_)
  have hE := BE.ofX hE0
  have hg := gt_lt hw p l
  have htt := tot_le hw p
  refine a_aload_n hB dX9_weigh_0 rfl ?_
  refine a_iload_n hB dX9_weigh_1 rfl ?_
  refine a_callVr (q0 := 0) hB (c_X9_requirePart (n := P.parts) (by omega) (by omega)) mk_X9_requirePart ml_X9_79 dX9_weigh_2 rfl rfl [0, 1] rfl (by decide) rfl rfl (fit_of hR (by decide)) (Nat.le_of_ble_eq_true rfl) ?_
  refine a_iload_n hB dX9_weigh_5 rfl ?_
  refine a_callSr hB (c_X9_requireLoad (by omega)) mk_X9_requireLoad ml_X9_86 dX9_weigh_6 rfl rfl [] rfl (by decide) (fit_of hR (by decide)) (Nat.le_of_ble_eq_true rfl) ?_
  refine a_iload_n hB dX9_weigh_9 rfl ?_
  refine a_iconstN (v := 0) hB dX9_weigh_10 (by decide) ?_
  refine a_bipushN (v := 9) hB dX9_weigh_11 (by decide) ?_
  refine a_callSr hB (c_X9_requireRange (by omega) (by omega) (by omega)) mk_X9_requireRange ml_X9_89 dX9_weigh_13 rfl rfl [] rfl (by decide) (fit_of hR (by decide)) (Nat.le_of_ble_eq_true rfl) ?_
  refine a_aload_n hB dX9_weigh_16 rfl ?_
  refine a_get (T := TX9) (ci := 9) hB dX9_weigh_17 0 fl_X9_12 lay_X9 rfl (by decide) rfl 0 rfl rfl ?_
  refine a_get (T := TX4) (ci := 4) hB dX9_weigh_20 0 fl_X9_92 lay_X4 rfl (by decide) rfl 1 rfl rfl ?_
  refine a_iload_n hB dX9_weigh_23 rfl ?_
  refine a_iload_n hB dX9_weigh_24 rfl ?_
  refine a_callVr (q0 := 2) hB (c_X7_get (by omega) (by omega)) mk_X7_get ml_X9_96 dX9_weigh_25 rfl rfl [2, 3] rfl (by decide) rfl rfl (fit_of hR (by decide)) (Nat.le_of_ble_eq_true rfl) ?_
  refine a_istore hB dX9_weigh_28 (by decide) ?_
  refine a_iload_n hB dX9_weigh_30 rfl ?_
  refine a_if_neN_f (tgt := 60) hB dX9_weigh_31 (by decide) (by omega) (by omega) ?_
  refine a_aload_n hB dX9_weigh_34 rfl ?_
  refine a_get (T := TX9) (ci := 9) hB dX9_weigh_35 0 fl_X9_12 lay_X9 rfl (by decide) rfl 0 rfl rfl ?_
  refine a_get (T := TX4) (ci := 4) hB dX9_weigh_38 0 fl_X9_92 lay_X4 rfl (by decide) rfl 1 rfl rfl ?_
  refine a_iload_n hB dX9_weigh_41 rfl ?_
  refine a_callVr (q0 := 2) hB (c_X7_totalOf (by omega)) mk_X7_totalOf ml_X9_102 dX9_weigh_42 rfl rfl [2, 3] rfl (by decide) rfl rfl (fit_of hR (by decide)) (Nat.le_of_ble_eq_true rfl) ?_
  refine a_iload hB dX9_weigh_45 rfl ?_
  refine a_icmp_neN_f (tgt := 60) hB dX9_weigh_47 (by decide) (by omega) (by omega) (by omega) ?_
  exact a_throw (text := "all weights of the part would be 0") hB hE0 hT hF rfl thISE (by decide +kernel) dX9_weigh_50 dX9_weigh_53 dX9_weigh_54 dX9_weigh_56 dX9_weigh_59 (room6 hR (by decide)) (room82 hR (Nat.le_of_ble_eq_true rfl)) (roomc hR (Nat.le_of_ble_eq_true rfl)) (rooms hR (Nat.le_of_ble_eq_true rfl)) (Nat.le_of_ble_eq_true rfl) (Nat.le_of_ble_eq_true rfl) (AKeep.of rfl) ⟨rfl, rfl⟩
set_option maxHeartbeats 4000000 in
set_option maxRecDepth 100000 in
theorem x_X9_tilt_s {G : GP} (hF : G.l.stackTraces = false) {xa pa : Nat → Nat} {P : PV} {pl : Nat → Option Nat} {nx num len : Nat} {cs f m : Nat → Nat} {g : Nat → UInt64} {p l v : Nat} (hp : p < P.parts) (h6 : P.parts ≤ 6) (hl : l < 6) (h1 : 1 ≤ v) (hv : v ≤ 99) (hw : ∀ j, P.wt j ≤ 9) (ht : ∀ j, P.tl j ≤ 99) (hz : gt P.wt p l = 0) : AMX G sX9_tilt 1 6 [.ref (xa 0), .int (nI p), .int (nI l), .int (nI v)] (wR G xa pa P pl nx num [] len cs f m g) (fun _ _ => False) (fun E w => E = xISE ∧ w = wR G xa pa P pl nx num [] len cs f m g) := by
  refine AMX.of (σ := sX9_tilt) (by decide +kernel) (by decide +kernel) (Nat.le_of_ble_eq_true rfl) (fun B hB hR hE0 hT => ?_)
  have hE := BE.ofX hE0
  have hg := gt_lt hw p l
  refine a_aload_n hB dX9_tilt_0 rfl ?_
  refine a_iload_n hB dX9_tilt_1 rfl ?_
  refine a_callVr (q0 := 0) hB (c_X9_requirePart (n := P.parts) (by omega) (by omega)) mk_X9_requirePart ml_X9_79 dX9_tilt_2 rfl rfl [0, 1] rfl (by decide) rfl rfl (fit_of hR (by decide)) (Nat.le_of_ble_eq_true rfl) ?_
  refine a_iload_n hB dX9_tilt_5 rfl ?_
  refine a_callSr hB (c_X9_requireLoad (by omega)) mk_X9_requireLoad ml_X9_86 dX9_tilt_6 rfl rfl [] rfl (by decide) (fit_of hR (by decide)) (Nat.le_of_ble_eq_true rfl) ?_
  refine a_iload_n hB dX9_tilt_9 rfl ?_
  refine a_iconstN (v := 1) hB dX9_tilt_10 (by decide) ?_
  refine a_bipushN (v := 99) hB dX9_tilt_11 (by decide) ?_
  refine a_callSr hB (c_X9_requireRange (by omega) (by omega) (by omega)) mk_X9_requireRange ml_X9_89 dX9_tilt_13 rfl rfl [] rfl (by decide) (fit_of hR (by decide)) (Nat.le_of_ble_eq_true rfl) ?_
  refine a_aload_n hB dX9_tilt_16 rfl ?_
  refine a_get (T := TX9) (ci := 9) hB dX9_tilt_17 0 fl_X9_12 lay_X9 rfl (by decide) rfl 0 rfl rfl ?_
  refine a_get (T := TX4) (ci := 4) hB dX9_tilt_20 0 fl_X9_92 lay_X4 rfl (by decide) rfl 1 rfl rfl ?_
  refine a_iload_n hB dX9_tilt_23 rfl ?_
  refine a_iload_n hB dX9_tilt_24 rfl ?_
  refine a_callVr (q0 := 2) hB (c_X7_get (by omega) (by omega)) mk_X7_get ml_X9_96 dX9_tilt_25 rfl rfl [2, 3] rfl (by decide) rfl rfl (fit_of hR (by decide)) (Nat.le_of_ble_eq_true rfl) ?_
  refine a_if_neN_f (tgt := 41) hB dX9_tilt_28 (by decide) (by omega) (by omega) ?_
  exact a_throw (text := "the weight of this load is 0") hB hE0 hT hF rfl thISE (by decide +kernel) dX9_tilt_31 dX9_tilt_34 dX9_tilt_35 dX9_tilt_37 dX9_tilt_40 (room6 hR (by decide)) (room82 hR (Nat.le_of_ble_eq_true rfl)) (roomc hR (Nat.le_of_ble_eq_true rfl)) (rooms hR (Nat.le_of_ble_eq_true rfl)) (Nat.le_of_ble_eq_true rfl) (Nat.le_of_ble_eq_true rfl) (AKeep.of rfl) ⟨rfl, rfl⟩
set_option maxHeartbeats 4000000 in
set_option maxRecDepth 100000 in
theorem x_X9_tiltAll_r {G : GP} (hF : G.l.stackTraces = false) {xa pa : Nat → Nat} {P : PV} {pl : Nat → Option Nat} {nx num len : Nat} {cs f m : Nat → Nat} {g : Nat → UInt64} {x : Int32} (hx : x < nI 0 ∨ nI 9 < x) : AMX G sX9_tiltAll 1 6 [.ref (xa 0), .int x] (wR G xa pa P pl nx num [] len cs f m g) (fun _ _ => False) (fun E w => E = xIAE ∧ w = wR G xa pa P pl nx num [] len cs f m g) := by
  refine AMX.of (σ := sX9_tiltAll) (by decide +kernel) (by decide +kernel) (Nat.le_of_ble_eq_true rfl) (fun B hB hR hE0 hT => ?_)
  have hE := BE.ofX hE0
  refine a_iload_n hB dX9_tiltAll_0 rfl ?_
  refine a_iconstN (v := 0) hB dX9_tiltAll_1 (by decide) ?_
  refine a_bipushN (v := 9) hB dX9_tiltAll_2 (by decide) ?_
  refine a_callSX hB (x_X9_requireRange hF hx) mk_X9_requireRange ml_X9_89 dX9_tiltAll_4 rfl rfl [] rfl (by decide) (fit_of hR (by decide)) (Nat.le_of_ble_eq_true rfl) (fun E4 w4 hq4 hk4 => ?_) (fun v4 w4 hq4 hk4 => ?_)
  · obtain ⟨rfl, rfl⟩ := hq4
    exact aX_out hB hE0 hT (Nat.le_of_ble_eq_true rfl) (Nat.le_of_ble_eq_true rfl) (AKeep.of rfl) ⟨rfl, rfl⟩
  exact hq4.elim
set_option maxHeartbeats 4000000 in
set_option maxRecDepth 100000 in
theorem x_X9_limit_r {G : GP} (hF : G.l.stackTraces = false) {xa pa : Nat → Nat} {P : PV} {pl : Nat → Option Nat} {nx num len : Nat} {cs f m : Nat → Nat} {g : Nat → UInt64} {x : Int32} (hx : x < nI 0 ∨ nI 99 < x) : AMX G sX9_limit 1 6 [.ref (xa 0), .int x] (wR G xa pa P pl nx num [] len cs f m g) (fun _ _ => False) (fun E w => E = xIAE ∧ w = wR G xa pa P pl nx num [] len cs f m g) := by
  refine AMX.of (σ := sX9_limit) (by decide +kernel) (by decide +kernel) (Nat.le_of_ble_eq_true rfl) (fun B hB hR hE0 hT => ?_)
  have hE := BE.ofX hE0
  refine a_iload_n hB dX9_limit_0 rfl ?_
  refine a_iconstN (v := 0) hB dX9_limit_1 (by decide) ?_
  refine a_bipushN (v := 99) hB dX9_limit_2 (by decide) ?_
  refine a_callSX hB (x_X9_requireRange hF hx) mk_X9_requireRange ml_X9_89 dX9_limit_4 rfl rfl [] rfl (by decide) (fit_of hR (by decide)) (Nat.le_of_ble_eq_true rfl) (fun E4 w4 hq4 hk4 => ?_) (fun v4 w4 hq4 hk4 => ?_)
  · obtain ⟨rfl, rfl⟩ := hq4
    exact aX_out hB hE0 hT (Nat.le_of_ble_eq_true rfl) (Nat.le_of_ble_eq_true rfl) (AKeep.of rfl) ⟨rfl, rfl⟩
  exact hq4.elim
set_option maxHeartbeats 4000000 in
set_option maxRecDepth 100000 in
theorem x_X9_seed_r {G : GP} (hF : G.l.stackTraces = false) {xa pa : Nat → Nat} {P : PV} {pl : Nat → Option Nat} {nx num len : Nat} {cs f m : Nat → Nat} {g : Nat → UInt64} {x : Int32} (hx : x < 0) : AMX G sX9_seed 1 6 [.ref (xa 0), .int x] (wR G xa pa P pl nx num [] len cs f m g) (fun _ _ => False) (fun E w => E = xIAE ∧ w = wR G xa pa P pl nx num [] len cs f m g) := by
  refine AMX.of (σ := sX9_seed) (by decide +kernel) (by decide +kernel) (Nat.le_of_ble_eq_true rfl) (fun B hB hR hE0 hT => ?_)
  have hE := BE.ofX hE0
  refine a_iload_n hB dX9_seed_0 rfl ?_
  refine a_if_ge_f (tgt := 14) hB dX9_seed_1 (by decide) (Int32.not_le.mpr hx) ?_
  exact a_throw (text := "seed is below 0") hB hE0 hT hF rfl thIAE (by decide +kernel) dX9_seed_4 dX9_seed_7 dX9_seed_8 dX9_seed_10 dX9_seed_13 (room6 hR (by decide)) (room82 hR (Nat.le_of_ble_eq_true rfl)) (roomc hR (Nat.le_of_ble_eq_true rfl)) (rooms hR (Nat.le_of_ble_eq_true rfl)) (Nat.le_of_ble_eq_true rfl) (Nat.le_of_ble_eq_true rfl) (AKeep.of rfl) ⟨rfl, rfl⟩
set_option maxHeartbeats 4000000 in
set_option maxRecDepth 100000 in
theorem x_X9_draw_r {G : GP} (hF : G.l.stackTraces = false) {xa pa : Nat → Nat} {P : PV} {pl : Nat → Option Nat} {nx num len : Nat} {cs f m : Nat → Nat} {g : Nat → UInt64} {x : Int32} (hx : x < nI 1 ∨ nI 64 < x) : AMX G sX9_draw 1 6 [.ref (xa 0), .int x] (wR G xa pa P pl nx num [] len cs f m g) (fun _ _ => False) (fun E w => E = xIAE ∧ w = wR G xa pa P pl nx num [] len cs f m g) := by
  refine AMX.of (σ := sX9_draw) (by decide +kernel) (by decide +kernel) (Nat.le_of_ble_eq_true rfl) (fun B hB hR hE0 hT => ?_)
  have hE := BE.ofX hE0
  refine a_iload_n hB dX9_draw_0 rfl ?_
  refine a_iconstN (v := 1) hB dX9_draw_1 (by decide) ?_
  refine a_bipushN (v := 64) hB dX9_draw_2 (by decide) ?_
  refine a_callSX hB (x_X9_requireRange hF hx) mk_X9_requireRange ml_X9_89 dX9_draw_4 rfl rfl [] rfl (by decide) (fit_of hR (by decide)) (Nat.le_of_ble_eq_true rfl) (fun E4 w4 hq4 hk4 => ?_) (fun v4 w4 hq4 hk4 => ?_)
  · obtain ⟨rfl, rfl⟩ := hq4
    exact aX_out hB hE0 hT (Nat.le_of_ble_eq_true rfl) (Nat.le_of_ble_eq_true rfl) (AKeep.of rfl) ⟨rfl, rfl⟩
  exact hq4.elim
set_option maxHeartbeats 4000000 in
set_option maxRecDepth 100000 in
theorem x_X9_draw_s {G : GP} (hF : G.l.stackTraces = false) {xa pa : Nat → Nat} {P : PV} {pl : Nat → Option Nat} {nx num len : Nat} {cs f m : Nat → Nat} {g : Nat → UInt64} {v : Nat} (h1 : 1 ≤ v) (hv : v ≤ 64) (hn : P.sv.num ≤ 9999) (hs : 9999 < P.sv.num + v) : AMX G sX9_draw 1 6 [.ref (xa 0), .int (nI v)] (wR G xa pa P pl nx num [] len cs f m g) (fun _ _ => False) (fun E w => E = xISE ∧ w = wR G xa pa P pl nx num [] len cs f m g) := by
  refine AMX.of (σ := sX9_draw) (by decide +kernel) (by decide +kernel) (Nat.le_of_ble_eq_true rfl) (fun B hB hR hE0 hT => ?_)
  have hE := BE.ofX hE0
  refine a_iload_n hB dX9_draw_0 rfl ?_
  refine a_iconstN (v := 1) hB dX9_draw_1 (by decide) ?_
  refine a_bipushN (v := 64) hB dX9_draw_2 (by decide) ?_
  refine a_callSr hB (c_X9_requireRange (by omega) (by omega) (by omega)) mk_X9_requireRange ml_X9_89 dX9_draw_4 rfl rfl [] rfl (by decide) (fit_of hR (by decide)) (Nat.le_of_ble_eq_true rfl) ?_
  refine a_aload_n hB dX9_draw_7 rfl ?_
  refine a_get (T := TX9) (ci := 9) hB dX9_draw_8 0 fl_X9_12 lay_X9 rfl (by decide) rfl 0 rfl rfl ?_
  refine a_get (T := TX4) (ci := 4) hB dX9_draw_11 2 fl_X9_136 lay_X4 rfl (by decide) rfl 1 rfl rfl ?_
  refine a_get (T := TX5) (ci := 5) hB dX9_draw_14 1 fl_X9_140 lay_X5 rfl (by decide) rfl 6 rfl rfl ?_
  refine a_iload_n hB dX9_draw_17 rfl ?_
  refine a_iaddN hB dX9_draw_18 ?_
  refine a_sipushN (v := 9999) hB dX9_draw_19 (by decide) ?_
  refine a_icmp_leN_f (tgt := 35) hB dX9_draw_22 (by decide) (by omega) (by omega) (by omega) ?_
  exact a_throw (text := "there would be more than 9999 samples") hB hE0 hT hF rfl thISE (by decide +kernel) dX9_draw_25 dX9_draw_28 dX9_draw_29 dX9_draw_31 dX9_draw_34 (room6 hR (by decide)) (room82 hR (Nat.le_of_ble_eq_true rfl)) (roomc hR (Nat.le_of_ble_eq_true rfl)) (rooms hR (Nat.le_of_ble_eq_true rfl)) (Nat.le_of_ble_eq_true rfl) (Nat.le_of_ble_eq_true rfl) (AKeep.of rfl) ⟨rfl, rfl⟩
set_option maxHeartbeats 4000000 in
set_option maxRecDepth 100000 in
theorem c_X9_append {G : GP} {xa pa : Nat → Nat} {P : PV} {pl : Nat → Option Nat} {nx num len : Nat} {cs f m : Nat → Nat} {g : Nat → UInt64} {v : Nat} (h1 : 33 ≤ v) (h2 : v ≤ 126) (hl : len < 60) : AMd G sX9_append [.ref (xa 0), .int (nI v)] (wR G xa pa P pl nx num [] len cs f m g) (some (.int (nI (len + 1)))) (wR G xa pa P pl nx num [] (len + 1) (uN cs len v) f m g) := by
  refine AM.of (σ := sX9_append) (by decide +kernel) (by decide +kernel) (Nat.le_of_ble_eq_true rfl) (fun B hB hR hE0 hN => ?_)
  have hE := BE.of hE0
  refine a_iload_n hB dX9_append_0 rfl ?_
  refine a_bipushN (v := 33) hB dX9_append_1 (by decide) ?_
  refine a_bipushN (v := 126) hB dX9_append_3 (by decide) ?_
  refine a_callSr hB (c_X9_requireRange (by omega) (by omega) (by omega)) mk_X9_requireRange ml_X9_89 dX9_append_5 rfl rfl [] rfl (by decide) (fit_of hR (by decide)) (Nat.le_of_ble_eq_true rfl) ?_
  refine a_aload_n hB dX9_append_8 rfl ?_
  refine a_get (T := TX9) (ci := 9) hB dX9_append_9 2 fl_X9_26 lay_X9 rfl (by decide) rfl 0 rfl rfl ?_
  refine a_get (T := TX8) (ci := 8) hB dX9_append_12 1 fl_X9_156 lay_X8 rfl (by decide) rfl 10 rfl rfl ?_
  refine a_bipushN (v := 60) hB dX9_append_15 (by decide) ?_
  refine a_icmp_ltN_t (tgt := 30) hB dX9_append_17 (by decide) (by omega) (by omega) (by omega) ?_
  refine a_aload_n hB dX9_append_30 rfl ?_
  refine a_get (T := TX9) (ci := 9) hB dX9_append_31 2 fl_X9_26 lay_X9 rfl (by decide) rfl 0 rfl rfl ?_
  refine a_iload_n hB dX9_append_34 rfl ?_
  refine a_callVd (w2 := wR G xa pa P pl nx num [] (len + 1) (uN cs len v) f m g) (q0 := 10) hB (c_X8_add (by omega)) mk_X8_add ml_X9_161 dX9_append_35 rfl rfl [10, 11] rfl (by decide) rfl rfl (fit_of hR (by decide)) (Nat.le_of_ble_eq_true rfl) (wput_seg (w1 := oR xa pa :: (wP G pa P ++ wH G (xa 1) (xa 2) pl nx num)) (wc := wX G (xa 3) (xa 4) len cs) (w3 := wK G (xa 5) (xa 6) f ++ (wI G (xa 7) (xa 8) m ++ wC G (xa 9) (xa 10) g)) rfl rfl rfl rfl) ?_
  refine a_aload_n hB dX9_append_38 rfl ?_
  refine a_get (T := TX9) (ci := 9) hB dX9_append_39 2 fl_X9_26 lay_X9 rfl (by decide) rfl 0 rfl rfl ?_
  refine a_get (T := TX8) (ci := 8) hB dX9_append_42 1 fl_X9_156 lay_X8 rfl (by decide) rfl 10 rfl rfl ?_
  exact a_iret hB hE rfl dX9_append_45 (Nat.le_of_ble_eq_true rfl) (Nat.le_of_ble_eq_true rfl) (AKeep.of rfl) ⟨rfl, rfl⟩
set_option maxHeartbeats 4000000 in
set_option maxRecDepth 100000 in
theorem x_X9_append_r {G : GP} (hF : G.l.stackTraces = false) {xa pa : Nat → Nat} {P : PV} {pl : Nat → Option Nat} {nx num len : Nat} {cs f m : Nat → Nat} {g : Nat → UInt64} {x : Int32} (hx : x < nI 33 ∨ nI 126 < x) : AMX G sX9_append 1 6 [.ref (xa 0), .int x] (wR G xa pa P pl nx num [] len cs f m g) (fun _ _ => False) (fun E w => E = xIAE ∧ w = wR G xa pa P pl nx num [] len cs f m g) := by
  refine AMX.of (σ := sX9_append) (by decide +kernel) (by decide +kernel) (Nat.le_of_ble_eq_true rfl) (fun B hB hR hE0 hT => ?_)
  have hE := BE.ofX hE0
  refine a_iload_n hB dX9_append_0 rfl ?_
  refine a_bipushN (v := 33) hB dX9_append_1 (by decide) ?_
  refine a_bipushN (v := 126) hB dX9_append_3 (by decide) ?_
  refine a_callSX hB (x_X9_requireRange hF hx) mk_X9_requireRange ml_X9_89 dX9_append_5 rfl rfl [] rfl (by decide) (fit_of hR (by decide)) (Nat.le_of_ble_eq_true rfl) (fun E5 w5 hq5 hk5 => ?_) (fun v5 w5 hq5 hk5 => ?_)
  · obtain ⟨rfl, rfl⟩ := hq5
    exact aX_out hB hE0 hT (Nat.le_of_ble_eq_true rfl) (Nat.le_of_ble_eq_true rfl) (AKeep.of rfl) ⟨rfl, rfl⟩
  exact hq5.elim
set_option maxHeartbeats 4000000 in
set_option maxRecDepth 100000 in
theorem x_X9_append_s {G : GP} (hF : G.l.stackTraces = false) {xa pa : Nat → Nat} {P : PV} {pl : Nat → Option Nat} {nx num len : Nat} {cs f m : Nat → Nat} {g : Nat → UInt64} {v : Nat} (h1 : 33 ≤ v) (h2 : v ≤ 126) (hl : len = 60) : AMX G sX9_append 1 6 [.ref (xa 0), .int (nI v)] (wR G xa pa P pl nx num [] len cs f m g) (fun _ _ => False) (fun E w => E = xISE ∧ w = wR G xa pa P pl nx num [] len cs f m g) := by
  refine AMX.of (σ := sX9_append) (by decide +kernel) (by decide +kernel) (Nat.le_of_ble_eq_true rfl) (fun B hB hR hE0 hT => ?_)
  have hE := BE.ofX hE0
  refine a_iload_n hB dX9_append_0 rfl ?_
  refine a_bipushN (v := 33) hB dX9_append_1 (by decide) ?_
  refine a_bipushN (v := 126) hB dX9_append_3 (by decide) ?_
  refine a_callSr hB (c_X9_requireRange (by omega) (by omega) (by omega)) mk_X9_requireRange ml_X9_89 dX9_append_5 rfl rfl [] rfl (by decide) (fit_of hR (by decide)) (Nat.le_of_ble_eq_true rfl) ?_
  refine a_aload_n hB dX9_append_8 rfl ?_
  refine a_get (T := TX9) (ci := 9) hB dX9_append_9 2 fl_X9_26 lay_X9 rfl (by decide) rfl 0 rfl rfl ?_
  refine a_get (T := TX8) (ci := 8) hB dX9_append_12 1 fl_X9_156 lay_X8 rfl (by decide) rfl 10 rfl rfl ?_
  refine a_bipushN (v := 60) hB dX9_append_15 (by decide) ?_
  refine a_icmp_ltN_f (tgt := 30) hB dX9_append_17 (by decide) (by omega) (by omega) (by omega) ?_
  exact a_throw (text := "the buffer has 60 characters") hB hE0 hT hF rfl thISE (by decide +kernel) dX9_append_20 dX9_append_23 dX9_append_24 dX9_append_26 dX9_append_29 (room6 hR (by decide)) (room82 hR (Nat.le_of_ble_eq_true rfl)) (roomc hR (Nat.le_of_ble_eq_true rfl)) (rooms hR (Nat.le_of_ble_eq_true rfl)) (Nat.le_of_ble_eq_true rfl) (Nat.le_of_ble_eq_true rfl) (AKeep.of rfl) ⟨rfl, rfl⟩
set_option maxHeartbeats 4000000 in
set_option maxRecDepth 100000 in
theorem c_X9_clearBuffer {G : GP} {xa pa : Nat → Nat} {P : PV} {pl : Nat → Option Nat} {nx num len : Nat} {cs f m : Nat → Nat} {g : Nat → UInt64}  : AMd G sX9_clearBuffer [.ref (xa 0)] (wR G xa pa P pl nx num [] len cs f m g) (some (.int (nI len))) (wR G xa pa P pl nx num [] 0 cs f m g) := by
  refine AM.of (σ := sX9_clearBuffer) (by decide +kernel) (by decide +kernel) (Nat.le_of_ble_eq_true rfl) (fun B hB hR hE0 hN => ?_)
  have hE := BE.of hE0
  refine a_aload_n hB dX9_clearBuffer_0 rfl ?_
  refine a_get (T := TX9) (ci := 9) hB dX9_clearBuffer_1 2 fl_X9_26 lay_X9 rfl (by decide) rfl 0 rfl rfl ?_
  refine a_get (T := TX8) (ci := 8) hB dX9_clearBuffer_4 1 fl_X9_156 lay_X8 rfl (by decide) rfl 10 rfl rfl ?_
  refine a_istore_n hB dX9_clearBuffer_7 (by decide) ?_
  refine a_aload_n hB dX9_clearBuffer_8 rfl ?_
  refine a_get (T := TX9) (ci := 9) hB dX9_clearBuffer_9 2 fl_X9_26 lay_X9 rfl (by decide) rfl 0 rfl rfl ?_
  refine a_callVd (w2 := wR G xa pa P pl nx num [] 0 cs f m g) (q0 := 10) hB (c_X8_clear) mk_X8_clear ml_X9_164 dX9_clearBuffer_12 rfl rfl [10, 11] rfl (by decide) rfl rfl (fit_of hR (by decide)) (Nat.le_of_ble_eq_true rfl) (wput_seg (w1 := oR xa pa :: (wP G pa P ++ wH G (xa 1) (xa 2) pl nx num)) (wc := wX G (xa 3) (xa 4) len cs) (w3 := wK G (xa 5) (xa 6) f ++ (wI G (xa 7) (xa 8) m ++ wC G (xa 9) (xa 10) g)) rfl rfl rfl rfl) ?_
  refine a_iload_n hB dX9_clearBuffer_15 rfl ?_
  exact a_iret hB hE rfl dX9_clearBuffer_16 (Nat.le_of_ble_eq_true rfl) (Nat.le_of_ble_eq_true rfl) (AKeep.of rfl) ⟨rfl, rfl⟩
set_option maxHeartbeats 4000000 in
set_option maxRecDepth 100000 in
theorem c_X9_undo {G : GP} {xa pa : Nat → Nat} {P : PV} {pl : Nat → Option Nat} {nx num len : Nat} {cs f m : Nat → Nat} {g : Nat → UInt64} {qa : Nat → Nat} {O : PV} (hnx : nx < 6) (hnum : num ≤ 6) (h0 : 0 < num) (hpl : pl ((nx + 6 - 1) % 6) = some (qa 0)) : AMd G sX9_undo [.ref (xa 0)] (wR G xa pa P pl nx num (wP G qa O) len cs f m g) (some (.int (nI (num - 1)))) (wR G xa pa (P.cpy O) pl ((nx + 6 - 1) % 6) (num - 1) (wP G qa O) len cs f m g) := by
  refine AM.of (σ := sX9_undo) (by decide +kernel) (by decide +kernel) (Nat.le_of_ble_eq_true rfl) (fun B hB hR hE0 hN => ?_)
  have hE := BE.of hE0
  refine a_aload_n hB dX9_undo_0 rfl ?_
  refine a_get (T := TX9) (ci := 9) hB dX9_undo_1 1 fl_X9_19 lay_X9 rfl (by decide) rfl 0 rfl rfl ?_
  refine a_get (T := TX2) (ci := 2) hB dX9_undo_4 2 fl_X9_184 lay_X2 rfl (by decide) rfl 8 rfl rfl ?_
  refine a_if_neN_t (tgt := 20) hB dX9_undo_7 (by decide) (by omega) (by omega) ?_
  refine a_aload_n hB dX9_undo_20 rfl ?_
  refine a_get (T := TX9) (ci := 9) hB dX9_undo_21 1 fl_X9_19 lay_X9 rfl (by decide) rfl 0 rfl rfl ?_
  refine a_aload_n hB dX9_undo_24 rfl ?_
  refine a_get (T := TX9) (ci := 9) hB dX9_undo_25 0 fl_X9_12 lay_X9 rfl (by decide) rfl 0 rfl rfl ?_
  refine a_callVd (w2 := wR G xa pa (P.cpy O) pl ((nx + 6 - 1) % 6) (num - 1) (wP G qa O) len cs f m g) (q0 := 8) hB (c_X2_restoreO (pa := pa) (qa := qa) (P := P) (O := O) hnx hnum (by omega) hpl) mk_X2_restore ml_X9_187 dX9_undo_28 rfl rfl [1, 2, 3, 4, 5, 6, 7, 8, 9, 10, 11, 12, 13, 14, 15, 16] rfl (by decide) rfl rfl (fit_of hR (by decide)) (Nat.le_of_ble_eq_true rfl) (wput_seg (w1 := [oR xa pa]) (wc := wP G pa P ++ (wH G (xa 1) (xa 2) pl nx num ++ wP G qa O)) (w3 := wZ G xa len cs f m g) rfl rfl rfl rfl) ?_
  refine a_aload_n hB dX9_undo_31 rfl ?_
  refine a_get (T := TX9) (ci := 9) hB dX9_undo_32 1 fl_X9_19 lay_X9 rfl (by decide) rfl 0 rfl rfl ?_
  refine a_get (T := TX2) (ci := 2) hB dX9_undo_35 2 fl_X9_184 lay_X2 rfl (by decide) rfl 8 rfl rfl ?_
  exact a_iret hB hE rfl dX9_undo_38 (Nat.le_of_ble_eq_true rfl) (Nat.le_of_ble_eq_true rfl) (AKeep.of rfl) ⟨rfl, rfl⟩
set_option maxHeartbeats 4000000 in
set_option maxRecDepth 100000 in
theorem x_X9_undo_s {G : GP} (hF : G.l.stackTraces = false) {xa pa : Nat → Nat} {P : PV} {pl : Nat → Option Nat} {nx num len : Nat} {cs f m : Nat → Nat} {g : Nat → UInt64} (h0 : num = 0) : AMX G sX9_undo 1 6 [.ref (xa 0)] (wR G xa pa P pl nx num [] len cs f m g) (fun _ _ => False) (fun E w => E = xISE ∧ w = wR G xa pa P pl nx num [] len cs f m g) := by
  refine AMX.of (σ := sX9_undo) (by decide +kernel) (by decide +kernel) (Nat.le_of_ble_eq_true rfl) (fun B hB hR hE0 hT => ?_)
  have hE := BE.ofX hE0
  refine a_aload_n hB dX9_undo_0 rfl ?_
  refine a_get (T := TX9) (ci := 9) hB dX9_undo_1 1 fl_X9_19 lay_X9 rfl (by decide) rfl 0 rfl rfl ?_
  refine a_get (T := TX2) (ci := 2) hB dX9_undo_4 2 fl_X9_184 lay_X2 rfl (by decide) rfl 8 rfl rfl ?_
  refine a_if_neN_f (tgt := 20) hB dX9_undo_7 (by decide) (by omega) (by omega) ?_
  exact a_throw (text := "there is no saved state") hB hE0 hT hF rfl thISE (by decide +kernel) dX9_undo_10 dX9_undo_13 dX9_undo_14 dX9_undo_16 dX9_undo_19 (room6 hR (by decide)) (room82 hR (Nat.le_of_ble_eq_true rfl)) (roomc hR (Nat.le_of_ble_eq_true rfl)) (rooms hR (Nat.le_of_ble_eq_true rfl)) (Nat.le_of_ble_eq_true rfl) (Nat.le_of_ble_eq_true rfl) (AKeep.of rfl) ⟨rfl, rfl⟩
