theorem wput_all {ws wd : va_W} {ps : List Nat} (hp : ps = segL 0 ws.length) (hl : wd.length = ws.length) : wput ws ps wd = wd := by
  have h := wput_seg (ws := ws) (w1 := []) (wc := ws) (w3 := []) (wd := wd) (ps := ps) (w2 := wd) (by simp) hp hl (by simp)
  exact h
set_option maxHeartbeats 4000000 in
set_option maxRecDepth 100000 in
theorem x_X9_part_p {G : GP} (hF : G.l.stackTraces = false) {xa pa : Nat → Nat} {P : PV} {pl : Nat → Option Nat} {nx num len : Nat} {cs f m : Nat → Nat} {g : Nat → UInt64} {x y : Int32} (hx : x < 0 ∨ nI P.parts ≤ x) : AMX G sX9_part 1 6 [.ref (xa 0), .int x, .int y] (wR G xa pa P pl nx num [] len cs f m g) (fun _ _ => False) (fun E w => E = xIOB ∧ w = wR G xa pa P pl nx num [] len cs f m g) := by
  refine AMX.of (σ := sX9_part) (by decide +kernel) (by decide +kernel) (Nat.le_of_ble_eq_true rfl) (fun B hB hR hE0 hT => ?_)
  have hE := BE.ofX hE0
  refine a_aload_n hB dX9_part_0 rfl ?_
  refine a_iload_n hB dX9_part_1 rfl ?_
  refine a_callVX (q0 := 0) hB (x_X9_requirePart hF hx) mk_X9_requirePart ml_X9_79 dX9_part_2 rfl rfl [0, 1] rfl (by decide) rfl rfl (fit_of hR (by decide)) (Nat.le_of_ble_eq_true rfl) (fun E2 w2 hq2 hk2 => ?_) (fun v2 w2 hq2 hk2 => ?_)
  · obtain ⟨rfl, rfl⟩ := hq2
    exact aX_out hB hE0 hT (Nat.le_of_ble_eq_true rfl) (Nat.le_of_ble_eq_true rfl) (AKeep.of rfl) ⟨rfl, rfl⟩
  exact hq2.elim
set_option maxHeartbeats 4000000 in
set_option maxRecDepth 100000 in
theorem x_X9_part_r {G : GP} (hF : G.l.stackTraces = false) {xa pa : Nat → Nat} {P : PV} {pl : Nat → Option Nat} {nx num len : Nat} {cs f m : Nat → Nat} {g : Nat → UInt64} {p : Nat} {x : Int32} (hp : p < P.parts) (h6 : P.parts ≤ 6) (hx : x < nI 0 ∨ nI 6 < x) : AMX G sX9_part 1 6 [.ref (xa 0), .int (nI p), .int x] (wR G xa pa P pl nx num [] len cs f m g) (fun _ _ => False) (fun E w => E = xIAE ∧ w = wR G xa pa P pl nx num [] len cs f m g) := by
  refine AMX.of (σ := sX9_part) (by decide +kernel) (by decide +kernel) (Nat.le_of_ble_eq_true rfl) (fun B hB hR hE0 hT => ?_)
  have hE := BE.ofX hE0
  refine a_aload_n hB dX9_part_0 rfl ?_
  refine a_iload_n hB dX9_part_1 rfl ?_
  refine a_callVr (q0 := 0) hB (c_X9_requirePart (n := P.parts) (by omega) (by omega)) mk_X9_requirePart ml_X9_79 dX9_part_2 rfl rfl [0, 1] rfl (by decide) rfl rfl (fit_of hR (by decide)) (Nat.le_of_ble_eq_true rfl) ?_
  refine a_iload_n hB dX9_part_5 rfl ?_
  refine a_iconstN (v := 0) hB dX9_part_6 (by decide) ?_
  refine a_bipushN (v := 6) hB dX9_part_7 (by decide) ?_
  refine a_callSX hB (x_X9_requireRange hF hx) mk_X9_requireRange ml_X9_89 dX9_part_9 rfl rfl [] rfl (by decide) (fit_of hR (by decide)) (Nat.le_of_ble_eq_true rfl) (fun E9 w9 hq9 hk9 => ?_) (fun v9 w9 hq9 hk9 => ?_)
  · obtain ⟨rfl, rfl⟩ := hq9
    exact aX_out hB hE0 hT (Nat.le_of_ble_eq_true rfl) (Nat.le_of_ble_eq_true rfl) (AKeep.of rfl) ⟨rfl, rfl⟩
  exact hq9.elim
set_option maxHeartbeats 4000000 in
set_option maxRecDepth 100000 in
theorem x_X9_weight_p {G : GP} (hF : G.l.stackTraces = false) {xa pa : Nat → Nat} {P : PV} {pl : Nat → Option Nat} {nx num len : Nat} {cs f m : Nat → Nat} {g : Nat → UInt64} {x y z : Int32} (hx : x < 0 ∨ nI P.parts ≤ x) : AMX G sX9_weight 1 6 [.ref (xa 0), .int x, .int y, .int z] (wR G xa pa P pl nx num [] len cs f m g) (fun _ _ => False) (fun E w => E = xIOB ∧ w = wR G xa pa P pl nx num [] len cs f m g) := by
  refine AMX.of (σ := sX9_weight) (by decide +kernel) (by decide +kernel) (Nat.le_of_ble_eq_true rfl) (fun B hB hR hE0 hT => ?_)
  have hE := BE.ofX hE0
  refine a_aload_n hB dX9_weight_0 rfl ?_
  refine a_iload_n hB dX9_weight_1 rfl ?_
  refine a_callVX (q0 := 0) hB (x_X9_requirePart hF hx) mk_X9_requirePart ml_X9_79 dX9_weight_2 rfl rfl [0, 1] rfl (by decide) rfl rfl (fit_of hR (by decide)) (Nat.le_of_ble_eq_true rfl) (fun E2 w2 hq2 hk2 => ?_) (fun v2 w2 hq2 hk2 => ?_)
  · obtain ⟨rfl, rfl⟩ := hq2
    exact aX_out hB hE0 hT (Nat.le_of_ble_eq_true rfl) (Nat.le_of_ble_eq_true rfl) (AKeep.of rfl) ⟨rfl, rfl⟩
  exact hq2.elim
set_option maxHeartbeats 4000000 in
set_option maxRecDepth 100000 in
theorem x_X9_weight_l {G : GP} (hF : G.l.stackTraces = false) {xa pa : Nat → Nat} {P : PV} {pl : Nat → Option Nat} {nx num len : Nat} {cs f m : Nat → Nat} {g : Nat → UInt64} {p : Nat} {x z : Int32} (hp : p < P.parts) (h6 : P.parts ≤ 6) (hx : x < 0 ∨ nI 6 ≤ x) : AMX G sX9_weight 1 6 [.ref (xa 0), .int (nI p), .int x, .int z] (wR G xa pa P pl nx num [] len cs f m g) (fun _ _ => False) (fun E w => E = xIOB ∧ w = wR G xa pa P pl nx num [] len cs f m g) := by
  refine AMX.of (σ := sX9_weight) (by decide +kernel) (by decide +kernel) (Nat.le_of_ble_eq_true rfl) (fun B hB hR hE0 hT => ?_)
  have hE := BE.ofX hE0
  refine a_aload_n hB dX9_weight_0 rfl ?_
  refine a_iload_n hB dX9_weight_1 rfl ?_
  refine a_callVr (q0 := 0) hB (c_X9_requirePart (n := P.parts) (by omega) (by omega)) mk_X9_requirePart ml_X9_79 dX9_weight_2 rfl rfl [0, 1] rfl (by decide) rfl rfl (fit_of hR (by decide)) (Nat.le_of_ble_eq_true rfl) ?_
  refine a_iload_n hB dX9_weight_5 rfl ?_
  refine a_callSX hB (x_X9_requireLoad hF hx) mk_X9_requireLoad ml_X9_86 dX9_weight_6 rfl rfl [] rfl (by decide) (fit_of hR (by decide)) (Nat.le_of_ble_eq_true rfl) (fun E6 w6 hq6 hk6 => ?_) (fun v6 w6 hq6 hk6 => ?_)
  · obtain ⟨rfl, rfl⟩ := hq6
    exact aX_out hB hE0 hT (Nat.le_of_ble_eq_true rfl) (Nat.le_of_ble_eq_true rfl) (AKeep.of rfl) ⟨rfl, rfl⟩
  exact hq6.elim
set_option maxHeartbeats 4000000 in
set_option maxRecDepth 100000 in
theorem x_X9_ways_r {G : GP} (hF : G.l.stackTraces = false) {xa pa : Nat → Nat} {P : PV} {pl : Nat → Option Nat} {nx num len : Nat} {cs f m : Nat → Nat} {g : Nat → UInt64} {x y : Int32} (hx : x < nI 0 ∨ nI 99 < x) : AMX G sX9_ways 1 6 [.ref (xa 0), .int x, .int y] (wR G xa pa P pl nx num [] len cs f m g) (fun _ _ => False) (fun E w => E = xIAE ∧ w = wR G xa pa P pl nx num [] len cs f m g) := by
  refine AMX.of (σ := sX9_ways) (by decide +kernel) (by decide +kernel) (Nat.le_of_ble_eq_true rfl) (fun B hB hR hE0 hT => ?_)
  have hE := BE.ofX hE0
  refine a_iload_n hB dX9_ways_0 rfl ?_
  refine a_iconstN (v := 0) hB dX9_ways_1 (by decide) ?_
  refine a_bipushN (v := 99) hB dX9_ways_2 (by decide) ?_
  refine a_callSX hB (x_X9_requireRange hF hx) mk_X9_requireRange ml_X9_89 dX9_ways_4 rfl rfl [] rfl (by decide) (fit_of hR (by decide)) (Nat.le_of_ble_eq_true rfl) (fun E4 w4 hq4 hk4 => ?_) (fun v4 w4 hq4 hk4 => ?_)
  · obtain ⟨rfl, rfl⟩ := hq4
    exact aX_out hB hE0 hT (Nat.le_of_ble_eq_true rfl) (Nat.le_of_ble_eq_true rfl) (AKeep.of rfl) ⟨rfl, rfl⟩
  exact hq4.elim
set_option maxHeartbeats 4000000 in
set_option maxRecDepth 100000 in
theorem x_X9_likeliest_p {G : GP} (hF : G.l.stackTraces = false) {xa pa : Nat → Nat} {P : PV} {pl : Nat → Option Nat} {nx num len : Nat} {cs f m : Nat → Nat} {g : Nat → UInt64} {x : Int32} (hx : x < 0 ∨ nI P.parts ≤ x) : AMX G sX9_likeliest 1 6 [.ref (xa 0), .int x] (wR G xa pa P pl nx num [] len cs f m g) (fun _ _ => False) (fun E w => E = xIOB ∧ w = wR G xa pa P pl nx num [] len cs f m g) := by
  refine AMX.of (σ := sX9_likeliest) (by decide +kernel) (by decide +kernel) (Nat.le_of_ble_eq_true rfl) (fun B hB hR hE0 hT => ?_)
  have hE := BE.ofX hE0
  refine a_aload_n hB dX9_likeliest_0 rfl ?_
  refine a_iload_n hB dX9_likeliest_1 rfl ?_
  refine a_callVX (q0 := 0) hB (x_X9_requirePart hF hx) mk_X9_requirePart ml_X9_79 dX9_likeliest_2 rfl rfl [0, 1] rfl (by decide) rfl rfl (fit_of hR (by decide)) (Nat.le_of_ble_eq_true rfl) (fun E2 w2 hq2 hk2 => ?_) (fun v2 w2 hq2 hk2 => ?_)
  · obtain ⟨rfl, rfl⟩ := hq2
    exact aX_out hB hE0 hT (Nat.le_of_ble_eq_true rfl) (Nat.le_of_ble_eq_true rfl) (AKeep.of rfl) ⟨rfl, rfl⟩
  exact hq2.elim
set_option maxHeartbeats 4000000 in
set_option maxRecDepth 100000 in
theorem x_X9_count_r {G : GP} (hF : G.l.stackTraces = false) {xa pa : Nat → Nat} {P : PV} {pl : Nat → Option Nat} {nx num len : Nat} {cs f m : Nat → Nat} {g : Nat → UInt64} {x : Int32} (hx : x < nI 0 ∨ nI 8 < x) : AMX G sX9_count 1 6 [.ref (xa 0), .int x] (wR G xa pa P pl nx num [] len cs f m g) (fun _ _ => False) (fun E w => E = xIAE ∧ w = wR G xa pa P pl nx num [] len cs f m g) := by
  refine AMX.of (σ := sX9_count) (by decide +kernel) (by decide +kernel) (Nat.le_of_ble_eq_true rfl) (fun B hB hR hE0 hT => ?_)
  have hE := BE.ofX hE0
  refine a_iload_n hB dX9_count_0 rfl ?_
  refine a_iconstN (v := 0) hB dX9_count_1 (by decide) ?_
  refine a_bipushN (v := 8) hB dX9_count_2 (by decide) ?_
  refine a_callSX hB (x_X9_requireRange hF hx) mk_X9_requireRange ml_X9_89 dX9_count_4 rfl rfl [] rfl (by decide) (fit_of hR (by decide)) (Nat.le_of_ble_eq_true rfl) (fun E4 w4 hq4 hk4 => ?_) (fun v4 w4 hq4 hk4 => ?_)
  · obtain ⟨rfl, rfl⟩ := hq4
    exact aX_out hB hE0 hT (Nat.le_of_ble_eq_true rfl) (Nat.le_of_ble_eq_true rfl) (AKeep.of rfl) ⟨rfl, rfl⟩
  exact hq4.elim
set_option maxHeartbeats 4000000 in
set_option maxRecDepth 100000 in
theorem x_X9_measure_r {G : GP} (hF : G.l.stackTraces = false) {xa pa : Nat → Nat} {P : PV} {pl : Nat → Option Nat} {nx num len : Nat} {cs f m : Nat → Nat} {g : Nat → UInt64} {x : Int32} (hx : x < nI 0 ∨ nI 6 < x) : AMX G sX9_measure 1 6 [.ref (xa 0), .int x] (wR G xa pa P pl nx num [] len cs f m g) (fun _ _ => False) (fun E w => E = xIAE ∧ w = wR G xa pa P pl nx num [] len cs f m g) := by
  refine AMX.of (σ := sX9_measure) (by decide +kernel) (by decide +kernel) (Nat.le_of_ble_eq_true rfl) (fun B hB hR hE0 hT => ?_)
  have hE := BE.ofX hE0
  refine a_iload_n hB dX9_measure_0 rfl ?_
  refine a_iconstN (v := 0) hB dX9_measure_1 (by decide) ?_
  refine a_bipushN (v := 6) hB dX9_measure_2 (by decide) ?_
  refine a_callSX hB (x_X9_requireRange hF hx) mk_X9_requireRange ml_X9_89 dX9_measure_4 rfl rfl [] rfl (by decide) (fit_of hR (by decide)) (Nat.le_of_ble_eq_true rfl) (fun E4 w4 hq4 hk4 => ?_) (fun v4 w4 hq4 hk4 => ?_)
  · obtain ⟨rfl, rfl⟩ := hq4
    exact aX_out hB hE0 hT (Nat.le_of_ble_eq_true rfl) (Nat.le_of_ble_eq_true rfl) (AKeep.of rfl) ⟨rfl, rfl⟩
  exact hq4.elim
set_option maxHeartbeats 4000000 in
set_option maxRecDepth 100000 in
theorem x_X9_ifLimit_r {G : GP} (hF : G.l.stackTraces = false) {xa pa : Nat → Nat} {P : PV} {pl : Nat → Option Nat} {nx num len : Nat} {cs f m : Nat → Nat} {g : Nat → UInt64} {x : Int32} (hx : x < nI 0 ∨ nI 99 < x) : AMX G sX9_ifLimit 1 6 [.ref (xa 0), .int x] (wR G xa pa P pl nx num [] len cs f m g) (fun _ _ => False) (fun E w => E = xIAE ∧ w = wR G xa pa P pl nx num [] len cs f m g) := by
  refine AMX.of (σ := sX9_ifLimit) (by decide +kernel) (by decide +kernel) (Nat.le_of_ble_eq_true rfl) (fun B hB hR hE0 hT => ?_)
  have hE := BE.ofX hE0
  refine a_iload_n hB dX9_ifLimit_0 rfl ?_
  refine a_iconstN (v := 0) hB dX9_ifLimit_1 (by decide) ?_
  refine a_bipushN (v := 99) hB dX9_ifLimit_2 (by decide) ?_
  refine a_callSX hB (x_X9_requireRange hF hx) mk_X9_requireRange ml_X9_89 dX9_ifLimit_4 rfl rfl [] rfl (by decide) (fit_of hR (by decide)) (Nat.le_of_ble_eq_true rfl) (fun E4 w4 hq4 hk4 => ?_) (fun v4 w4 hq4 hk4 => ?_)
  · obtain ⟨rfl, rfl⟩ := hq4
    exact aX_out hB hE0 hT (Nat.le_of_ble_eq_true rfl) (Nat.le_of_ble_eq_true rfl) (AKeep.of rfl) ⟨rfl, rfl⟩
  exact hq4.elim
set_option maxHeartbeats 4000000 in
set_option maxRecDepth 100000 in
theorem x_X9_limitFor_r {G : GP} (hF : G.l.stackTraces = false) {xa pa : Nat → Nat} {P : PV} {pl : Nat → Option Nat} {nx num len : Nat} {cs f m : Nat → Nat} {g : Nat → UInt64} {x : Int32} (hx : x < nI 0 ∨ nI 1000 < x) : AMX G sX9_limitFor 1 6 [.ref (xa 0), .int x] (wR G xa pa P pl nx num [] len cs f m g) (fun _ _ => False) (fun E w => E = xIAE ∧ w = wR G xa pa P pl nx num [] len cs f m g) := by
  refine AMX.of (σ := sX9_limitFor) (by decide +kernel) (by decide +kernel) (Nat.le_of_ble_eq_true rfl) (fun B hB hR hE0 hT => ?_)
  have hE := BE.ofX hE0
  refine a_iload_n hB dX9_limitFor_0 rfl ?_
  refine a_iconstN (v := 0) hB dX9_limitFor_1 (by decide) ?_
  refine a_sipushN (v := 1000) hB dX9_limitFor_2 (by decide) ?_
  refine a_callSX hB (x_X9_requireRange hF hx) mk_X9_requireRange ml_X9_89 dX9_limitFor_5 rfl rfl [] rfl (by decide) (fit_of hR (by decide)) (Nat.le_of_ble_eq_true rfl) (fun E5 w5 hq5 hk5 => ?_) (fun v5 w5 hq5 hk5 => ?_)
  · obtain ⟨rfl, rfl⟩ := hq5
    exact aX_out hB hE0 hT (Nat.le_of_ble_eq_true rfl) (Nat.le_of_ble_eq_true rfl) (AKeep.of rfl) ⟨rfl, rfl⟩
  exact hq5.elim
set_option maxHeartbeats 4000000 in
set_option maxRecDepth 100000 in
theorem c_X9_measure_0 {G : GP} {xa pa : Nat → Nat} {P : PV} {pl : Nat → Option Nat} {nx num len : Nat} {cs f m : Nat → Nat} {g : Nat → UInt64} (h6 : P.parts ≤ 6) (hw : ∀ j, P.wt j ≤ 9) (hlim : P.limit ≤ 99) (hn : P.sv.num < 2 ^ 31) (hm : P.mOK) : AM G sX9_measure 0 0 [.ref (xa 0), .int (nI 0)] (wR G xa pa P pl nx num [] len cs f m g) (fun rv w => rv = some (.double (vM P 0)) ∧ ∃ (f m : Nat → Nat) (g : Nat → UInt64), w = wR G xa pa P pl nx num [] len cs f m g) := by
  refine AM.of (σ := sX9_measure) (by decide +kernel) (by decide +kernel) (Nat.le_of_ble_eq_true rfl) (fun B hB hR hE0 hN => ?_)
  have hE := BE.of hE0
  refine a_iload_n hB dX9_measure_0 rfl ?_
  refine a_iconstN (v := 0) hB dX9_measure_1 (by decide) ?_
  refine a_bipushN (v := 6) hB dX9_measure_2 (by decide) ?_
  refine a_callSr hB (c_X9_requireRange (by omega) (by omega) (by omega)) mk_X9_requireRange ml_X9_89 dX9_measure_4 rfl rfl [] rfl (by decide) (fit_of hR (by decide)) (Nat.le_of_ble_eq_true rfl) ?_
  refine a_aload_n hB dX9_measure_7 rfl ?_
  refine a_get (T := TX9) (ci := 9) hB dX9_measure_8 0 fl_X9_12 lay_X9 rfl (by decide) rfl 0 rfl rfl ?_
  refine a_get (T := TX4) (ci := 4) hB dX9_measure_11 2 fl_X9_136 lay_X4 rfl (by decide) rfl 1 rfl rfl ?_
  refine a_astore_n hB dX9_measure_14 (by decide) ?_
  refine a_iload_n hB dX9_measure_15 rfl ?_
  refine a_tableIn (off := 40) (tgt := 56) hB dX9_measure_16 (by decide) (by decide) (by decide) (by decide) ?_
  refine a_aload_n hB dX9_measure_56 rfl ?_
  refine a_aload_n hB dX9_measure_57 rfl ?_
  refine a_get (T := TX9) (ci := 9) hB dX9_measure_58 0 fl_X9_12 lay_X9 rfl (by decide) rfl 0 rfl rfl ?_
  refine a_get (T := TX4) (ci := 4) hB dX9_measure_61 4 fl_X9_125 lay_X4 rfl (by decide) rfl 1 rfl rfl ?_
  refine a_iconst (v := -1) hB dX9_measure_64 (by decide) ?_
  refine a_callV (q0 := 0) hB (c_X9_oddsFor (P := P) h6 hw (by omega) hm.1) mk_X9_oddsFor ml_X9_228 dX9_measure_65 rfl rfl [0, 1, 2, 3, 4, 5, 6, 7, 8, 9, 10, 11, 12, 13, 14, 15, 16, 17] rfl (by decide) rfl rfl (fit_of hR (by decide)) (Nat.le_of_ble_eq_true rfl) (fun v65 w65 hq65 hk65 => ?_)
  obtain ⟨rfl, f, m, g, rfl⟩ := hq65
  refine aW_w (ws' := wR G xa pa P pl nx num [] len cs f m g) (wput_all rfl rfl) ?_
  exact a_dret hB hE rfl dX9_measure_68 (Nat.le_of_ble_eq_true rfl) (Nat.le_of_ble_eq_true rfl) (AKeep.of rfl) ⟨rfl, _, _, _, rfl⟩
set_option maxHeartbeats 4000000 in
set_option maxRecDepth 100000 in
theorem c_X9_measure_1 {G : GP} {xa pa : Nat → Nat} {P : PV} {pl : Nat → Option Nat} {nx num len : Nat} {cs f m : Nat → Nat} {g : Nat → UInt64} (h6 : P.parts ≤ 6) (hw : ∀ j, P.wt j ≤ 9) (hlim : P.limit ≤ 99) (hn : P.sv.num < 2 ^ 31) (hm : P.mOK) : AM G sX9_measure 0 0 [.ref (xa 0), .int (nI 1)] (wR G xa pa P pl nx num [] len cs f m g) (fun rv w => rv = some (.double (vM P 1)) ∧ ∃ (f m : Nat → Nat) (g : Nat → UInt64), w = wR G xa pa P pl nx num [] len cs f m g) := by
  refine AM.of (σ := sX9_measure) (by decide +kernel) (by decide +kernel) (Nat.le_of_ble_eq_true rfl) (fun B hB hR hE0 hN => ?_)
  have hE := BE.of hE0
  refine a_iload_n hB dX9_measure_0 rfl ?_
  refine a_iconstN (v := 0) hB dX9_measure_1 (by decide) ?_
  refine a_bipushN (v := 6) hB dX9_measure_2 (by decide) ?_
  refine a_callSr hB (c_X9_requireRange (by omega) (by omega) (by omega)) mk_X9_requireRange ml_X9_89 dX9_measure_4 rfl rfl [] rfl (by decide) (fit_of hR (by decide)) (Nat.le_of_ble_eq_true rfl) ?_
  refine a_aload_n hB dX9_measure_7 rfl ?_
  refine a_get (T := TX9) (ci := 9) hB dX9_measure_8 0 fl_X9_12 lay_X9 rfl (by decide) rfl 0 rfl rfl ?_
  refine a_get (T := TX4) (ci := 4) hB dX9_measure_11 2 fl_X9_136 lay_X4 rfl (by decide) rfl 1 rfl rfl ?_
  refine a_astore_n hB dX9_measure_14 (by decide) ?_
  refine a_iload_n hB dX9_measure_15 rfl ?_
  refine a_tableIn (off := 53) (tgt := 69) hB dX9_measure_16 (by decide) (by decide) (by decide) (by decide) ?_
  refine a_aload_n hB dX9_measure_69 rfl ?_
  refine a_aload_n hB dX9_measure_70 rfl ?_
  refine a_get (T := TX5) (ci := 5) hB dX9_measure_71 3 fl_X9_232 lay_X5 rfl (by decide) rfl 6 rfl rfl ?_
  refine a_callVr (q0 := 6) hB (c_X5_shareOf (S := P.sv) hn hm.2.1) mk_X5_shareOf ml_X9_236 dX9_measure_74 rfl rfl [6, 7] rfl (by decide) rfl rfl (fit_of hR (by decide)) (Nat.le_of_ble_eq_true rfl) ?_
  exact a_dret hB hE rfl dX9_measure_77 (Nat.le_of_ble_eq_true rfl) (Nat.le_of_ble_eq_true rfl) (AKeep.of rfl) ⟨rfl, _, _, _, rfl⟩
set_option maxHeartbeats 4000000 in
set_option maxRecDepth 100000 in
theorem c_X9_measure_2 {G : GP} {xa pa : Nat → Nat} {P : PV} {pl : Nat → Option Nat} {nx num len : Nat} {cs f m : Nat → Nat} {g : Nat → UInt64} (h6 : P.parts ≤ 6) (hw : ∀ j, P.wt j ≤ 9) (hlim : P.limit ≤ 99) (hn : P.sv.num < 2 ^ 31) (hm : P.mOK) : AM G sX9_measure 0 0 [.ref (xa 0), .int (nI 2)] (wR G xa pa P pl nx num [] len cs f m g) (fun rv w => rv = some (.double (vM P 2)) ∧ ∃ (f m : Nat → Nat) (g : Nat → UInt64), w = wR G xa pa P pl nx num [] len cs f m g) := by
  refine AM.of (σ := sX9_measure) (by decide +kernel) (by decide +kernel) (Nat.le_of_ble_eq_true rfl) (fun B hB hR hE0 hN => ?_)
  have hE := BE.of hE0
  refine a_iload_n hB dX9_measure_0 rfl ?_
  refine a_iconstN (v := 0) hB dX9_measure_1 (by decide) ?_
  refine a_bipushN (v := 6) hB dX9_measure_2 (by decide) ?_
  refine a_callSr hB (c_X9_requireRange (by omega) (by omega) (by omega)) mk_X9_requireRange ml_X9_89 dX9_measure_4 rfl rfl [] rfl (by decide) (fit_of hR (by decide)) (Nat.le_of_ble_eq_true rfl) ?_
  refine a_aload_n hB dX9_measure_7 rfl ?_
  refine a_get (T := TX9) (ci := 9) hB dX9_measure_8 0 fl_X9_12 lay_X9 rfl (by decide) rfl 0 rfl rfl ?_
  refine a_get (T := TX4) (ci := 4) hB dX9_measure_11 2 fl_X9_136 lay_X4 rfl (by decide) rfl 1 rfl rfl ?_
  refine a_astore_n hB dX9_measure_14 (by decide) ?_
  refine a_iload_n hB dX9_measure_15 rfl ?_
  refine a_tableIn (off := 62) (tgt := 78) hB dX9_measure_16 (by decide) (by decide) (by decide) (by decide) ?_
  refine a_aload_n hB dX9_measure_78 rfl ?_
  refine a_aload_n hB dX9_measure_79 rfl ?_
  refine a_get (T := TX5) (ci := 5) hB dX9_measure_80 2 fl_X9_147 lay_X5 rfl (by decide) rfl 6 rfl rfl ?_
  refine a_i2d hB dX9_measure_83 ?_
  refine a_callVr (q0 := 6) hB (c_X5_shareOf (S := P.sv) hn hm.2.2.1) mk_X5_shareOf ml_X9_236 dX9_measure_84 rfl rfl [6, 7] rfl (by decide) rfl rfl (fit_of hR (by decide)) (Nat.le_of_ble_eq_true rfl) ?_
  exact a_dret hB hE rfl dX9_measure_87 (Nat.le_of_ble_eq_true rfl) (Nat.le_of_ble_eq_true rfl) (AKeep.of rfl) ⟨rfl, _, _, _, rfl⟩
set_option maxHeartbeats 4000000 in
set_option maxRecDepth 100000 in
theorem c_X9_measure_3 {G : GP} {xa pa : Nat → Nat} {P : PV} {pl : Nat → Option Nat} {nx num len : Nat} {cs f m : Nat → Nat} {g : Nat → UInt64} (h6 : P.parts ≤ 6) (hw : ∀ j, P.wt j ≤ 9) (hlim : P.limit ≤ 99) (hn : P.sv.num < 2 ^ 31) (hm : P.mOK) : AM G sX9_measure 0 0 [.ref (xa 0), .int (nI 3)] (wR G xa pa P pl nx num [] len cs f m g) (fun rv w => rv = some (.double (vM P 3)) ∧ ∃ (f m : Nat → Nat) (g : Nat → UInt64), w = wR G xa pa P pl nx num [] len cs f m g) := by
  refine AM.of (σ := sX9_measure) (by decide +kernel) (by decide +kernel) (Nat.le_of_ble_eq_true rfl) (fun B hB hR hE0 hN => ?_)
  have hE := BE.of hE0
  refine a_iload_n hB dX9_measure_0 rfl ?_
  refine a_iconstN (v := 0) hB dX9_measure_1 (by decide) ?_
  refine a_bipushN (v := 6) hB dX9_measure_2 (by decide) ?_
  refine a_callSr hB (c_X9_requireRange (by omega) (by omega) (by omega)) mk_X9_requireRange ml_X9_89 dX9_measure_4 rfl rfl [] rfl (by decide) (fit_of hR (by decide)) (Nat.le_of_ble_eq_true rfl) ?_
  refine a_aload_n hB dX9_measure_7 rfl ?_
  refine a_get (T := TX9) (ci := 9) hB dX9_measure_8 0 fl_X9_12 lay_X9 rfl (by decide) rfl 0 rfl rfl ?_
  refine a_get (T := TX4) (ci := 4) hB dX9_measure_11 2 fl_X9_136 lay_X4 rfl (by decide) rfl 1 rfl rfl ?_
  refine a_astore_n hB dX9_measure_14 (by decide) ?_
  refine a_iload_n hB dX9_measure_15 rfl ?_
  refine a_tableIn (off := 72) (tgt := 88) hB dX9_measure_16 (by decide) (by decide) (by decide) (by decide) ?_
  refine a_aload_n hB dX9_measure_88 rfl ?_
  refine a_aload_n hB dX9_measure_89 rfl ?_
  refine a_get (T := TX5) (ci := 5) hB dX9_measure_90 4 fl_X9_240 lay_X5 rfl (by decide) rfl 6 rfl rfl ?_
  refine a_callVr (q0 := 6) hB (c_X5_shareOf (S := P.sv) hn hm.2.2.2.1) mk_X5_shareOf ml_X9_236 dX9_measure_93 rfl rfl [6, 7] rfl (by decide) rfl rfl (fit_of hR (by decide)) (Nat.le_of_ble_eq_true rfl) ?_
  exact a_dret hB hE rfl dX9_measure_96 (Nat.le_of_ble_eq_true rfl) (Nat.le_of_ble_eq_true rfl) (AKeep.of rfl) ⟨rfl, _, _, _, rfl⟩
set_option maxHeartbeats 4000000 in
set_option maxRecDepth 100000 in
theorem c_X9_measure_4 {G : GP} {xa pa : Nat → Nat} {P : PV} {pl : Nat → Option Nat} {nx num len : Nat} {cs f m : Nat → Nat} {g : Nat → UInt64} (h6 : P.parts ≤ 6) (hw : ∀ j, P.wt j ≤ 9) (hlim : P.limit ≤ 99) (hn : P.sv.num < 2 ^ 31) (hm : P.mOK) : AM G sX9_measure 0 0 [.ref (xa 0), .int (nI 4)] (wR G xa pa P pl nx num [] len cs f m g) (fun rv w => rv = some (.double (vM P 4)) ∧ ∃ (f m : Nat → Nat) (g : Nat → UInt64), w = wR G xa pa P pl nx num [] len cs f m g) := by
  refine AM.of (σ := sX9_measure) (by decide +kernel) (by decide +kernel) (Nat.le_of_ble_eq_true rfl) (fun B hB hR hE0 hN => ?_)
  have hE := BE.of hE0
  refine a_iload_n hB dX9_measure_0 rfl ?_
  refine a_iconstN (v := 0) hB dX9_measure_1 (by decide) ?_
  refine a_bipushN (v := 6) hB dX9_measure_2 (by decide) ?_
  refine a_callSr hB (c_X9_requireRange (by omega) (by omega) (by omega)) mk_X9_requireRange ml_X9_89 dX9_measure_4 rfl rfl [] rfl (by decide) (fit_of hR (by decide)) (Nat.le_of_ble_eq_true rfl) ?_
  refine a_aload_n hB dX9_measure_7 rfl ?_
  refine a_get (T := TX9) (ci := 9) hB dX9_measure_8 0 fl_X9_12 lay_X9 rfl (by decide) rfl 0 rfl rfl ?_
  refine a_get (T := TX4) (ci := 4) hB dX9_measure_11 2 fl_X9_136 lay_X4 rfl (by decide) rfl 1 rfl rfl ?_
  refine a_astore_n hB dX9_measure_14 (by decide) ?_
  refine a_iload_n hB dX9_measure_15 rfl ?_
  refine a_tableIn (off := 81) (tgt := 97) hB dX9_measure_16 (by decide) (by decide) (by decide) (by decide) ?_
  refine a_aload_n hB dX9_measure_97 rfl ?_
  refine a_callVr (q0 := 6) hB (c_X5_effectiveNumber (S := P.sv) hm.2.2.2.2.1.1 hm.2.2.2.2.1.2) mk_X5_effectiveNumber ml_X9_243 dX9_measure_98 rfl rfl [6, 7] rfl (by decide) rfl rfl (fit_of hR (by decide)) (Nat.le_of_ble_eq_true rfl) ?_
  exact a_dret hB hE rfl dX9_measure_101 (Nat.le_of_ble_eq_true rfl) (Nat.le_of_ble_eq_true rfl) (AKeep.of rfl) ⟨rfl, _, _, _, rfl⟩
set_option maxHeartbeats 4000000 in
set_option maxRecDepth 100000 in
theorem c_X9_measure_5 {G : GP} {xa pa : Nat → Nat} {P : PV} {pl : Nat → Option Nat} {nx num len : Nat} {cs f m : Nat → Nat} {g : Nat → UInt64} (h6 : P.parts ≤ 6) (hw : ∀ j, P.wt j ≤ 9) (hlim : P.limit ≤ 99) (hn : P.sv.num < 2 ^ 31) (hm : P.mOK) : AM G sX9_measure 0 0 [.ref (xa 0), .int (nI 5)] (wR G xa pa P pl nx num [] len cs f m g) (fun rv w => rv = some (.double (vM P 5)) ∧ ∃ (f m : Nat → Nat) (g : Nat → UInt64), w = wR G xa pa P pl nx num [] len cs f m g) := by
  refine AM.of (σ := sX9_measure) (by decide +kernel) (by decide +kernel) (Nat.le_of_ble_eq_true rfl) (fun B hB hR hE0 hN => ?_)
  have hE := BE.of hE0
  refine a_iload_n hB dX9_measure_0 rfl ?_
  refine a_iconstN (v := 0) hB dX9_measure_1 (by decide) ?_
  refine a_bipushN (v := 6) hB dX9_measure_2 (by decide) ?_
  refine a_callSr hB (c_X9_requireRange (by omega) (by omega) (by omega)) mk_X9_requireRange ml_X9_89 dX9_measure_4 rfl rfl [] rfl (by decide) (fit_of hR (by decide)) (Nat.le_of_ble_eq_true rfl) ?_
  refine a_aload_n hB dX9_measure_7 rfl ?_
  refine a_get (T := TX9) (ci := 9) hB dX9_measure_8 0 fl_X9_12 lay_X9 rfl (by decide) rfl 0 rfl rfl ?_
  refine a_get (T := TX4) (ci := 4) hB dX9_measure_11 2 fl_X9_136 lay_X4 rfl (by decide) rfl 1 rfl rfl ?_
  refine a_astore_n hB dX9_measure_14 (by decide) ?_
  refine a_iload_n hB dX9_measure_15 rfl ?_
  refine a_tableIn (off := 86) (tgt := 102) hB dX9_measure_16 (by decide) (by decide) (by decide) (by decide) ?_
  refine a_aload_n hB dX9_measure_102 rfl ?_
  refine a_get (T := TX5) (ci := 5) hB dX9_measure_103 6 fl_X9_247 lay_X5 rfl (by decide) rfl 6 rfl rfl ?_
  exact a_dret hB hE rfl dX9_measure_106 (Nat.le_of_ble_eq_true rfl) (Nat.le_of_ble_eq_true rfl) (AKeep.of rfl) ⟨rfl, _, _, _, rfl⟩
set_option maxHeartbeats 4000000 in
set_option maxRecDepth 100000 in
theorem c_X9_measure_6 {G : GP} {xa pa : Nat → Nat} {P : PV} {pl : Nat → Option Nat} {nx num len : Nat} {cs f m : Nat → Nat} {g : Nat → UInt64} (h6 : P.parts ≤ 6) (hw : ∀ j, P.wt j ≤ 9) (hlim : P.limit ≤ 99) (hn : P.sv.num < 2 ^ 31) (hm : P.mOK) : AM G sX9_measure 0 0 [.ref (xa 0), .int (nI 6)] (wR G xa pa P pl nx num [] len cs f m g) (fun rv w => rv = some (.double (vM P 6)) ∧ ∃ (f m : Nat → Nat) (g : Nat → UInt64), w = wR G xa pa P pl nx num [] len cs f m g) := by
  refine AM.of (σ := sX9_measure) (by decide +kernel) (by decide +kernel) (Nat.le_of_ble_eq_true rfl) (fun B hB hR hE0 hN => ?_)
  have hE := BE.of hE0
  refine a_iload_n hB dX9_measure_0 rfl ?_
  refine a_iconstN (v := 0) hB dX9_measure_1 (by decide) ?_
  refine a_bipushN (v := 6) hB dX9_measure_2 (by decide) ?_
  refine a_callSr hB (c_X9_requireRange (by omega) (by omega) (by omega)) mk_X9_requireRange ml_X9_89 dX9_measure_4 rfl rfl [] rfl (by decide) (fit_of hR (by decide)) (Nat.le_of_ble_eq_true rfl) ?_
  refine a_aload_n hB dX9_measure_7 rfl ?_
  refine a_get (T := TX9) (ci := 9) hB dX9_measure_8 0 fl_X9_12 lay_X9 rfl (by decide) rfl 0 rfl rfl ?_
  refine a_get (T := TX4) (ci := 4) hB dX9_measure_11 2 fl_X9_136 lay_X4 rfl (by decide) rfl 1 rfl rfl ?_
  refine a_astore_n hB dX9_measure_14 (by decide) ?_
  refine a_iload_n hB dX9_measure_15 rfl ?_
  refine a_tableOut (tgt := 107) hB dX9_measure_16 (by decide) (by decide) ?_
  refine a_aload_n hB dX9_measure_107 rfl ?_
  refine a_aload_n hB dX9_measure_108 rfl ?_
  refine a_get (T := TX5) (ci := 5) hB dX9_measure_109 3 fl_X9_232 lay_X5 rfl (by decide) rfl 6 rfl rfl ?_
  refine a_callVr (q0 := 6) hB (c_X5_shareOf (S := P.sv) hn hm.2.1) mk_X5_shareOf ml_X9_236 dX9_measure_112 rfl rfl [6, 7] rfl (by decide) rfl rfl (fit_of hR (by decide)) (Nat.le_of_ble_eq_true rfl) ?_
  refine a_aload_n hB dX9_measure_115 rfl ?_
  refine a_aload_n hB dX9_measure_116 rfl ?_
  refine a_get (T := TX9) (ci := 9) hB dX9_measure_117 0 fl_X9_12 lay_X9 rfl (by decide) rfl 0 rfl rfl ?_
  refine a_get (T := TX4) (ci := 4) hB dX9_measure_120 4 fl_X9_125 lay_X4 rfl (by decide) rfl 1 rfl rfl ?_
  refine a_iconst (v := -1) hB dX9_measure_123 (by decide) ?_
  refine a_callV (q0 := 0) hB (c_X9_oddsFor (P := P) h6 hw (by omega) hm.1) mk_X9_oddsFor ml_X9_228 dX9_measure_124 rfl rfl [0, 1, 2, 3, 4, 5, 6, 7, 8, 9, 10, 11, 12, 13, 14, 15, 16, 17] rfl (by decide) rfl rfl (fit_of hR (by decide)) (Nat.le_of_ble_eq_true rfl) (fun v124 w124 hq124 hk124 => ?_)
  obtain ⟨rfl, f, m, g, rfl⟩ := hq124
  refine aW_w (ws' := wR G xa pa P pl nx num [] len cs f m g) (wput_all rfl rfl) ?_
  refine a_dsub hB dX9_measure_127 hm.2.2.2.2.2 ?_
  exact a_dret hB hE rfl dX9_measure_128 (Nat.le_of_ble_eq_true rfl) (Nat.le_of_ble_eq_true rfl) (AKeep.of rfl) ⟨rfl, _, _, _, rfl⟩
theorem c_X9_measure {G : GP} {xa pa : Nat → Nat} {P : PV} {pl : Nat → Option Nat} {nx num len : Nat} {cs f m : Nat → Nat} {g : Nat → UInt64} {k : Nat} (h6 : P.parts ≤ 6) (hw : ∀ j, P.wt j ≤ 9) (hlim : P.limit ≤ 99) (hn : P.sv.num < 2 ^ 31) (hm : P.mOK) (hk : k ≤ 6) : AM G sX9_measure 0 0 [.ref (xa 0), .int (nI k)] (wR G xa pa P pl nx num [] len cs f m g) (fun rv w => rv = some (.double (vM P k)) ∧ ∃ (f m : Nat → Nat) (g : Nat → UInt64), w = wR G xa pa P pl nx num [] len cs f m g) := by
  rcases (show k = 0 ∨ k = 1 ∨ k = 2 ∨ k = 3 ∨ k = 4 ∨ k = 5 ∨ k = 6 by omega) with rfl | rfl | rfl | rfl | rfl | rfl | rfl
  · exact c_X9_measure_0 h6 hw hlim hn hm
  · exact c_X9_measure_1 h6 hw hlim hn hm
  · exact c_X9_measure_2 h6 hw hlim hn hm
  · exact c_X9_measure_3 h6 hw hlim hn hm
  · exact c_X9_measure_4 h6 hw hlim hn hm
  · exact c_X9_measure_5 h6 hw hlim hn hm
  · exact c_X9_measure_6 h6 hw hlim hn hm
set_option maxHeartbeats 4000000 in
set_option maxRecDepth 100000 in
theorem c_X9_ifLimit {G : GP} {xa pa : Nat → Nat} {P : PV} {pl : Nat → Option Nat} {nx num len : Nat} {cs f m : Nat → Nat} {g : Nat → UInt64} {s : Nat} (h6 : P.parts ≤ 6) (hw : ∀ j, P.wt j ≤ 9) (hs : s ≤ 99) (ho : oddOK (cnt P (-1)) s) : AM G sX9_ifLimit 0 0 [.ref (xa 0), .int (nI s)] (wR G xa pa P pl nx num [] len cs f m g) (fun rv w => rv = some (.double (vO P (-1) s)) ∧ ∃ (f m : Nat → Nat) (g : Nat → UInt64), w = wR G xa pa P pl nx num [] len cs f m g) := by
  refine AM.of (σ := sX9_ifLimit) (by decide +kernel) (by decide +kernel) (Nat.le_of_ble_eq_true rfl) (fun B hB hR hE0 hN => ?_)
  have hE := BE.of hE0
  refine a_iload_n hB dX9_ifLimit_0 rfl ?_
  refine a_iconstN (v := 0) hB dX9_ifLimit_1 (by decide) ?_
  refine a_bipushN (v := 99) hB dX9_ifLimit_2 (by decide) ?_
  refine a_callSr hB (c_X9_requireRange (by omega) (by omega) (by omega)) mk_X9_requireRange ml_X9_89 dX9_ifLimit_4 rfl rfl [] rfl (by decide) (fit_of hR (by decide)) (Nat.le_of_ble_eq_true rfl) ?_
  refine a_aload_n hB dX9_ifLimit_7 rfl ?_
  refine a_iload_n hB dX9_ifLimit_8 rfl ?_
  refine a_iconst (v := -1) hB dX9_ifLimit_9 (by decide) ?_
  refine a_callV (q0 := 0) hB (c_X9_oddsFor (P := P) h6 hw (by omega) ho) mk_X9_oddsFor ml_X9_228 dX9_ifLimit_10 rfl rfl [0, 1, 2, 3, 4, 5, 6, 7, 8, 9, 10, 11, 12, 13, 14, 15, 16, 17] rfl (by decide) rfl rfl (fit_of hR (by decide)) (Nat.le_of_ble_eq_true rfl) (fun v10 w10 hq10 hk10 => ?_)
  obtain ⟨rfl, f, m, g, rfl⟩ := hq10
  refine aW_w (ws' := wR G xa pa P pl nx num [] len cs f m g) (wput_all rfl rfl) ?_
  exact a_dret hB hE rfl dX9_ifLimit_13 (Nat.le_of_ble_eq_true rfl) (Nat.le_of_ble_eq_true rfl) (AKeep.of rfl) ⟨rfl, _, _, _, rfl⟩
set_option maxHeartbeats 4000000 in
set_option maxRecDepth 100000 in
theorem c_X9_limitFor_r {G : GP} {xa pa : Nat → Nat} {P : PV} {pl : Nat → Option Nat} {nx num len : Nat} {cs f m : Nat → Nat} {g : Nat → UInt64} {th r : Nat} (h6 : P.parts ≤ 6) (hw : ∀ j, P.wt j ≤ 9) (hth : th ≤ 1000) (hb : ∀ s, wfrom (cnt P (-1)) s ≤ 24794911296) (hr : r ≤ 99) (h1 : r < 99 → wfrom (cnt P (-1)) r * 1000 ≤ wfrom (cnt P (-1)) 0 * th) (h0 : ∀ l, l < r → ¬ wfrom (cnt P (-1)) l * 1000 ≤ wfrom (cnt P (-1)) 0 * th) : AM G sX9_limitFor 0 0 [.ref (xa 0), .int (nI th)] (wR G xa pa P pl nx num [] len cs f m g) (fun rv w => rv = some (.int (nI r)) ∧ ∃ (f m : Nat → Nat) (g : Nat → UInt64), w = wR G xa pa P pl nx num [] len cs f m g) := by
  refine AM.of (σ := sX9_limitFor) (by decide +kernel) (by decide +kernel) (Nat.le_of_ble_eq_true rfl) (fun B hB hR hE0 hN => ?_)
  have hE := BE.of hE0
  refine a_iload_n hB dX9_limitFor_0 rfl ?_
  refine a_iconstN (v := 0) hB dX9_limitFor_1 (by decide) ?_
  refine a_sipushN (v := 1000) hB dX9_limitFor_2 (by decide) ?_
  refine a_callSr hB (c_X9_requireRange (by omega) (by omega) (by omega)) mk_X9_requireRange ml_X9_89 dX9_limitFor_5 rfl rfl [] rfl (by decide) (fit_of hR (by decide)) (Nat.le_of_ble_eq_true rfl) ?_
  refine a_aload_n hB dX9_limitFor_8 rfl ?_
  refine a_get (T := TX9) (ci := 9) hB dX9_limitFor_9 3 fl_X9_33 lay_X9 rfl (by decide) rfl 0 rfl rfl ?_
  refine a_aload_n hB dX9_limitFor_12 rfl ?_
  refine a_get (T := TX9) (ci := 9) hB dX9_limitFor_13 0 fl_X9_12 lay_X9 rfl (by decide) rfl 0 rfl rfl ?_
  refine a_iconst (v := -1) hB dX9_limitFor_16 (by decide) ?_
  refine a_callVd (w2 := wR G xa pa P pl nx num [] len cs (cnF P.wt (-1) f P.parts) m g) (q0 := 12) hB (c_X1_fill (pa := pa) (P := P) (wo := (-1)) (f := f) h6 hw) mk_X1_fill ml_X9_202 dX9_limitFor_17 rfl rfl [12, 13, 1, 2, 3] rfl (by decide) rfl rfl (fit_of hR (by decide)) (Nat.le_of_ble_eq_true rfl) rfl ?_
  refine a_aload_n hB dX9_limitFor_20 rfl ?_
  refine a_get (T := TX9) (ci := 9) hB dX9_limitFor_21 3 fl_X9_33 lay_X9 rfl (by decide) rfl 0 rfl rfl ?_
  refine a_iconstN (v := 0) hB dX9_limitFor_24 (by decide) ?_
  refine a_callVr (q0 := 12) hB (c_X1_waysFrom (by omega)) mk_X1_waysFrom ml_X9_206 dX9_limitFor_25 rfl rfl [12, 13] rfl (by decide) rfl rfl (fit_of hR (by decide)) (Nat.le_of_ble_eq_true rfl) ?_
  refine a_iload_n hB dX9_limitFor_28 rfl ?_
  refine a_i2lN hB dX9_limitFor_29 (by omega) ?_
  refine a_lmulN hB dX9_limitFor_30 ?_
  refine a_lstore_n hB dX9_limitFor_31 (by decide) ?_
  refine a_iconstN (v := 0) hB dX9_limitFor_32 (by decide) ?_
  refine a_istore hB dX9_limitFor_33 (by decide) ?_
  have lp35 : ∀ (j35 i : Nat), i + j35 = r → aW G sX9_limitFor B 35 [(0, .ref (xa 0)), (1, .int (nI th)), (2, .long (lN (wfrom (cnF P.wt (-1) f P.parts) 0 * th))), (4, .int (nI i))] [] (wR G xa pa P pl nx num [] len cs (cnF P.wt (-1) f P.parts) m g) 0 0 := by
    intro j35
    induction j35 with
    | zero =>
      intro i hi
      have b1 : wfrom (cnF P.wt (-1) f P.parts) i * 1000 < 2 ^ 63 := by rw [wfrom_cnt]; have := hb i; omega
      have b2 : wfrom (cnF P.wt (-1) f P.parts) 0 * th < 2 ^ 63 := by rw [wfrom_cnt]; exact Nat.lt_of_le_of_lt (Nat.mul_le_mul (hb 0) hth) (by decide)
      refine a_iload hB dX9_limitFor_35 rfl ?_
      refine a_bipushN (v := 99) hB dX9_limitFor_37 (by decide) ?_
      refine a_icmp_geN (tgt := 69) hB dX9_limitFor_39 (by decide) (by omega) (by omega) (fun c39 => ?_) (fun c39 => ?_)
      · refine a_bipushN (v := 99) hB dX9_limitFor_69 (by decide) ?_
        exact a_iret hB hE rfl dX9_limitFor_71 (Nat.le_of_ble_eq_true rfl) (Nat.le_of_ble_eq_true rfl) (AKeep.of rfl) ⟨by rw [show r = 99 by omega], _, _, _, rfl⟩
      · refine a_aload_n hB dX9_limitFor_42 rfl ?_
        refine a_get (T := TX9) (ci := 9) hB dX9_limitFor_43 3 fl_X9_33 lay_X9 rfl (by decide) rfl 0 rfl rfl ?_
        refine a_iload hB dX9_limitFor_46 rfl ?_
        refine a_callVr (q0 := 12) hB (c_X1_waysFrom (by omega)) mk_X1_waysFrom ml_X9_206 dX9_limitFor_48 rfl rfl [12, 13] rfl (by decide) rfl rfl (fit_of hR (by decide)) (Nat.le_of_ble_eq_true rfl) ?_
        refine a_ldc2N (v := 1000) hB dX9_limitFor_51 kk_X9_250 (by decide) ?_
        refine a_lmulN hB dX9_limitFor_54 ?_
        refine a_lload_n hB dX9_limitFor_55 rfl ?_
        refine a_lcmp hB dX9_limitFor_56 ?_
        refine a_if_gtL_f (tgt := 63) hB dX9_limitFor_57 (by decide) b1 b2 (by rw [wfrom_cnt, wfrom_cnt, show i = r by omega]; exact Nat.not_lt.mpr (h1 (by omega))) ?_
        refine a_iload hB dX9_limitFor_60 rfl ?_
        exact a_iret hB hE rfl dX9_limitFor_62 (Nat.le_of_ble_eq_true rfl) (Nat.le_of_ble_eq_true rfl) (AKeep.of rfl) ⟨by rw [show i = r by omega], _, _, _, rfl⟩
    | succ j35 ih35 =>
      intro i hi
      have b1 : wfrom (cnF P.wt (-1) f P.parts) i * 1000 < 2 ^ 63 := by rw [wfrom_cnt]; have := hb i; omega
      have b2 : wfrom (cnF P.wt (-1) f P.parts) 0 * th < 2 ^ 63 := by rw [wfrom_cnt]; exact Nat.lt_of_le_of_lt (Nat.mul_le_mul (hb 0) hth) (by decide)
      refine a_iload hB dX9_limitFor_35 rfl ?_
      refine a_bipushN (v := 99) hB dX9_limitFor_37 (by decide) ?_
      refine a_icmp_geN_f (tgt := 69) hB dX9_limitFor_39 (by decide) (by omega) (by omega) (by omega) ?_
      refine a_aload_n hB dX9_limitFor_42 rfl ?_
      refine a_get (T := TX9) (ci := 9) hB dX9_limitFor_43 3 fl_X9_33 lay_X9 rfl (by decide) rfl 0 rfl rfl ?_
      refine a_iload hB dX9_limitFor_46 rfl ?_
      refine a_callVr (q0 := 12) hB (c_X1_waysFrom (by omega)) mk_X1_waysFrom ml_X9_206 dX9_limitFor_48 rfl rfl [12, 13] rfl (by decide) rfl rfl (fit_of hR (by decide)) (Nat.le_of_ble_eq_true rfl) ?_
      refine a_ldc2N (v := 1000) hB dX9_limitFor_51 kk_X9_250 (by decide) ?_
      refine a_lmulN hB dX9_limitFor_54 ?_
      refine a_lload_n hB dX9_limitFor_55 rfl ?_
      refine a_lcmp hB dX9_limitFor_56 ?_
      refine a_if_gtL_t (tgt := 63) hB dX9_limitFor_57 (by decide) b1 b2 (by rw [wfrom_cnt, wfrom_cnt]; exact Nat.lt_of_not_le (h0 i (by omega))) ?_
      refine a_iincN (b := 1) hB dX9_limitFor_63 rfl (by decide) (by decide) ?_
      refine a_goto (tgt := 35) hB dX9_limitFor_66 (by decide) ?_
      exact aW_at [0, 1, 2, 3] rfl rfl rfl (ih35 (i + 1) (by omega))
  exact aW_at [0, 1, 2, 3] rfl rfl rfl (lp35 (r) 0 (by omega))
theorem c_X9_limitFor {G : GP} {xa pa : Nat → Nat} {P : PV} {pl : Nat → Option Nat} {nx num len : Nat} {cs f m : Nat → Nat} {g : Nat → UInt64} {th : Nat} (h6 : P.parts ≤ 6) (hw : ∀ j, P.wt j ≤ 9) (hth : th ≤ 1000) (hb : ∀ s, wfrom (cnt P (-1)) s ≤ 24794911296) : AM G sX9_limitFor 0 0 [.ref (xa 0), .int (nI th)] (wR G xa pa P pl nx num [] len cs f m g) (fun rv w => rv = some (.int (nI (vF P th))) ∧ ∃ (f m : Nat → Nat) (g : Nat → UInt64), w = wR G xa pa P pl nx num [] len cs f m g) := by
  obtain ⟨-, a, b, c⟩ := lfr_spec (fun l => wfrom (cnt P (-1)) l * 1000 ≤ wfrom (cnt P (-1)) 0 * th) 99 0
  exact c_X9_limitFor_r h6 hw hth hb (r := vF P th) (by show lfr _ 99 0 ≤ 99; omega) (fun h => b (by have : lfr _ 99 0 < 99 := h; omega)) (fun l h => c l (Nat.zero_le _) h)
set_option maxHeartbeats 4000000 in
set_option maxRecDepth 100000 in
theorem c_X9_greatest_0 {G : GP} {xa pa : Nat → Nat} {P : PV} {pl : Nat → Option Nat} {nx num len : Nat} {cs f m : Nat → Nat} {g : Nat → UInt64} (h6 : P.parts ≤ 6) (hw : ∀ j, P.wt j ≤ 9) (ht : ∀ j, P.tl j ≤ 99) (hlim : P.limit ≤ 99) (hcf : P.cfOK) : AM G sX9_greatest 0 0 [.ref (xa 0), .int (nI 0)] (wR G xa pa P pl nx num [] len cs f m g) (fun rv w => rv = some (.double (vG P 0)) ∧ ∃ (f m : Nat → Nat) (g : Nat → UInt64), w = wR G xa pa P pl nx num [] len cs f m g) := by
  refine AM.of (σ := sX9_greatest) (by decide +kernel) (by decide +kernel) (Nat.le_of_ble_eq_true rfl) (fun B hB hR hE0 hN => ?_)
  have hE := BE.of hE0
  refine a_aload_n hB dX9_greatest_0 rfl ?_
  refine a_get (T := TX9) (ci := 9) hB dX9_greatest_1 5 fl_X9_47 lay_X9 rfl (by decide) rfl 0 rfl rfl ?_
  refine a_aload_n hB dX9_greatest_4 rfl ?_
  refine a_get (T := TX9) (ci := 9) hB dX9_greatest_5 0 fl_X9_12 lay_X9 rfl (by decide) rfl 0 rfl rfl ?_
  refine a_callVd (w2 := wR G xa pa P pl nx num [] len cs f m (cfF P g P.parts)) (q0 := 16) hB (c_X0_fill (pa := pa) (P := P) (g := g) h6 hw ht (fun p s l h1 h2 h3 => by rw [rd_cfz l h2]; exact hcf p s l h1 h2 h3)) mk_X0_fill ml_X9_252 dX9_greatest_8 rfl rfl [16, 17, 1, 2, 3, 4, 5, 6, 7] rfl (by decide) rfl rfl (fit_of hR (by decide)) (Nat.le_of_ble_eq_true rfl) (wput_sw (w1 := [oR xa pa]) (wp := wP G pa P) (wm := wH G (xa 1) (xa 2) pl nx num ++ (wX G (xa 3) (xa 4) len cs ++ (wK G (xa 5) (xa 6) f ++ wI G (xa 7) (xa 8) m))) (wx := wC G (xa 9) (xa 10) g) (w3 := []) (wy := wC G (xa 9) (xa 10) (cfF P g P.parts)) (wd := wP G pa P) rfl rfl ⟨rfl, rfl, rfl⟩ rfl) ?_
  refine a_aload_n hB dX9_greatest_11 rfl ?_
  refine a_get (T := TX9) (ci := 9) hB dX9_greatest_12 5 fl_X9_47 lay_X9 rfl (by decide) rfl 0 rfl rfl ?_
  refine a_iload_n hB dX9_greatest_15 rfl ?_
  refine a_if_eqN_t (tgt := 29) hB dX9_greatest_16 (by decide) (by omega) (by omega) ?_
  refine a_iconstN (v := 0) hB dX9_greatest_29 (by decide) ?_
  refine a_callVr (q0 := 16) hB (c_X0_greatestFrom (by omega)) mk_X0_greatestFrom ml_X9_253 dX9_greatest_30 rfl rfl [16, 17] rfl (by decide) rfl rfl (fit_of hR (by decide)) (Nat.le_of_ble_eq_true rfl) ?_
  exact a_dret hB hE rfl dX9_greatest_33 (Nat.le_of_ble_eq_true rfl) (Nat.le_of_ble_eq_true rfl) (AKeep.of rfl) ⟨by rw [gfrom_cfz]; rfl, _, _, _, rfl⟩
set_option maxHeartbeats 4000000 in
set_option maxRecDepth 100000 in
theorem c_X9_greatest_1 {G : GP} {xa pa : Nat → Nat} {P : PV} {pl : Nat → Option Nat} {nx num len : Nat} {cs f m : Nat → Nat} {g : Nat → UInt64} (h6 : P.parts ≤ 6) (hw : ∀ j, P.wt j ≤ 9) (ht : ∀ j, P.tl j ≤ 99) (hlim : P.limit ≤ 99) (hcf : P.cfOK) : AM G sX9_greatest 0 0 [.ref (xa 0), .int (nI 1)] (wR G xa pa P pl nx num [] len cs f m g) (fun rv w => rv = some (.double (vG P 1)) ∧ ∃ (f m : Nat → Nat) (g : Nat → UInt64), w = wR G xa pa P pl nx num [] len cs f m g) := by
  refine AM.of (σ := sX9_greatest) (by decide +kernel) (by decide +kernel) (Nat.le_of_ble_eq_true rfl) (fun B hB hR hE0 hN => ?_)
  have hE := BE.of hE0
  refine a_aload_n hB dX9_greatest_0 rfl ?_
  refine a_get (T := TX9) (ci := 9) hB dX9_greatest_1 5 fl_X9_47 lay_X9 rfl (by decide) rfl 0 rfl rfl ?_
  refine a_aload_n hB dX9_greatest_4 rfl ?_
  refine a_get (T := TX9) (ci := 9) hB dX9_greatest_5 0 fl_X9_12 lay_X9 rfl (by decide) rfl 0 rfl rfl ?_
  refine a_callVd (w2 := wR G xa pa P pl nx num [] len cs f m (cfF P g P.parts)) (q0 := 16) hB (c_X0_fill (pa := pa) (P := P) (g := g) h6 hw ht (fun p s l h1 h2 h3 => by rw [rd_cfz l h2]; exact hcf p s l h1 h2 h3)) mk_X0_fill ml_X9_252 dX9_greatest_8 rfl rfl [16, 17, 1, 2, 3, 4, 5, 6, 7] rfl (by decide) rfl rfl (fit_of hR (by decide)) (Nat.le_of_ble_eq_true rfl) (wput_sw (w1 := [oR xa pa]) (wp := wP G pa P) (wm := wH G (xa 1) (xa 2) pl nx num ++ (wX G (xa 3) (xa 4) len cs ++ (wK G (xa 5) (xa 6) f ++ wI G (xa 7) (xa 8) m))) (wx := wC G (xa 9) (xa 10) g) (w3 := []) (wy := wC G (xa 9) (xa 10) (cfF P g P.parts)) (wd := wP G pa P) rfl rfl ⟨rfl, rfl, rfl⟩ rfl) ?_
  refine a_aload_n hB dX9_greatest_11 rfl ?_
  refine a_get (T := TX9) (ci := 9) hB dX9_greatest_12 5 fl_X9_47 lay_X9 rfl (by decide) rfl 0 rfl rfl ?_
  refine a_iload_n hB dX9_greatest_15 rfl ?_
  refine a_if_eqN_f (tgt := 29) hB dX9_greatest_16 (by decide) (by omega) (by omega) ?_
  refine a_aload_n hB dX9_greatest_19 rfl ?_
  refine a_get (T := TX9) (ci := 9) hB dX9_greatest_20 0 fl_X9_12 lay_X9 rfl (by decide) rfl 0 rfl rfl ?_
  refine a_get (T := TX4) (ci := 4) hB dX9_greatest_23 4 fl_X9_125 lay_X4 rfl (by decide) rfl 1 rfl rfl ?_
  refine a_goto (tgt := 30) hB dX9_greatest_26 (by decide) ?_
  refine a_callVr (q0 := 16) hB (c_X0_greatestFrom (by omega)) mk_X0_greatestFrom ml_X9_253 dX9_greatest_30 rfl rfl [16, 17] rfl (by decide) rfl rfl (fit_of hR (by decide)) (Nat.le_of_ble_eq_true rfl) ?_
  exact a_dret hB hE rfl dX9_greatest_33 (Nat.le_of_ble_eq_true rfl) (Nat.le_of_ble_eq_true rfl) (AKeep.of rfl) ⟨by rw [gfrom_cfz]; rfl, _, _, _, rfl⟩
set_option maxHeartbeats 4000000 in
set_option maxRecDepth 100000 in
theorem c_X9_slightest {G : GP} {xa pa : Nat → Nat} {P : PV} {pl : Nat → Option Nat} {nx num len : Nat} {cs f m : Nat → Nat} {g : Nat → UInt64} (h6 : P.parts ≤ 6) (hw : ∀ j, P.wt j ≤ 9) (hlim : P.limit ≤ 99) (ho : ∀ i, i < P.parts → oddOK (cnt P (nI i)) P.limit) : AM G sX9_slightest 0 0 [.ref (xa 0)] (wR G xa pa P pl nx num [] len cs f m g) (fun rv w => rv = some (.int (slS P 13830554455654793216 P.parts).1) ∧ ∃ (f m : Nat → Nat) (g : Nat → UInt64), w = wR G xa pa P pl nx num [] len cs f m g) := by
  refine AM.of (σ := sX9_slightest) (by decide +kernel) (by decide +kernel) (Nat.le_of_ble_eq_true rfl) (fun B hB hR hE0 hN => ?_)
  have hE := BE.of hE0
  refine a_iconst (v := -1) hB dX9_slightest_0 (by decide) ?_
  refine a_istore_n hB dX9_slightest_1 (by decide) ?_
  refine a_ldc2d hB dX9_slightest_2 kk_X9_257 ?_
  refine a_dstore_n hB dX9_slightest_5 (by decide) ?_
  refine a_iconstN (v := 0) hB dX9_slightest_6 (by decide) ?_
  refine a_istore hB dX9_slightest_7 (by decide) ?_
  have lp9 : ∀ (j9 i : Nat) (f m : Nat → Nat) (g : Nat → UInt64), i + j9 = P.parts → aW G sX9_slightest B 9 [(0, .ref (xa 0)), (1, .int (slS P 13830554455654793216 i).1), (2, .double (slS P 13830554455654793216 i).2), (4, .int (nI i))] [] (wR G xa pa P pl nx num [] len cs f m g) 0 0 := by
    intro j9
    induction j9 with
    | zero =>
      intro i f m g hi
      refine a_iload hB dX9_slightest_9 rfl ?_
      refine a_aload_n hB dX9_slightest_11 rfl ?_
      refine a_get (T := TX9) (ci := 9) hB dX9_slightest_12 0 fl_X9_12 lay_X9 rfl (by decide) rfl 0 rfl rfl ?_
      refine a_get (T := TX4) (ci := 4) hB dX9_slightest_15 3 fl_X9_58 lay_X4 rfl (by decide) rfl 1 rfl rfl ?_
      refine a_icmp_geN_t (tgt := 55) hB dX9_slightest_18 (by decide) (by omega) (by omega) (by omega) ?_
      refine a_iload_n hB dX9_slightest_55 rfl ?_
      exact a_iret hB hE rfl dX9_slightest_56 (Nat.le_of_ble_eq_true rfl) (Nat.le_of_ble_eq_true rfl) (AKeep.of rfl) ⟨by rw [show i = P.parts by omega], _, _, _, rfl⟩
    | succ j9 ih9 =>
      intro i f m g hi
      refine a_iload hB dX9_slightest_9 rfl ?_
      refine a_aload_n hB dX9_slightest_11 rfl ?_
      refine a_get (T := TX9) (ci := 9) hB dX9_slightest_12 0 fl_X9_12 lay_X9 rfl (by decide) rfl 0 rfl rfl ?_
      refine a_get (T := TX4) (ci := 4) hB dX9_slightest_15 3 fl_X9_58 lay_X4 rfl (by decide) rfl 1 rfl rfl ?_
      refine a_icmp_geN_f (tgt := 55) hB dX9_slightest_18 (by decide) (by omega) (by omega) (by omega) ?_
      refine a_aload_n hB dX9_slightest_21 rfl ?_
      refine a_aload_n hB dX9_slightest_22 rfl ?_
      refine a_get (T := TX9) (ci := 9) hB dX9_slightest_23 0 fl_X9_12 lay_X9 rfl (by decide) rfl 0 rfl rfl ?_
      refine a_get (T := TX4) (ci := 4) hB dX9_slightest_26 4 fl_X9_125 lay_X4 rfl (by decide) rfl 1 rfl rfl ?_
      refine a_iload hB dX9_slightest_29 rfl ?_
      refine a_callV (q0 := 0) hB (c_X9_oddsFor (P := P) h6 hw (by omega) (ho i (by omega))) mk_X9_oddsFor ml_X9_228 dX9_slightest_31 rfl rfl [0, 1, 2, 3, 4, 5, 6, 7, 8, 9, 10, 11, 12, 13, 14, 15, 16, 17] rfl (by decide) rfl rfl (fit_of hR (by decide)) (Nat.le_of_ble_eq_true rfl) (fun v31 w31 hq31 hk31 => ?_)
      obtain ⟨rfl, f, m, g, rfl⟩ := hq31
      refine aW_w (ws' := wR G xa pa P pl nx num [] len cs f m g) (wput_all rfl rfl) ?_
      refine a_dstore hB dX9_slightest_34 (by decide) ?_
      refine a_dload hB dX9_slightest_36 rfl ?_
      refine a_dload_n hB dX9_slightest_38 rfl ?_
      refine a_dcmp hB dX9_slightest_39 ?_
      refine a_if_le (tgt := 49) hB dX9_slightest_40 (by decide) (fun c40 => ?_) (fun c40 => ?_)
      · refine a_iincN (b := 1) hB dX9_slightest_49 rfl (by decide) (by decide) ?_
        refine a_goto (tgt := 9) hB dX9_slightest_52 (by decide) ?_
        first | (have e9 := slS_n c40) | (have e9 := slS_y c40)
        exact aW_at [0, 1, 2, 3] (by rw [e9]; rfl) rfl rfl (ih9 (i + 1) f m g (by omega))
      · refine a_dload hB dX9_slightest_43 rfl ?_
        refine a_dstore_n hB dX9_slightest_45 (by decide) ?_
        refine a_iload hB dX9_slightest_46 rfl ?_
        refine a_istore_n hB dX9_slightest_48 (by decide) ?_
        refine a_iincN (b := 1) hB dX9_slightest_49 rfl (by decide) (by decide) ?_
        refine a_goto (tgt := 9) hB dX9_slightest_52 (by decide) ?_
        first | (have e9 := slS_n c40) | (have e9 := slS_y c40)
        exact aW_at [0, 1, 2, 3] (by rw [e9]; rfl) rfl rfl (ih9 (i + 1) f m g (by omega))
  exact aW_at [0, 1, 2, 3] rfl rfl rfl (lp9 (P.parts) 0 f m g (by omega))
def hsh (h v : Int64) : Int64 := lN 31 * h + v
set_option maxHeartbeats 4000000 in
set_option maxRecDepth 100000 in
theorem c_X9_hashWith {G : GP} {h v : Int64} : AMd G sX9_hashWith [.long h, .long v] [] (some (.long (hsh h v))) [] := by
  refine AM.of (σ := sX9_hashWith) (by decide +kernel) (by decide +kernel) (Nat.le_of_ble_eq_true rfl) (fun B hB hR hE0 hN => ?_)
  have hE := BE.of hE0
  refine a_ldc2N (v := 31) hB dX9_hashWith_0 kk_X9_305 (by decide) ?_
  refine a_lload_n hB dX9_hashWith_3 rfl ?_
  refine a_lmul hB dX9_hashWith_4 ?_
  refine a_lload_n hB dX9_hashWith_5 rfl ?_
  refine a_ladd hB dX9_hashWith_6 ?_
  exact a_lret hB hE rfl dX9_hashWith_7 (Nat.le_of_ble_eq_true rfl) (Nat.le_of_ble_eq_true rfl) (AKeep.of rfl) ⟨rfl, rfl⟩
def hp1 (P : PV) (p : Nat) (h : Int64) : Nat → Int64
  | 0 => h
  | k + 1 => hsh (hp1 P p h k) (vP P p k).toInt64
def hp2 (w : Nat → Nat) (p : Nat) (h : Int64) : Nat → Int64
  | 0 => h
  | k + 1 => hsh (hp2 w p h k) (lN (gt w p k))
def vHP (P : PV) (p : Nat) (h : Int64) : Int64 := hsh (hp2 P.tl p (hp2 P.wt p (hp1 P p h 7) 6) 6) (vL P p).toInt64
set_option maxHeartbeats 4000000 in
set_option maxRecDepth 100000 in
theorem c_X9_hashWithPart {G : GP} {xa pa : Nat → Nat} {P : PV} {pl : Nat → Option Nat} {nx num len : Nat} {cs f m : Nat → Nat} {g : Nat → UInt64} {p : Nat} {h : Int64} (h6 : P.parts ≤ 6) (hw : ∀ j, P.wt j ≤ 9) (ht : ∀ j, P.tl j ≤ 99) (hlim : P.limit ≤ 99) (hpos : ∀ p, p < P.parts → ∃ l, l < 6 ∧ 0 < gt P.wt p l) (hn : P.sv.num < 2 ^ 31) (hp : p < P.parts) : AM G sX9_hashWithPart 0 0 [.ref (xa 0), .long h, .int (nI p)] (wR G xa pa P pl nx num [] len cs f m g) (fun rv w => rv = some (.long (vHP P p h)) ∧ ∃ (f m : Nat → Nat) (g : Nat → UInt64), w = wR G xa pa P pl nx num [] len cs f m g) := by
  refine AM.of (σ := sX9_hashWithPart) (by decide +kernel) (by decide +kernel) (Nat.le_of_ble_eq_true rfl) (fun B hB hR hE0 hN => ?_)
  have hE := BE.of hE0
  refine a_lload_n hB dX9_hashWithPart_0 rfl ?_
  refine a_lstore hB dX9_hashWithPart_1 (by decide) ?_
  refine a_iconstN (v := 0) hB dX9_hashWithPart_3 (by decide) ?_
  refine a_istore hB dX9_hashWithPart_4 (by decide) ?_
  have lp6 : ∀ (j6 i : Nat) (f m : Nat → Nat) (g : Nat → UInt64), i + j6 = 7 → aW G sX9_hashWithPart B 6 [(0, .ref (xa 0)), (1, .long h), (3, .int (nI p)), (4, .long (hp1 P p h i)), (6, .int (nI i))] [] (wR G xa pa P pl nx num [] len cs f m g) 0 0 := by
    intro j6
    induction j6 with
    | zero =>
      intro i f m g hi
      refine a_iload hB dX9_hashWithPart_6 rfl ?_
      refine a_bipushN (v := 7) hB dX9_hashWithPart_8 (by decide) ?_
      refine a_icmp_geN_t (tgt := 34) hB dX9_hashWithPart_10 (by decide) (by omega) (by omega) (by omega) ?_
      refine a_iconstN (v := 0) hB dX9_hashWithPart_34 (by decide) ?_
      refine a_istore hB dX9_hashWithPart_35 (by decide) ?_
      have lp37 : ∀ (j37 i : Nat) (f m : Nat → Nat) (g : Nat → UInt64), i + j37 = 6 → aW G sX9_hashWithPart B 37 [(0, .ref (xa 0)), (1, .long h), (3, .int (nI p)), (4, .long (hp2 P.wt p (hp1 P p h 7) i)), (6, .int (nI i))] [] (wR G xa pa P pl nx num [] len cs f m g) 0 0 := by
        intro j37
        induction j37 with
        | zero =>
          intro i f m g hi
          refine a_iload hB dX9_hashWithPart_37 rfl ?_
          refine a_bipushN (v := 6) hB dX9_hashWithPart_39 (by decide) ?_
          refine a_icmp_geN_t (tgt := 71) hB dX9_hashWithPart_41 (by decide) (by omega) (by omega) (by omega) ?_
          refine a_iconstN (v := 0) hB dX9_hashWithPart_71 (by decide) ?_
          refine a_istore hB dX9_hashWithPart_72 (by decide) ?_
          have lp74 : ∀ (j74 i : Nat) (f m : Nat → Nat) (g : Nat → UInt64), i + j74 = 6 → aW G sX9_hashWithPart B 74 [(0, .ref (xa 0)), (1, .long h), (3, .int (nI p)), (4, .long (hp2 P.tl p (hp2 P.wt p (hp1 P p h 7) 6) i)), (6, .int (nI i))] [] (wR G xa pa P pl nx num [] len cs f m g) 0 0 := by
            intro j74
            induction j74 with
            | zero =>
              intro i f m g hi
              refine a_iload hB dX9_hashWithPart_74 rfl ?_
              refine a_bipushN (v := 6) hB dX9_hashWithPart_76 (by decide) ?_
              refine a_icmp_geN_t (tgt := 108) hB dX9_hashWithPart_78 (by decide) (by omega) (by omega) (by omega) ?_
              refine a_lload hB dX9_hashWithPart_108 rfl ?_
              refine a_aload_n hB dX9_hashWithPart_110 rfl ?_
              refine a_iload_n hB dX9_hashWithPart_111 rfl ?_
              refine a_callV (q0 := 0) hB (c_X9_likeliest (P := P) h6 hw hlim hp) mk_X9_likeliest ml_X9_302 dX9_hashWithPart_112 rfl rfl [0, 1, 2, 3, 4, 5, 6, 7, 8, 9, 10, 11, 12, 13, 14, 15, 16, 17] rfl (by decide) rfl rfl (fit_of hR (by decide)) (Nat.le_of_ble_eq_true rfl) (fun v112 w112 hq112 hk112 => ?_)
              obtain ⟨rfl, f, m, g, rfl⟩ := hq112
              refine aW_w (ws' := wR G xa pa P pl nx num [] len cs f m g) (wput_all rfl rfl) ?_
              refine a_i2l hB dX9_hashWithPart_115 ?_
              refine a_callSr hB (c_X9_hashWith) mk_X9_hashWith ml_X9_264 dX9_hashWithPart_116 rfl rfl [] rfl (by decide) (fit_of hR (by decide)) (Nat.le_of_ble_eq_true rfl) ?_
              exact a_lret hB hE rfl dX9_hashWithPart_119 (Nat.le_of_ble_eq_true rfl) (Nat.le_of_ble_eq_true rfl) (AKeep.of rfl) ⟨by rw [show i = 6 by omega]; rfl, _, _, _, rfl⟩
            | succ j74 ih74 =>
              intro i f m g hi
              have hg := gt_lt ht p i
              refine a_iload hB dX9_hashWithPart_74 rfl ?_
              refine a_bipushN (v := 6) hB dX9_hashWithPart_76 (by decide) ?_
              refine a_icmp_geN_f (tgt := 108) hB dX9_hashWithPart_78 (by decide) (by omega) (by omega) (by omega) ?_
              refine a_lload hB dX9_hashWithPart_81 rfl ?_
              refine a_aload_n hB dX9_hashWithPart_83 rfl ?_
              refine a_get (T := TX9) (ci := 9) hB dX9_hashWithPart_84 0 fl_X9_12 lay_X9 rfl (by decide) rfl 0 rfl rfl ?_
              refine a_get (T := TX4) (ci := 4) hB dX9_hashWithPart_87 1 fl_X9_113 lay_X4 rfl (by decide) rfl 1 rfl rfl ?_
              refine a_iload_n hB dX9_hashWithPart_90 rfl ?_
              refine a_iload hB dX9_hashWithPart_91 rfl ?_
              refine a_callVr (q0 := 4) hB (c_X7_get (by omega) (by omega)) mk_X7_get ml_X9_96 dX9_hashWithPart_93 rfl rfl [4, 5] rfl (by decide) rfl rfl (fit_of hR (by decide)) (Nat.le_of_ble_eq_true rfl) ?_
              refine a_i2lN hB dX9_hashWithPart_96 (by omega) ?_
              refine a_callSr hB (c_X9_hashWith) mk_X9_hashWith ml_X9_264 dX9_hashWithPart_97 rfl rfl [] rfl (by decide) (fit_of hR (by decide)) (Nat.le_of_ble_eq_true rfl) ?_
              refine a_lstore hB dX9_hashWithPart_100 (by decide) ?_
              refine a_iincN (b := 1) hB dX9_hashWithPart_102 rfl (by decide) (by decide) ?_
              refine a_goto (tgt := 74) hB dX9_hashWithPart_105 (by decide) ?_
              exact aW_at [0, 1, 2, 3, 4] rfl rfl rfl (ih74 (i + 1) f m g (by omega))
          exact aW_at [0, 1, 2, 3, 4] (by rw [show i = 6 by omega]; rfl) rfl rfl (lp74 (6) 0 f m g (by omega))
        | succ j37 ih37 =>
          intro i f m g hi
          have hg := gt_lt hw p i
          refine a_iload hB dX9_hashWithPart_37 rfl ?_
          refine a_bipushN (v := 6) hB dX9_hashWithPart_39 (by decide) ?_
          refine a_icmp_geN_f (tgt := 71) hB dX9_hashWithPart_41 (by decide) (by omega) (by omega) (by omega) ?_
          refine a_lload hB dX9_hashWithPart_44 rfl ?_
          refine a_aload_n hB dX9_hashWithPart_46 rfl ?_
          refine a_get (T := TX9) (ci := 9) hB dX9_hashWithPart_47 0 fl_X9_12 lay_X9 rfl (by decide) rfl 0 rfl rfl ?_
          refine a_get (T := TX4) (ci := 4) hB dX9_hashWithPart_50 0 fl_X9_92 lay_X4 rfl (by decide) rfl 1 rfl rfl ?_
          refine a_iload_n hB dX9_hashWithPart_53 rfl ?_
          refine a_iload hB dX9_hashWithPart_54 rfl ?_
          refine a_callVr (q0 := 2) hB (c_X7_get (by omega) (by omega)) mk_X7_get ml_X9_96 dX9_hashWithPart_56 rfl rfl [2, 3] rfl (by decide) rfl rfl (fit_of hR (by decide)) (Nat.le_of_ble_eq_true rfl) ?_
          refine a_i2lN hB dX9_hashWithPart_59 (by omega) ?_
          refine a_callSr hB (c_X9_hashWith) mk_X9_hashWith ml_X9_264 dX9_hashWithPart_60 rfl rfl [] rfl (by decide) (fit_of hR (by decide)) (Nat.le_of_ble_eq_true rfl) ?_
          refine a_lstore hB dX9_hashWithPart_63 (by decide) ?_
          refine a_iincN (b := 1) hB dX9_hashWithPart_65 rfl (by decide) (by decide) ?_
          refine a_goto (tgt := 37) hB dX9_hashWithPart_68 (by decide) ?_
          exact aW_at [0, 1, 2, 3, 4] rfl rfl rfl (ih37 (i + 1) f m g (by omega))
      exact aW_at [0, 1, 2, 3, 4] (by rw [show i = 7 by omega]; rfl) rfl rfl (lp37 (6) 0 f m g (by omega))
    | succ j6 ih6 =>
      intro i f m g hi
      refine a_iload hB dX9_hashWithPart_6 rfl ?_
      refine a_bipushN (v := 7) hB dX9_hashWithPart_8 (by decide) ?_
      refine a_icmp_geN_f (tgt := 34) hB dX9_hashWithPart_10 (by decide) (by omega) (by omega) (by omega) ?_
      refine a_lload hB dX9_hashWithPart_13 rfl ?_
      refine a_aload_n hB dX9_hashWithPart_15 rfl ?_
      refine a_iload_n hB dX9_hashWithPart_16 rfl ?_
      refine a_iload hB dX9_hashWithPart_17 rfl ?_
      refine a_callV (q0 := 0) hB (c_X9_part (P := P) h6 hw hpos hn hp (by omega)) mk_X9_part ml_X9_299 dX9_hashWithPart_19 rfl rfl [0, 1, 2, 3, 4, 5, 6, 7, 8, 9, 10, 11, 12, 13, 14, 15, 16, 17] rfl (by decide) rfl rfl (fit_of hR (by decide)) (Nat.le_of_ble_eq_true rfl) (fun v19 w19 hq19 hk19 => ?_)
      obtain ⟨rfl, f, m, g, rfl⟩ := hq19
      refine aW_w (ws' := wR G xa pa P pl nx num [] len cs f m g) (wput_all rfl rfl) ?_
      refine a_i2l hB dX9_hashWithPart_22 ?_
      refine a_callSr hB (c_X9_hashWith) mk_X9_hashWith ml_X9_264 dX9_hashWithPart_23 rfl rfl [] rfl (by decide) (fit_of hR (by decide)) (Nat.le_of_ble_eq_true rfl) ?_
      refine a_lstore hB dX9_hashWithPart_26 (by decide) ?_
      refine a_iincN (b := 1) hB dX9_hashWithPart_28 rfl (by decide) (by decide) ?_
      refine a_goto (tgt := 6) hB dX9_hashWithPart_31 (by decide) ?_
      exact aW_at [0, 1, 2, 3, 4] rfl rfl rfl (ih6 (i + 1) f m g (by omega))
  exact aW_at [0, 1, 2, 3, 4] rfl rfl rfl (lp6 (7) 0 f m g (by omega))
