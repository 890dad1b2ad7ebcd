theorem wput_all {ws wd : va_W} {ps : List Nat} (hp : ps = segL 0 ws.length) (hl : wd.length = ws.length) : wput ws ps wd = wd := by
  have h := wput_seg (ws := ws) (w1 := []) (wc := ws) (w3 := []) (wd := wd) (ps := ps) (w2 := wd) (by simp) hp hl (by simp)
  exact h
set_option maxHeartbeats 4000000 in
set_option maxRecDepth 100000 in
theorem c_X9_measure_0 {G : GP} {xa pa : Nat → Nat} {P : PV} {pl : Nat → Option Nat} {nx num len : Nat} {cs f m : Nat → Nat} {g : Nat → UInt64} (h6 : P.parts ≤ 6) (hw : ∀ j, P.wt j ≤ 9) (hlim : P.limit ≤ 99) (hn : P.sv.num < 2 ^ 31) (hm : P.mOK) : AM G sX9_measure 0 0 [.ref (xa 0), .int (nI 0)] (wR G xa pa P pl nx num [] len cs f m g) (fun rv w => rv = some (.double (vM P 0)) ∧ ∃ (f m : Nat → Nat) (g : Nat → UInt64), w = wR G xa pa P pl nx num [] len cs f m g) := by
  refine AM.of (σ := sX9_measure) (by decide +kernel) (by decide +kernel) (Nat.le_of_ble_eq_true rfl) (fun B hB hR hE0 hN => ?_)
  have hE := BE.of hE0
  refine a_iload_n hB dX9_measure_0 rfl ?_
  refine a_iconstN (v := 0) hB dX9_measure_1 (by decide) ?_
  refine a_bipushN (v := 6) hB dX9_measure_2 (by decide) ?_
  refine a_callSr hB (c_X9_requireRange (by omega) (by omega) (by omega)) mk_X9_requireRange ml_X9_89 dX9_measure_4 rfl rfl [] rfl (by decide) (fit_of hR (by decide)) (Nat.le_of_ble_eq_true rfl) ?_
  refine a_aload_n hB dX9_measure_7 rfl ?_
  refine a_get (T := TX9) (ci := 9) hB dX9_measure_8 0 fl_X9_12 lay_X9 rfl (by decide) rfl 0 rfl rfl ?_
  refine a_get (T := TX4) (ci := 4) hB dX9_measure_11 2 fl_X9_136 lay_X4 rfl (by decide) rfl 1 rfl rfl ?_
  refine a_astore_n hB dX9_measure_14 (by decide) ?_
  refine a_iload_n hB dX9_measure_15 rfl ?_
  refine a_tableIn (off := 40) (tgt := 56) hB dX9_measure_16 (by decide) (by decide) (by decide) (by decide) ?_
  refine a_aload_n hB dX9_measure_56 rfl ?_
  refine a_aload_n hB dX9_measure_57 rfl ?_
  refine a_get (T := TX9) (ci := 9) hB dX9_measure_58 0 fl_X9_12 lay_X9 rfl (by decide) rfl 0 rfl rfl ?_
  refine a_get (T := TX4) (ci := 4) hB dX9_measure_61 4 fl_X9_125 lay_X4 rfl (by decide) rfl 1 rfl rfl ?_
  refine a_iconst (v := -1) hB dX9_measure_64 (by decide) ?_
  refine a_callV (q0 := 0) hB (c_X9_oddsFor (P := P) h6 hw (by omega) hm.1) mk_X9_oddsFor ml_X9_228 dX9_measure_65 rfl rfl [0, 1, 2, 3, 4, 5, 6, 7, 8, 9, 10, 11, 12, 13, 14, 15, 16, 17] rfl (by decide) rfl rfl (fit_of hR (by decide)) (Nat.le_of_ble_eq_true rfl) (fun v65 w65 hq65 hk65 => ?_)
  obtain ⟨rfl, f, m, g, rfl⟩ := hq65
  refine aW_w (ws' := wR G xa pa P pl nx num [] len cs f m g) (wput_all rfl rfl) ?_
  exact a_dret hB hE rfl dX9_measure_68 (Nat.le_of_ble_eq_true rfl) (Nat.le_of_ble_eq_true rfl) (AKeep.of rfl) ⟨rfl, _, _, _, rfl⟩
