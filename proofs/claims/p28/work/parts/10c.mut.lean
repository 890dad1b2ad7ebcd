def adN (P : PV) (p : Nat) : Nat → PV
  | 0 => P
  | i + 1 => (adN P p i).both p i 1
def PV.addPart (P : PV) (gr : Nat) : PV := adN P.addE P.parts (gr + 1)
noncomputable def drN (P : PV) : Nat → PV
  | 0 => P
  | i + 1 => (drN P i).drawRow
/-- what a drawn row asks for -/
def PV.rowOK (P : PV) : Prop := P.parts ≤ 6 ∧ P.limit ≤ 99 ∧ (∀ j, P.wt j ≤ 9) ∧ (∀ j, P.tl j ≤ 99) ∧ (∀ p, p < P.parts → ∃ l, l < 6 ∧ 0 < gt P.tl p l) ∧ P.seed < 2147483648 ∧ (∀ i, i < P.parts → P.corOK (rowS P i).2.2.2 i (dload P.tl i (nxt (rowS P i).1))) ∧ (vf_n64 (FP.dadd P.sv.sm (rowS P P.parts).2.2.2) ∧ vf_n64 (FP.dmul (rowS P P.parts).2.2.2 (rowS P P.parts).2.2.2) ∧ vf_n64 (FP.dadd P.sv.sq (FP.dmul (rowS P P.parts).2.2.2 (rowS P P.parts).2.2.2)) ∧ vf_n64 (FP.dadd P.sv.fs (rowS P P.parts).2.2.2))
set_option maxHeartbeats 4000000 in
set_option maxRecDepth 100000 in
theorem c_X9_removePart_n {G : GP} {xa pa : Nat → Nat} {P : PV} {pl : Nat → Option Nat} {nx num len : Nat} {cs f m : Nat → Nat} {g : Nat → UInt64} (hnx : nx < 6) (hnum : num ≤ 6) (hpl : pl nx = none) {p : Nat} (hp : p < P.parts) (h6 : P.parts ≤ 6) : AM G sX9_removePart 7 93 [.ref (xa 0), .int (nI p)] (wR G xa pa P pl nx num [] len cs f m g) (fun rv w => rv = (some (.int (nI (P.parts - 1)))) ∧ ∃ qa : Nat → Nat, w = wR G xa pa (P.drop p) (va_up pl nx (some (qa 0))) ((nx + 1) % 6) (min (num + 1) 6) [] len cs f m g ++ wP G qa (PV0.cpy P)) := by
  refine AM.of (σ := sX9_removePart) (by decide +kernel) (by decide +kernel) (Nat.le_of_ble_eq_true rfl) (fun B hB hR hE0 hN => ?_)
  have hE := BE.of hE0
  refine a_aload_n hB dX9_removePart_0 rfl ?_
  refine a_iload_n hB dX9_removePart_1 rfl ?_
  refine a_callVr (q0 := 0) hB (c_X9_requirePart (n := P.parts) (by omega) (by omega)) mk_X9_requirePart ml_X9_79 dX9_removePart_2 rfl rfl [0, 1] rfl (by decide) rfl rfl (fit_of hR (by decide)) (Nat.le_of_ble_eq_true rfl) ?_
  refine a_aload_n hB dX9_removePart_5 rfl ?_
  refine a_get (T := TX9) (ci := 9) hB dX9_removePart_6 1 fl_X9_19 lay_X9 rfl (by decide) rfl 0 rfl rfl ?_
  refine a_aload_n hB dX9_removePart_9 rfl ?_
  refine a_get (T := TX9) (ci := 9) hB dX9_removePart_10 0 fl_X9_12 lay_X9 rfl (by decide) rfl 0 rfl rfl ?_
  refine a_callV (q0 := 8) hB (c_X2_saveN (pa := pa) (P := P) hnx hnum hpl) mk_X2_save ml_X9_67 dX9_removePart_13 rfl rfl [1, 2, 3, 4, 5, 6, 7, 8, 9] rfl (by decide) rfl rfl (fit_of hR (by decide)) (Nat.le_of_ble_eq_true rfl) (fun v13 w13 hq13 hk13 => ?_)
  obtain ⟨rfl, qa, rfl⟩ := hq13
  refine aW_w (ws' := wR G xa pa P (va_up pl nx (some (qa 0))) ((nx + 1) % 6) (min (num + 1) 6) [] len cs f m g ++ wP G qa (PV0.cpy P)) (wput_segE (w1 := [oR xa pa]) (wc := wP G pa P ++ wH G (xa 1) (xa 2) pl nx num) (wd := wP G pa P ++ wH G (xa 1) (xa 2) (va_up pl nx (some (qa 0))) ((nx + 1) % 6) (min (num + 1) 6)) (w3 := [] ++ wZ G xa len cs f m g) (ex := wP G qa (PV0.cpy P)) rfl rfl rfl rfl rfl) ?_
  refine a_aload_n hB dX9_removePart_16 rfl ?_
  refine a_get (T := TX9) (ci := 9) hB dX9_removePart_17 0 fl_X9_12 lay_X9 rfl (by decide) rfl 0 rfl rfl ?_
  refine a_iload_n hB dX9_removePart_20 rfl ?_
  refine a_callVd (w2 := wR G xa pa (P.drop p) (va_up pl nx (some (qa 0))) ((nx + 1) % 6) (min (num + 1) 6) [] len cs f m g ++ wP G qa (PV0.cpy P)) (q0 := 1) hB (c_X4_dropPart (pa := pa) (P := P) (by omega) (by omega)) mk_X4_dropPart ml_X9_83 dX9_removePart_21 rfl rfl [1, 2, 3, 4, 5, 6, 7] rfl (by decide) rfl rfl (fit_of hR (by decide)) (Nat.le_of_ble_eq_true rfl) (wput_seg (w1 := [oR xa pa]) (wc := wP G pa P) (w3 := wH G (xa 1) (xa 2) (va_up pl nx (some (qa 0))) ((nx + 1) % 6) (min (num + 1) 6) ++ ([] ++ (wZ G xa len cs f m g ++ wP G qa (PV0.cpy P)))) rfl rfl rfl rfl) ?_
  refine a_aload_n hB dX9_removePart_24 rfl ?_
  refine a_get (T := TX9) (ci := 9) hB dX9_removePart_25 0 fl_X9_12 lay_X9 rfl (by decide) rfl 0 rfl rfl ?_
  refine a_get (T := TX4) (ci := 4) hB dX9_removePart_28 3 fl_X9_58 lay_X4 rfl (by decide) rfl 1 rfl rfl ?_
  exact a_iret hB hE rfl dX9_removePart_31 (Nat.le_of_ble_eq_true rfl) (Nat.le_of_ble_eq_true rfl) (AKeep.of rfl) ⟨rfl, qa, rfl⟩
set_option maxHeartbeats 4000000 in
set_option maxRecDepth 100000 in
theorem c_X9_removePart_o {G : GP} {xa pa : Nat → Nat} {P : PV} {pl : Nat → Option Nat} {nx num len : Nat} {cs f m : Nat → Nat} {g : Nat → UInt64} {qa : Nat → Nat} {O : PV} (hnx : nx < 6) (hnum : num ≤ 6) (hpl : pl nx = some (qa 0)) {p : Nat} (hp : p < P.parts) (h6 : P.parts ≤ 6) : AMd G sX9_removePart [.ref (xa 0), .int (nI p)] (wR G xa pa P pl nx num (wP G qa O) len cs f m g) (some (.int (nI (P.parts - 1)))) (wR G xa pa (P.drop p) pl ((nx + 1) % 6) (min (num + 1) 6) (wP G qa (O.cpy P)) len cs f m g) := by
  refine AM.of (σ := sX9_removePart) (by decide +kernel) (by decide +kernel) (Nat.le_of_ble_eq_true rfl) (fun B hB hR hE0 hN => ?_)
  have hE := BE.of hE0
  refine a_aload_n hB dX9_removePart_0 rfl ?_
  refine a_iload_n hB dX9_removePart_1 rfl ?_
  refine a_callVr (q0 := 0) hB (c_X9_requirePart (n := P.parts) (by omega) (by omega)) mk_X9_requirePart ml_X9_79 dX9_removePart_2 rfl rfl [0, 1] rfl (by decide) rfl rfl (fit_of hR (by decide)) (Nat.le_of_ble_eq_true rfl) ?_
  refine a_aload_n hB dX9_removePart_5 rfl ?_
  refine a_get (T := TX9) (ci := 9) hB dX9_removePart_6 1 fl_X9_19 lay_X9 rfl (by decide) rfl 0 rfl rfl ?_
  refine a_aload_n hB dX9_removePart_9 rfl ?_
  refine a_get (T := TX9) (ci := 9) hB dX9_removePart_10 0 fl_X9_12 lay_X9 rfl (by decide) rfl 0 rfl rfl ?_
  refine a_callVd (w2 := wR G xa pa P pl ((nx + 1) % 6) (min (num + 1) 6) (wP G qa (O.cpy P)) len cs f m g) (q0 := 8) hB (c_X2_saveO (pa := pa) (qa := qa) (P := P) (O := O) hnx hnum hpl) mk_X2_save ml_X9_67 dX9_removePart_13 rfl rfl [1, 2, 3, 4, 5, 6, 7, 8, 9, 10, 11, 12, 13, 14, 15, 16] rfl (by decide) rfl rfl (fit_of hR (by decide)) (Nat.le_of_ble_eq_true rfl) (wput_seg (w1 := [oR xa pa]) (wc := wP G pa P ++ (wH G (xa 1) (xa 2) pl nx num ++ wP G qa O)) (w3 := wZ G xa len cs f m g) rfl rfl rfl rfl) ?_
  refine a_aload_n hB dX9_removePart_16 rfl ?_
  refine a_get (T := TX9) (ci := 9) hB dX9_removePart_17 0 fl_X9_12 lay_X9 rfl (by decide) rfl 0 rfl rfl ?_
  refine a_iload_n hB dX9_removePart_20 rfl ?_
  refine a_callVd (w2 := wR G xa pa (P.drop p) pl ((nx + 1) % 6) (min (num + 1) 6) (wP G qa (O.cpy P)) len cs f m g) (q0 := 1) hB (c_X4_dropPart (pa := pa) (P := P) (by omega) (by omega)) mk_X4_dropPart ml_X9_83 dX9_removePart_21 rfl rfl [1, 2, 3, 4, 5, 6, 7] rfl (by decide) rfl rfl (fit_of hR (by decide)) (Nat.le_of_ble_eq_true rfl) (wput_seg (w1 := [oR xa pa]) (wc := wP G pa P) (w3 := wH G (xa 1) (xa 2) pl ((nx + 1) % 6) (min (num + 1) 6) ++ (wP G qa (O.cpy P) ++ wZ G xa len cs f m g)) rfl rfl rfl rfl) ?_
  refine a_aload_n hB dX9_removePart_24 rfl ?_
  refine a_get (T := TX9) (ci := 9) hB dX9_removePart_25 0 fl_X9_12 lay_X9 rfl (by decide) rfl 0 rfl rfl ?_
  refine a_get (T := TX4) (ci := 4) hB dX9_removePart_28 3 fl_X9_58 lay_X4 rfl (by decide) rfl 1 rfl rfl ?_
  exact a_iret hB hE rfl dX9_removePart_31 (Nat.le_of_ble_eq_true rfl) (Nat.le_of_ble_eq_true rfl) (AKeep.of rfl) ⟨rfl, rfl⟩
set_option maxHeartbeats 4000000 in
set_option maxRecDepth 100000 in
theorem c_X9_weigh_n {G : GP} {xa pa : Nat → Nat} {P : PV} {pl : Nat → Option Nat} {nx num len : Nat} {cs f m : Nat → Nat} {g : Nat → UInt64} (hnx : nx < 6) (hnum : num ≤ 6) (hpl : pl nx = none) {p l v : Nat} (hp : p < P.parts) (h6 : P.parts ≤ 6) (hl : l < 6) (hv : v ≤ 9) (hw : ∀ j, P.wt j ≤ 9) (ht : ∀ j, P.tl j ≤ 99) (hz : ¬ (v = 0 ∧ tot P.wt p = gt P.wt p l)) : AM G sX9_weigh 7 93 [.ref (xa 0), .int (nI p), .int (nI l), .int (nI v)] (wR G xa pa P pl nx num [] len cs f m g) (fun rv w => rv = (some (.int (nI (gt P.wt p l)))) ∧ ∃ qa : Nat → Nat, w = wR G xa pa (P.setW p l v) (va_up pl nx (some (qa 0))) ((nx + 1) % 6) (min (num + 1) 6) [] len cs f m g ++ wP G qa (PV0.cpy P)) := by
  refine AM.of (σ := sX9_weigh) (by decide +kernel) (by decide +kernel) (Nat.le_of_ble_eq_true rfl) (fun B hB hR hE0 hN => ?_)
  have hE := BE.of hE0
  have hg := gt_lt hw p l
  have htt := tot_le hw p
  refine a_aload_n hB dX9_weigh_0 rfl ?_
  refine a_iload_n hB dX9_weigh_1 rfl ?_
  refine a_callVr (q0 := 0) hB (c_X9_requirePart (n := P.parts) (by omega) (by omega)) mk_X9_requirePart ml_X9_79 dX9_weigh_2 rfl rfl [0, 1] rfl (by decide) rfl rfl (fit_of hR (by decide)) (Nat.le_of_ble_eq_true rfl) ?_
  refine a_iload_n hB dX9_weigh_5 rfl ?_
  refine a_callSr hB (c_X9_requireLoad (by omega)) mk_X9_requireLoad ml_X9_86 dX9_weigh_6 rfl rfl [] rfl (by decide) (fit_of hR (by decide)) (Nat.le_of_ble_eq_true rfl) ?_
  refine a_iload_n hB dX9_weigh_9 rfl ?_
  refine a_iconstN (v := 0) hB dX9_weigh_10 (by decide) ?_
  refine a_bipushN (v := 9) hB dX9_weigh_11 (by decide) ?_
  refine a_callSr hB (c_X9_requireRange (by omega) (by omega) (by omega)) mk_X9_requireRange ml_X9_89 dX9_weigh_13 rfl rfl [] rfl (by decide) (fit_of hR (by decide)) (Nat.le_of_ble_eq_true rfl) ?_
  refine a_aload_n hB dX9_weigh_16 rfl ?_
  refine a_get (T := TX9) (ci := 9) hB dX9_weigh_17 0 fl_X9_12 lay_X9 rfl (by decide) rfl 0 rfl rfl ?_
  refine a_get (T := TX4) (ci := 4) hB dX9_weigh_20 0 fl_X9_92 lay_X4 rfl (by decide) rfl 1 rfl rfl ?_
  refine a_iload_n hB dX9_weigh_23 rfl ?_
  refine a_iload_n hB dX9_weigh_24 rfl ?_
  refine a_callVr (q0 := 2) hB (c_X7_get (by omega) (by omega)) mk_X7_get ml_X9_96 dX9_weigh_25 rfl rfl [2, 3] rfl (by decide) rfl rfl (fit_of hR (by decide)) (Nat.le_of_ble_eq_true rfl) ?_
  refine a_istore hB dX9_weigh_28 (by decide) ?_
  refine a_iload_n hB dX9_weigh_30 rfl ?_
  refine a_if_neN (tgt := 60) hB dX9_weigh_31 (by decide) (by omega) (fun c31 => ?_) (fun c31 => ?_)
  · refine a_aload_n hB dX9_weigh_60 rfl ?_
    refine a_get (T := TX9) (ci := 9) hB dX9_weigh_61 1 fl_X9_19 lay_X9 rfl (by decide) rfl 0 rfl rfl ?_
    refine a_aload_n hB dX9_weigh_64 rfl ?_
    refine a_get (T := TX9) (ci := 9) hB dX9_weigh_65 0 fl_X9_12 lay_X9 rfl (by decide) rfl 0 rfl rfl ?_
    refine a_callV (q0 := 8) hB (c_X2_saveN (pa := pa) (P := P) hnx hnum hpl) mk_X2_save ml_X9_67 dX9_weigh_68 rfl rfl [1, 2, 3, 4, 5, 6, 7, 8, 9] rfl (by decide) rfl rfl (fit_of hR (by decide)) (Nat.le_of_ble_eq_true rfl) (fun v68 w68 hq68 hk68 => ?_)
    obtain ⟨rfl, qa, rfl⟩ := hq68
    refine aW_w (ws' := wR G xa pa P (va_up pl nx (some (qa 0))) ((nx + 1) % 6) (min (num + 1) 6) [] len cs f m g ++ wP G qa (PV0.cpy P)) (wput_segE (w1 := [oR xa pa]) (wc := wP G pa P ++ wH G (xa 1) (xa 2) pl nx num) (wd := wP G pa P ++ wH G (xa 1) (xa 2) (va_up pl nx (some (qa 0))) ((nx + 1) % 6) (min (num + 1) 6)) (w3 := [] ++ wZ G xa len cs f m g) (ex := wP G qa (PV0.cpy P)) rfl rfl rfl rfl rfl) ?_
    refine a_aload_n hB dX9_weigh_71 rfl ?_
    refine a_get (T := TX9) (ci := 9) hB dX9_weigh_72 0 fl_X9_12 lay_X9 rfl (by decide) rfl 0 rfl rfl ?_
    refine a_iload_n hB dX9_weigh_75 rfl ?_
    refine a_iload_n hB dX9_weigh_76 rfl ?_
    refine a_iload_n hB dX9_weigh_77 rfl ?_
    refine a_callVd (w2 := wR G xa pa (P.setW p l v) (va_up pl nx (some (qa 0))) ((nx + 1) % 6) (min (num + 1) 6) [] len cs f m g ++ wP G qa (PV0.cpy P)) (q0 := 1) hB (c_X4_setWeight (pa := pa) (P := P) (by omega) (by omega) (by omega) hw) mk_X4_setWeight ml_X9_108 dX9_weigh_78 rfl rfl [1, 2, 3, 4, 5, 6, 7] rfl (by decide) rfl rfl (fit_of hR (by decide)) (Nat.le_of_ble_eq_true rfl) (wput_seg (w1 := [oR xa pa]) (wc := wP G pa P) (w3 := wH G (xa 1) (xa 2) (va_up pl nx (some (qa 0))) ((nx + 1) % 6) (min (num + 1) 6) ++ ([] ++ (wZ G xa len cs f m g ++ wP G qa (PV0.cpy P)))) rfl rfl rfl rfl) ?_
    refine a_iload hB dX9_weigh_81 rfl ?_
    exact a_iret hB hE rfl dX9_weigh_83 (Nat.le_of_ble_eq_true rfl) (Nat.le_of_ble_eq_true rfl) (AKeep.of rfl) ⟨rfl, qa, rfl⟩
  · refine a_aload_n hB dX9_weigh_34 rfl ?_
    refine a_get (T := TX9) (ci := 9) hB dX9_weigh_35 0 fl_X9_12 lay_X9 rfl (by decide) rfl 0 rfl rfl ?_
    refine a_get (T := TX4) (ci := 4) hB dX9_weigh_38 0 fl_X9_92 lay_X4 rfl (by decide) rfl 1 rfl rfl ?_
    refine a_iload_n hB dX9_weigh_41 rfl ?_
    refine a_callVr (q0 := 2) hB (c_X7_totalOf (by omega)) mk_X7_totalOf ml_X9_102 dX9_weigh_42 rfl rfl [2, 3] rfl (by decide) rfl rfl (fit_of hR (by decide)) (Nat.le_of_ble_eq_true rfl) ?_
    refine a_iload hB dX9_weigh_45 rfl ?_
    refine a_icmp_neN_t (tgt := 60) hB dX9_weigh_47 (by decide) (by omega) (by omega) (by omega) ?_
    refine a_aload_n hB dX9_weigh_60 rfl ?_
    refine a_get (T := TX9) (ci := 9) hB dX9_weigh_61 1 fl_X9_19 lay_X9 rfl (by decide) rfl 0 rfl rfl ?_
    refine a_aload_n hB dX9_weigh_64 rfl ?_
    refine a_get (T := TX9) (ci := 9) hB dX9_weigh_65 0 fl_X9_12 lay_X9 rfl (by decide) rfl 0 rfl rfl ?_
    refine a_callV (q0 := 8) hB (c_X2_saveN (pa := pa) (P := P) hnx hnum hpl) mk_X2_save ml_X9_67 dX9_weigh_68 rfl rfl [1, 2, 3, 4, 5, 6, 7, 8, 9] rfl (by decide) rfl rfl (fit_of hR (by decide)) (Nat.le_of_ble_eq_true rfl) (fun v68 w68 hq68 hk68 => ?_)
    obtain ⟨rfl, qa, rfl⟩ := hq68
    refine aW_w (ws' := wR G xa pa P (va_up pl nx (some (qa 0))) ((nx + 1) % 6) (min (num + 1) 6) [] len cs f m g ++ wP G qa (PV0.cpy P)) (wput_segE (w1 := [oR xa pa]) (wc := wP G pa P ++ wH G (xa 1) (xa 2) pl nx num) (wd := wP G pa P ++ wH G (xa 1) (xa 2) (va_up pl nx (some (qa 0))) ((nx + 1) % 6) (min (num + 1) 6)) (w3 := [] ++ wZ G xa len cs f m g) (ex := wP G qa (PV0.cpy P)) rfl rfl rfl rfl rfl) ?_
    refine a_aload_n hB dX9_weigh_71 rfl ?_
    refine a_get (T := TX9) (ci := 9) hB dX9_weigh_72 0 fl_X9_12 lay_X9 rfl (by decide) rfl 0 rfl rfl ?_
    refine a_iload_n hB dX9_weigh_75 rfl ?_
    refine a_iload_n hB dX9_weigh_76 rfl ?_
    refine a_iload_n hB dX9_weigh_77 rfl ?_
    refine a_callVd (w2 := wR G xa pa (P.setW p l v) (va_up pl nx (some (qa 0))) ((nx + 1) % 6) (min (num + 1) 6) [] len cs f m g ++ wP G qa (PV0.cpy P)) (q0 := 1) hB (c_X4_setWeight (pa := pa) (P := P) (by omega) (by omega) (by omega) hw) mk_X4_setWeight ml_X9_108 dX9_weigh_78 rfl rfl [1, 2, 3, 4, 5, 6, 7] rfl (by decide) rfl rfl (fit_of hR (by decide)) (Nat.le_of_ble_eq_true rfl) (wput_seg (w1 := [oR xa pa]) (wc := wP G pa P) (w3 := wH G (xa 1) (xa 2) (va_up pl nx (some (qa 0))) ((nx + 1) % 6) (min (num + 1) 6) ++ ([] ++ (wZ G xa len cs f m g ++ wP G qa (PV0.cpy P)))) rfl rfl rfl rfl) ?_
    refine a_iload hB dX9_weigh_81 rfl ?_
    exact a_iret hB hE rfl dX9_weigh_83 (Nat.le_of_ble_eq_true rfl) (Nat.le_of_ble_eq_true rfl) (AKeep.of rfl) ⟨rfl, qa, rfl⟩
set_option maxHeartbeats 4000000 in
set_option maxRecDepth 100000 in
theorem c_X9_weigh_o {G : GP} {xa pa : Nat → Nat} {P : PV} {pl : Nat → Option Nat} {nx num len : Nat} {cs f m : Nat → Nat} {g : Nat → UInt64} {qa : Nat → Nat} {O : PV} (hnx : nx < 6) (hnum : num ≤ 6) (hpl : pl nx = some (qa 0)) {p l v : Nat} (hp : p < P.parts) (h6 : P.parts ≤ 6) (hl : l < 6) (hv : v ≤ 9) (hw : ∀ j, P.wt j ≤ 9) (ht : ∀ j, P.tl j ≤ 99) (hz : ¬ (v = 0 ∧ tot P.wt p = gt P.wt p l)) : AMd G sX9_weigh [.ref (xa 0), .int (nI p), .int (nI l), .int (nI v)] (wR G xa pa P pl nx num (wP G qa O) len cs f m g) (some (.int (nI (gt P.wt p l)))) (wR G xa pa (P.setW p l v) pl ((nx + 1) % 6) (min (num + 1) 6) (wP G qa (O.cpy P)) len cs f m g) := by
  refine AM.of (σ := sX9_weigh) (by decide +kernel) (by decide +kernel) (Nat.le_of_ble_eq_true rfl) (fun B hB hR hE0 hN => ?_)
  have hE := BE.of hE0
  have hg := gt_lt hw p l
  have htt := tot_le hw p
  refine a_aload_n hB dX9_weigh_0 rfl ?_
  refine a_iload_n hB dX9_weigh_1 rfl ?_
  refine a_callVr (q0 := 0) hB (c_X9_requirePart (n := P.parts) (by omega) (by omega)) mk_X9_requirePart ml_X9_79 dX9_weigh_2 rfl rfl [0, 1] rfl (by decide) rfl rfl (fit_of hR (by decide)) (Nat.le_of_ble_eq_true rfl) ?_
  refine a_iload_n hB dX9_weigh_5 rfl ?_
  refine a_callSr hB (c_X9_requireLoad (by omega)) mk_X9_requireLoad ml_X9_86 dX9_weigh_6 rfl rfl [] rfl (by decide) (fit_of hR (by decide)) (Nat.le_of_ble_eq_true rfl) ?_
  refine a_iload_n hB dX9_weigh_9 rfl ?_
  refine a_iconstN (v := 0) hB dX9_weigh_10 (by decide) ?_
  refine a_bipushN (v := 9) hB dX9_weigh_11 (by decide) ?_
  refine a_callSr hB (c_X9_requireRange (by omega) (by omega) (by omega)) mk_X9_requireRange ml_X9_89 dX9_weigh_13 rfl rfl [] rfl (by decide) (fit_of hR (by decide)) (Nat.le_of_ble_eq_true rfl) ?_
  refine a_aload_n hB dX9_weigh_16 rfl ?_
  refine a_get (T := TX9) (ci := 9) hB dX9_weigh_17 0 fl_X9_12 lay_X9 rfl (by decide) rfl 0 rfl rfl ?_
  refine a_get (T := TX4) (ci := 4) hB dX9_weigh_20 0 fl_X9_92 lay_X4 rfl (by decide) rfl 1 rfl rfl ?_
  refine a_iload_n hB dX9_weigh_23 rfl ?_
  refine a_iload_n hB dX9_weigh_24 rfl ?_
  refine a_callVr (q0 := 2) hB (c_X7_get (by omega) (by omega)) mk_X7_get ml_X9_96 dX9_weigh_25 rfl rfl [2, 3] rfl (by decide) rfl rfl (fit_of hR (by decide)) (Nat.le_of_ble_eq_true rfl) ?_
  refine a_istore hB dX9_weigh_28 (by decide) ?_
  refine a_iload_n hB dX9_weigh_30 rfl ?_
  refine a_if_neN (tgt := 60) hB dX9_weigh_31 (by decide) (by omega) (fun c31 => ?_) (fun c31 => ?_)
  · refine a_aload_n hB dX9_weigh_60 rfl ?_
    refine a_get (T := TX9) (ci := 9) hB dX9_weigh_61 1 fl_X9_19 lay_X9 rfl (by decide) rfl 0 rfl rfl ?_
    refine a_aload_n hB dX9_weigh_64 rfl ?_
    refine a_get (T := TX9) (ci := 9) hB dX9_weigh_65 0 fl_X9_12 lay_X9 rfl (by decide) rfl 0 rfl rfl ?_
    refine a_callVd (w2 := wR G xa pa P pl ((nx + 1) % 6) (min (num + 1) 6) (wP G qa (O.cpy P)) len cs f m g) (q0 := 8) hB (c_X2_saveO (pa := pa) (qa := qa) (P := P) (O := O) hnx hnum hpl) mk_X2_save ml_X9_67 dX9_weigh_68 rfl rfl [1, 2, 3, 4, 5, 6, 7, 8, 9, 10, 11, 12, 13, 14, 15, 16] rfl (by decide) rfl rfl (fit_of hR (by decide)) (Nat.le_of_ble_eq_true rfl) (wput_seg (w1 := [oR xa pa]) (wc := wP G pa P ++ (wH G (xa 1) (xa 2) pl nx num ++ wP G qa O)) (w3 := wZ G xa len cs f m g) rfl rfl rfl rfl) ?_
    refine a_aload_n hB dX9_weigh_71 rfl ?_
    refine a_get (T := TX9) (ci := 9) hB dX9_weigh_72 0 fl_X9_12 lay_X9 rfl (by decide) rfl 0 rfl rfl ?_
    refine a_iload_n hB dX9_weigh_75 rfl ?_
    refine a_iload_n hB dX9_weigh_76 rfl ?_
    refine a_iload_n hB dX9_weigh_77 rfl ?_
    refine a_callVd (w2 := wR G xa pa (P.setW p l v) pl ((nx + 1) % 6) (min (num + 1) 6) (wP G qa (O.cpy P)) len cs f m g) (q0 := 1) hB (c_X4_setWeight (pa := pa) (P := P) (by omega) (by omega) (by omega) hw) mk_X4_setWeight ml_X9_108 dX9_weigh_78 rfl rfl [1, 2, 3, 4, 5, 6, 7] rfl (by decide) rfl rfl (fit_of hR (by decide)) (Nat.le_of_ble_eq_true rfl) (wput_seg (w1 := [oR xa pa]) (wc := wP G pa P) (w3 := wH G (xa 1) (xa 2) pl ((nx + 1) % 6) (min (num + 1) 6) ++ (wP G qa (O.cpy P) ++ wZ G xa len cs f m g)) rfl rfl rfl rfl) ?_
    refine a_iload hB dX9_weigh_81 rfl ?_
    exact a_iret hB hE rfl dX9_weigh_83 (Nat.le_of_ble_eq_true rfl) (Nat.le_of_ble_eq_true rfl) (AKeep.of rfl) ⟨rfl, rfl⟩
  · refine a_aload_n hB dX9_weigh_34 rfl ?_
    refine a_get (T := TX9) (ci := 9) hB dX9_weigh_35 0 fl_X9_12 lay_X9 rfl (by decide) rfl 0 rfl rfl ?_
    refine a_get (T := TX4) (ci := 4) hB dX9_weigh_38 0 fl_X9_92 lay_X4 rfl (by decide) rfl 1 rfl rfl ?_
    refine a_iload_n hB dX9_weigh_41 rfl ?_
    refine a_callVr (q0 := 2) hB (c_X7_totalOf (by omega)) mk_X7_totalOf ml_X9_102 dX9_weigh_42 rfl rfl [2, 3] rfl (by decide) rfl rfl (fit_of hR (by decide)) (Nat.le_of_ble_eq_true rfl) ?_
    refine a_iload hB dX9_weigh_45 rfl ?_
    refine a_icmp_neN_t (tgt := 60) hB dX9_weigh_47 (by decide) (by omega) (by omega) (by omega) ?_
    refine a_aload_n hB dX9_weigh_60 rfl ?_
    refine a_get (T := TX9) (ci := 9) hB dX9_weigh_61 1 fl_X9_19 lay_X9 rfl (by decide) rfl 0 rfl rfl ?_
    refine a_aload_n hB dX9_weigh_64 rfl ?_
    refine a_get (T := TX9) (ci := 9) hB dX9_weigh_65 0 fl_X9_12 lay_X9 rfl (by decide) rfl 0 rfl rfl ?_
    refine a_callVd (w2 := wR G xa pa P pl ((nx + 1) % 6) (min (num + 1) 6) (wP G qa (O.cpy P)) len cs f m g) (q0 := 8) hB (c_X2_saveO (pa := pa) (qa := qa) (P := P) (O := O) hnx hnum hpl) mk_X2_save ml_X9_67 dX9_weigh_68 rfl rfl [1, 2, 3, 4, 5, 6, 7, 8, 9, 10, 11, 12, 13, 14, 15, 16] rfl (by decide) rfl rfl (fit_of hR (by decide)) (Nat.le_of_ble_eq_true rfl) (wput_seg (w1 := [oR xa pa]) (wc := wP G pa P ++ (wH G (xa 1) (xa 2) pl nx num ++ wP G qa O)) (w3 := wZ G xa len cs f m g) rfl rfl rfl rfl) ?_
    refine a_aload_n hB dX9_weigh_71 rfl ?_
    refine a_get (T := TX9) (ci := 9) hB dX9_weigh_72 0 fl_X9_12 lay_X9 rfl (by decide) rfl 0 rfl rfl ?_
    refine a_iload_n hB dX9_weigh_75 rfl ?_
    refine a_iload_n hB dX9_weigh_76 rfl ?_
    refine a_iload_n hB dX9_weigh_77 rfl ?_
    refine a_callVd (w2 := wR G xa pa (P.setW p l v) pl ((nx + 1) % 6) (min (num + 1) 6) (wP G qa (O.cpy P)) len cs f m g) (q0 := 1) hB (c_X4_setWeight (pa := pa) (P := P) (by omega) (by omega) (by omega) hw) mk_X4_setWeight ml_X9_108 dX9_weigh_78 rfl rfl [1, 2, 3, 4, 5, 6, 7] rfl (by decide) rfl rfl (fit_of hR (by decide)) (Nat.le_of_ble_eq_true rfl) (wput_seg (w1 := [oR xa pa]) (wc := wP G pa P) (w3 := wH G (xa 1) (xa 2) pl ((nx + 1) % 6) (min (num + 1) 6) ++ (wP G qa (O.cpy P) ++ wZ G xa len cs f m g)) rfl rfl rfl rfl) ?_
    refine a_iload hB dX9_weigh_81 rfl ?_
    exact a_iret hB hE rfl dX9_weigh_83 (Nat.le_of_ble_eq_true rfl) (Nat.le_of_ble_eq_true rfl) (AKeep.of rfl) ⟨rfl, rfl⟩
set_option maxHeartbeats 4000000 in
set_option maxRecDepth 100000 in
theorem c_X9_tilt_n {G : GP} {xa pa : Nat → Nat} {P : PV} {pl : Nat → Option Nat} {nx num len : Nat} {cs f m : Nat → Nat} {g : Nat → UInt64} (hnx : nx < 6) (hnum : num ≤ 6) (hpl : pl nx = none) {p l v : Nat} (hp : p < P.parts) (h6 : P.parts ≤ 6) (hl : l < 6) (h1 : 1 ≤ v) (hv : v ≤ 99) (hw : ∀ j, P.wt j ≤ 9) (ht : ∀ j, P.tl j ≤ 99) (hz : ¬ gt P.wt p l = 0) : AM G sX9_tilt 7 93 [.ref (xa 0), .int (nI p), .int (nI l), .int (nI v)] (wR G xa pa P pl nx num [] len cs f m g) (fun rv w => rv = (some (.int (nI (gt P.tl p l)))) ∧ ∃ qa : Nat → Nat, w = wR G xa pa (P.setT p l v) (va_up pl nx (some (qa 0))) ((nx + 1) % 6) (min (num + 1) 6) [] len cs f m g ++ wP G qa (PV0.cpy P)) := by
  refine AM.of (σ := sX9_tilt) (by decide +kernel) (by decide +kernel) (Nat.le_of_ble_eq_true rfl) (fun B hB hR hE0 hN => ?_)
  have hE := BE.of hE0
  have hg := gt_lt hw p l
  refine a_aload_n hB dX9_tilt_0 rfl ?_
  refine a_iload_n hB dX9_tilt_1 rfl ?_
  refine a_callVr (q0 := 0) hB (c_X9_requirePart (n := P.parts) (by omega) (by omega)) mk_X9_requirePart ml_X9_79 dX9_tilt_2 rfl rfl [0, 1] rfl (by decide) rfl rfl (fit_of hR (by decide)) (Nat.le_of_ble_eq_true rfl) ?_
  refine a_iload_n hB dX9_tilt_5 rfl ?_
  refine a_callSr hB (c_X9_requireLoad (by omega)) mk_X9_requireLoad ml_X9_86 dX9_tilt_6 rfl rfl [] rfl (by decide) (fit_of hR (by decide)) (Nat.le_of_ble_eq_true rfl) ?_
  refine a_iload_n hB dX9_tilt_9 rfl ?_
  refine a_iconstN (v := 1) hB dX9_tilt_10 (by decide) ?_
  refine a_bipushN (v := 99) hB dX9_tilt_11 (by decide) ?_
  refine a_callSr hB (c_X9_requireRange (by omega) (by omega) (by omega)) mk_X9_requireRange ml_X9_89 dX9_tilt_13 rfl rfl [] rfl (by decide) (fit_of hR (by decide)) (Nat.le_of_ble_eq_true rfl) ?_
  refine a_aload_n hB dX9_tilt_16 rfl ?_
  refine a_get (T := TX9) (ci := 9) hB dX9_tilt_17 0 fl_X9_12 lay_X9 rfl (by decide) rfl 0 rfl rfl ?_
  refine a_get (T := TX4) (ci := 4) hB dX9_tilt_20 0 fl_X9_92 lay_X4 rfl (by decide) rfl 1 rfl rfl ?_
  refine a_iload_n hB dX9_tilt_23 rfl ?_
  refine a_iload_n hB dX9_tilt_24 rfl ?_
  refine a_callVr (q0 := 2) hB (c_X7_get (by omega) (by omega)) mk_X7_get ml_X9_96 dX9_tilt_25 rfl rfl [2, 3] rfl (by decide) rfl rfl (fit_of hR (by decide)) (Nat.le_of_ble_eq_true rfl) ?_
  refine a_if_neN_t (tgt := 41) hB dX9_tilt_28 (by decide) (by omega) (by omega) ?_
  refine a_aload_n hB dX9_tilt_41 rfl ?_
  refine a_get (T := TX9) (ci := 9) hB dX9_tilt_42 1 fl_X9_19 lay_X9 rfl (by decide) rfl 0 rfl rfl ?_
  refine a_aload_n hB dX9_tilt_45 rfl ?_
  refine a_get (T := TX9) (ci := 9) hB dX9_tilt_46 0 fl_X9_12 lay_X9 rfl (by decide) rfl 0 rfl rfl ?_
  refine a_callV (q0 := 8) hB (c_X2_saveN (pa := pa) (P := P) hnx hnum hpl) mk_X2_save ml_X9_67 dX9_tilt_49 rfl rfl [1, 2, 3, 4, 5, 6, 7, 8, 9] rfl (by decide) rfl rfl (fit_of hR (by decide)) (Nat.le_of_ble_eq_true rfl) (fun v49 w49 hq49 hk49 => ?_)
  obtain ⟨rfl, qa, rfl⟩ := hq49
  refine aW_w (ws' := wR G xa pa P (va_up pl nx (some (qa 0))) ((nx + 1) % 6) (min (num + 1) 6) [] len cs f m g ++ wP G qa (PV0.cpy P)) (wput_segE (w1 := [oR xa pa]) (wc := wP G pa P ++ wH G (xa 1) (xa 2) pl nx num) (wd := wP G pa P ++ wH G (xa 1) (xa 2) (va_up pl nx (some (qa 0))) ((nx + 1) % 6) (min (num + 1) 6)) (w3 := [] ++ wZ G xa len cs f m g) (ex := wP G qa (PV0.cpy P)) rfl rfl rfl rfl rfl) ?_
  refine a_aload_n hB dX9_tilt_52 rfl ?_
  refine a_get (T := TX9) (ci := 9) hB dX9_tilt_53 0 fl_X9_12 lay_X9 rfl (by decide) rfl 0 rfl rfl ?_
  refine a_get (T := TX4) (ci := 4) hB dX9_tilt_56 1 fl_X9_113 lay_X4 rfl (by decide) rfl 1 rfl rfl ?_
  refine a_iload_n hB dX9_tilt_59 rfl ?_
  refine a_iload_n hB dX9_tilt_60 rfl ?_
  refine a_callVr (q0 := 4) hB (c_X7_get (by omega) (by omega)) mk_X7_get ml_X9_96 dX9_tilt_61 rfl rfl [4, 5] rfl (by decide) rfl rfl (fit_of hR (by decide)) (Nat.le_of_ble_eq_true rfl) ?_
  refine a_istore hB dX9_tilt_64 (by decide) ?_
  refine a_aload_n hB dX9_tilt_66 rfl ?_
  refine a_get (T := TX9) (ci := 9) hB dX9_tilt_67 0 fl_X9_12 lay_X9 rfl (by decide) rfl 0 rfl rfl ?_
  refine a_iload_n hB dX9_tilt_70 rfl ?_
  refine a_iload_n hB dX9_tilt_71 rfl ?_
  refine a_iload_n hB dX9_tilt_72 rfl ?_
  refine a_callVd (w2 := wR G xa pa (P.setT p l v) (va_up pl nx (some (qa 0))) ((nx + 1) % 6) (min (num + 1) 6) [] len cs f m g ++ wP G qa (PV0.cpy P)) (q0 := 1) hB (c_X4_setTilted (pa := pa) (P := P) (by omega) (by omega)) mk_X4_setTilted ml_X9_116 dX9_tilt_73 rfl rfl [1, 2, 3, 4, 5, 6, 7] rfl (by decide) rfl rfl (fit_of hR (by decide)) (Nat.le_of_ble_eq_true rfl) (wput_seg (w1 := [oR xa pa]) (wc := wP G pa P) (w3 := wH G (xa 1) (xa 2) (va_up pl nx (some (qa 0))) ((nx + 1) % 6) (min (num + 1) 6) ++ ([] ++ (wZ G xa len cs f m g ++ wP G qa (PV0.cpy P)))) rfl rfl rfl rfl) ?_
  refine a_iload hB dX9_tilt_76 rfl ?_
  exact a_iret hB hE rfl dX9_tilt_78 (Nat.le_of_ble_eq_true rfl) (Nat.le_of_ble_eq_true rfl) (AKeep.of rfl) ⟨rfl, qa, rfl⟩
set_option maxHeartbeats 4000000 in
set_option maxRecDepth 100000 in
theorem c_X9_tilt_o {G : GP} {xa pa : Nat → Nat} {P : PV} {pl : Nat → Option Nat} {nx num len : Nat} {cs f m : Nat → Nat} {g : Nat → UInt64} {qa : Nat → Nat} {O : PV} (hnx : nx < 6) (hnum : num ≤ 6) (hpl : pl nx = some (qa 0)) {p l v : Nat} (hp : p < P.parts) (h6 : P.parts ≤ 6) (hl : l < 6) (h1 : 1 ≤ v) (hv : v ≤ 99) (hw : ∀ j, P.wt j ≤ 9) (ht : ∀ j, P.tl j ≤ 99) (hz : ¬ gt P.wt p l = 0) : AMd G sX9_tilt [.ref (xa 0), .int (nI p), .int (nI l), .int (nI v)] (wR G xa pa P pl nx num (wP G qa O) len cs f m g) (some (.int (nI (gt P.tl p l)))) (wR G xa pa (P.setT p l v) pl ((nx + 1) % 6) (min (num + 1) 6) (wP G qa (O.cpy P)) len cs f m g) := by
  refine AM.of (σ := sX9_tilt) (by decide +kernel) (by decide +kernel) (Nat.le_of_ble_eq_true rfl) (fun B hB hR hE0 hN => ?_)
  have hE := BE.of hE0
  have hg := gt_lt hw p l
  refine a_aload_n hB dX9_tilt_0 rfl ?_
  refine a_iload_n hB dX9_tilt_1 rfl ?_
  refine a_callVr (q0 := 0) hB (c_X9_requirePart (n := P.parts) (by omega) (by omega)) mk_X9_requirePart ml_X9_79 dX9_tilt_2 rfl rfl [0, 1] rfl (by decide) rfl rfl (fit_of hR (by decide)) (Nat.le_of_ble_eq_true rfl) ?_
  refine a_iload_n hB dX9_tilt_5 rfl ?_
  refine a_callSr hB (c_X9_requireLoad (by omega)) mk_X9_requireLoad ml_X9_86 dX9_tilt_6 rfl rfl [] rfl (by decide) (fit_of hR (by decide)) (Nat.le_of_ble_eq_true rfl) ?_
  refine a_iload_n hB dX9_tilt_9 rfl ?_
  refine a_iconstN (v := 1) hB dX9_tilt_10 (by decide) ?_
  refine a_bipushN (v := 99) hB dX9_tilt_11 (by decide) ?_
  refine a_callSr hB (c_X9_requireRange (by omega) (by omega) (by omega)) mk_X9_requireRange ml_X9_89 dX9_tilt_13 rfl rfl [] rfl (by decide) (fit_of hR (by decide)) (Nat.le_of_ble_eq_true rfl) ?_
  refine a_aload_n hB dX9_tilt_16 rfl ?_
  refine a_get (T := TX9) (ci := 9) hB dX9_tilt_17 0 fl_X9_12 lay_X9 rfl (by decide) rfl 0 rfl rfl ?_
  refine a_get (T := TX4) (ci := 4) hB dX9_tilt_20 0 fl_X9_92 lay_X4 rfl (by decide) rfl 1 rfl rfl ?_
  refine a_iload_n hB dX9_tilt_23 rfl ?_
  refine a_iload_n hB dX9_tilt_24 rfl ?_
  refine a_callVr (q0 := 2) hB (c_X7_get (by omega) (by omega)) mk_X7_get ml_X9_96 dX9_tilt_25 rfl rfl [2, 3] rfl (by decide) rfl rfl (fit_of hR (by decide)) (Nat.le_of_ble_eq_true rfl) ?_
  refine a_if_neN_t (tgt := 41) hB dX9_tilt_28 (by decide) (by omega) (by omega) ?_
  refine a_aload_n hB dX9_tilt_41 rfl ?_
  refine a_get (T := TX9) (ci := 9) hB dX9_tilt_42 1 fl_X9_19 lay_X9 rfl (by decide) rfl 0 rfl rfl ?_
  refine a_aload_n hB dX9_tilt_45 rfl ?_
  refine a_get (T := TX9) (ci := 9) hB dX9_tilt_46 0 fl_X9_12 lay_X9 rfl (by decide) rfl 0 rfl rfl ?_
  refine a_callVd (w2 := wR G xa pa P pl ((nx + 1) % 6) (min (num + 1) 6) (wP G qa (O.cpy P)) len cs f m g) (q0 := 8) hB (c_X2_saveO (pa := pa) (qa := qa) (P := P) (O := O) hnx hnum hpl) mk_X2_save ml_X9_67 dX9_tilt_49 rfl rfl [1, 2, 3, 4, 5, 6, 7, 8, 9, 10, 11, 12, 13, 14, 15, 16] rfl (by decide) rfl rfl (fit_of hR (by decide)) (Nat.le_of_ble_eq_true rfl) (wput_seg (w1 := [oR xa pa]) (wc := wP G pa P ++ (wH G (xa 1) (xa 2) pl nx num ++ wP G qa O)) (w3 := wZ G xa len cs f m g) rfl rfl rfl rfl) ?_
  refine a_aload_n hB dX9_tilt_52 rfl ?_
  refine a_get (T := TX9) (ci := 9) hB dX9_tilt_53 0 fl_X9_12 lay_X9 rfl (by decide) rfl 0 rfl rfl ?_
  refine a_get (T := TX4) (ci := 4) hB dX9_tilt_56 1 fl_X9_113 lay_X4 rfl (by decide) rfl 1 rfl rfl ?_
  refine a_iload_n hB dX9_tilt_59 rfl ?_
  refine a_iload_n hB dX9_tilt_60 rfl ?_
  refine a_callVr (q0 := 4) hB (c_X7_get (by omega) (by omega)) mk_X7_get ml_X9_96 dX9_tilt_61 rfl rfl [4, 5] rfl (by decide) rfl rfl (fit_of hR (by decide)) (Nat.le_of_ble_eq_true rfl) ?_
  refine a_istore hB dX9_tilt_64 (by decide) ?_
  refine a_aload_n hB dX9_tilt_66 rfl ?_
  refine a_get (T := TX9) (ci := 9) hB dX9_tilt_67 0 fl_X9_12 lay_X9 rfl (by decide) rfl 0 rfl rfl ?_
  refine a_iload_n hB dX9_tilt_70 rfl ?_
  refine a_iload_n hB dX9_tilt_71 rfl ?_
  refine a_iload_n hB dX9_tilt_72 rfl ?_
  refine a_callVd (w2 := wR G xa pa (P.setT p l v) pl ((nx + 1) % 6) (min (num + 1) 6) (wP G qa (O.cpy P)) len cs f m g) (q0 := 1) hB (c_X4_setTilted (pa := pa) (P := P) (by omega) (by omega)) mk_X4_setTilted ml_X9_116 dX9_tilt_73 rfl rfl [1, 2, 3, 4, 5, 6, 7] rfl (by decide) rfl rfl (fit_of hR (by decide)) (Nat.le_of_ble_eq_true rfl) (wput_seg (w1 := [oR xa pa]) (wc := wP G pa P) (w3 := wH G (xa 1) (xa 2) pl ((nx + 1) % 6) (min (num + 1) 6) ++ (wP G qa (O.cpy P) ++ wZ G xa len cs f m g)) rfl rfl rfl rfl) ?_
  refine a_iload hB dX9_tilt_76 rfl ?_
  exact a_iret hB hE rfl dX9_tilt_78 (Nat.le_of_ble_eq_true rfl) (Nat.le_of_ble_eq_true rfl) (AKeep.of rfl) ⟨rfl, rfl⟩
set_option maxHeartbeats 4000000 in
set_option maxRecDepth 100000 in
theorem c_X9_tiltAll_n {G : GP} {xa pa : Nat → Nat} {P : PV} {pl : Nat → Option Nat} {nx num len : Nat} {cs f m : Nat → Nat} {g : Nat → UInt64} (hnx : nx < 6) (hnum : num ≤ 6) (hpl : pl nx = none) {v : Nat} (h6 : P.parts ≤ 6) (hv : v ≤ 9) (hw : ∀ j, P.wt j ≤ 9) (ht : ∀ j, P.tl j ≤ 99)  : AM G sX9_tiltAll 7 93 [.ref (xa 0), .int (nI v)] (wR G xa pa P pl nx num [] len cs f m g) (fun rv w => rv = (some (.int (nI (sumN (tot (P.tiltBy v).tl) P.parts)))) ∧ ∃ qa : Nat → Nat, w = wR G xa pa (P.tiltBy v) (va_up pl nx (some (qa 0))) ((nx + 1) % 6) (min (num + 1) 6) [] len cs f m g ++ wP G qa (PV0.cpy P)) := by
  refine AM.of (σ := sX9_tiltAll) (by decide +kernel) (by decide +kernel) (Nat.le_of_ble_eq_true rfl) (fun B hB hR hE0 hN => ?_)
  have hE := BE.of hE0
  refine a_iload_n hB dX9_tiltAll_0 rfl ?_
  refine a_iconstN (v := 0) hB dX9_tiltAll_1 (by decide) ?_
  refine a_bipushN (v := 9) hB dX9_tiltAll_2 (by decide) ?_
  refine a_callSr hB (c_X9_requireRange (by omega) (by omega) (by omega)) mk_X9_requireRange ml_X9_89 dX9_tiltAll_4 rfl rfl [] rfl (by decide) (fit_of hR (by decide)) (Nat.le_of_ble_eq_true rfl) ?_
  refine a_aload_n hB dX9_tiltAll_7 rfl ?_
  refine a_get (T := TX9) (ci := 9) hB dX9_tiltAll_8 1 fl_X9_19 lay_X9 rfl (by decide) rfl 0 rfl rfl ?_
  refine a_aload_n hB dX9_tiltAll_11 rfl ?_
  refine a_get (T := TX9) (ci := 9) hB dX9_tiltAll_12 0 fl_X9_12 lay_X9 rfl (by decide) rfl 0 rfl rfl ?_
  refine a_callV (q0 := 8) hB (c_X2_saveN (pa := pa) (P := P) hnx hnum hpl) mk_X2_save ml_X9_67 dX9_tiltAll_15 rfl rfl [1, 2, 3, 4, 5, 6, 7, 8, 9] rfl (by decide) rfl rfl (fit_of hR (by decide)) (Nat.le_of_ble_eq_true rfl) (fun v15 w15 hq15 hk15 => ?_)
  obtain ⟨rfl, qa, rfl⟩ := hq15
  refine aW_w (ws' := wR G xa pa P (va_up pl nx (some (qa 0))) ((nx + 1) % 6) (min (num + 1) 6) [] len cs f m g ++ wP G qa (PV0.cpy P)) (wput_segE (w1 := [oR xa pa]) (wc := wP G pa P ++ wH G (xa 1) (xa 2) pl nx num) (wd := wP G pa P ++ wH G (xa 1) (xa 2) (va_up pl nx (some (qa 0))) ((nx + 1) % 6) (min (num + 1) 6)) (w3 := [] ++ wZ G xa len cs f m g) (ex := wP G qa (PV0.cpy P)) rfl rfl rfl rfl rfl) ?_
  refine a_aload_n hB dX9_tiltAll_18 rfl ?_
  refine a_get (T := TX9) (ci := 9) hB dX9_tiltAll_19 0 fl_X9_12 lay_X9 rfl (by decide) rfl 0 rfl rfl ?_
  refine a_iload_n hB dX9_tiltAll_22 rfl ?_
  refine a_callVd (w2 := wR G xa pa (P.tiltBy v) (va_up pl nx (some (qa 0))) ((nx + 1) % 6) (min (num + 1) 6) [] len cs f m g ++ wP G qa (PV0.cpy P)) (q0 := 1) hB (c_X4_tiltBy (pa := pa) (P := P) (by omega) (by omega) hw) mk_X4_tiltBy ml_X9_119 dX9_tiltAll_23 rfl rfl [1, 2, 3, 4, 5, 6, 7] rfl (by decide) rfl rfl (fit_of hR (by decide)) (Nat.le_of_ble_eq_true rfl) (wput_seg (w1 := [oR xa pa]) (wc := wP G pa P) (w3 := wH G (xa 1) (xa 2) (va_up pl nx (some (qa 0))) ((nx + 1) % 6) (min (num + 1) 6) ++ ([] ++ (wZ G xa len cs f m g ++ wP G qa (PV0.cpy P)))) rfl rfl rfl rfl) ?_
  refine a_aload_n hB dX9_tiltAll_26 rfl ?_
  refine a_get (T := TX9) (ci := 9) hB dX9_tiltAll_27 0 fl_X9_12 lay_X9 rfl (by decide) rfl 0 rfl rfl ?_
  refine a_callVr (q0 := 1) hB (c_X4_sumOfTiltedTotals (pa := pa) (P := P.tiltBy v) h6) mk_X4_sumOfTiltedTotals ml_X9_122 dX9_tiltAll_30 rfl rfl [1, 2, 3, 4, 5, 6, 7] rfl (by decide) rfl rfl (fit_of hR (by decide)) (Nat.le_of_ble_eq_true rfl) ?_
  exact a_iret hB hE rfl dX9_tiltAll_33 (Nat.le_of_ble_eq_true rfl) (Nat.le_of_ble_eq_true rfl) (AKeep.of rfl) ⟨rfl, qa, rfl⟩
set_option maxHeartbeats 4000000 in
set_option maxRecDepth 100000 in
theorem c_X9_tiltAll_o {G : GP} {xa pa : Nat → Nat} {P : PV} {pl : Nat → Option Nat} {nx num len : Nat} {cs f m : Nat → Nat} {g : Nat → UInt64} {qa : Nat → Nat} {O : PV} (hnx : nx < 6) (hnum : num ≤ 6) (hpl : pl nx = some (qa 0)) {v : Nat} (h6 : P.parts ≤ 6) (hv : v ≤ 9) (hw : ∀ j, P.wt j ≤ 9) (ht : ∀ j, P.tl j ≤ 99)  : AMd G sX9_tiltAll [.ref (xa 0), .int (nI v)] (wR G xa pa P pl nx num (wP G qa O) len cs f m g) (some (.int (nI (sumN (tot (P.tiltBy v).tl) P.parts)))) (wR G xa pa (P.tiltBy v) pl ((nx + 1) % 6) (min (num + 1) 6) (wP G qa (O.cpy P)) len cs f m g) := by
  refine AM.of (σ := sX9_tiltAll) (by decide +kernel) (by decide +kernel) (Nat.le_of_ble_eq_true rfl) (fun B hB hR hE0 hN => ?_)
  have hE := BE.of hE0
  refine a_iload_n hB dX9_tiltAll_0 rfl ?_
  refine a_iconstN (v := 0) hB dX9_tiltAll_1 (by decide) ?_
  refine a_bipushN (v := 9) hB dX9_tiltAll_2 (by decide) ?_
  refine a_callSr hB (c_X9_requireRange (by omega) (by omega) (by omega)) mk_X9_requireRange ml_X9_89 dX9_tiltAll_4 rfl rfl [] rfl (by decide) (fit_of hR (by decide)) (Nat.le_of_ble_eq_true rfl) ?_
  refine a_aload_n hB dX9_tiltAll_7 rfl ?_
  refine a_get (T := TX9) (ci := 9) hB dX9_tiltAll_8 1 fl_X9_19 lay_X9 rfl (by decide) rfl 0 rfl rfl ?_
  refine a_aload_n hB dX9_tiltAll_11 rfl ?_
  refine a_get (T := TX9) (ci := 9) hB dX9_tiltAll_12 0 fl_X9_12 lay_X9 rfl (by decide) rfl 0 rfl rfl ?_
  refine a_callVd (w2 := wR G xa pa P pl ((nx + 1) % 6) (min (num + 1) 6) (wP G qa (O.cpy P)) len cs f m g) (q0 := 8) hB (c_X2_saveO (pa := pa) (qa := qa) (P := P) (O := O) hnx hnum hpl) mk_X2_save ml_X9_67 dX9_tiltAll_15 rfl rfl [1, 2, 3, 4, 5, 6, 7, 8, 9, 10, 11, 12, 13, 14, 15, 16] rfl (by decide) rfl rfl (fit_of hR (by decide)) (Nat.le_of_ble_eq_true rfl) (wput_seg (w1 := [oR xa pa]) (wc := wP G pa P ++ (wH G (xa 1) (xa 2) pl nx num ++ wP G qa O)) (w3 := wZ G xa len cs f m g) rfl rfl rfl rfl) ?_
  refine a_aload_n hB dX9_tiltAll_18 rfl ?_
  refine a_get (T := TX9) (ci := 9) hB dX9_tiltAll_19 0 fl_X9_12 lay_X9 rfl (by decide) rfl 0 rfl rfl ?_
  refine a_iload_n hB dX9_tiltAll_22 rfl ?_
  refine a_callVd (w2 := wR G xa pa (P.tiltBy v) pl ((nx + 1) % 6) (min (num + 1) 6) (wP G qa (O.cpy P)) len cs f m g) (q0 := 1) hB (c_X4_tiltBy (pa := pa) (P := P) (by omega) (by omega) hw) mk_X4_tiltBy ml_X9_119 dX9_tiltAll_23 rfl rfl [1, 2, 3, 4, 5, 6, 7] rfl (by decide) rfl rfl (fit_of hR (by decide)) (Nat.le_of_ble_eq_true rfl) (wput_seg (w1 := [oR xa pa]) (wc := wP G pa P) (w3 := wH G (xa 1) (xa 2) pl ((nx + 1) % 6) (min (num + 1) 6) ++ (wP G qa (O.cpy P) ++ wZ G xa len cs f m g)) rfl rfl rfl rfl) ?_
  refine a_aload_n hB dX9_tiltAll_26 rfl ?_
  refine a_get (T := TX9) (ci := 9) hB dX9_tiltAll_27 0 fl_X9_12 lay_X9 rfl (by decide) rfl 0 rfl rfl ?_
  refine a_callVr (q0 := 1) hB (c_X4_sumOfTiltedTotals (pa := pa) (P := P.tiltBy v) h6) mk_X4_sumOfTiltedTotals ml_X9_122 dX9_tiltAll_30 rfl rfl [1, 2, 3, 4, 5, 6, 7] rfl (by decide) rfl rfl (fit_of hR (by decide)) (Nat.le_of_ble_eq_true rfl) ?_
  exact a_iret hB hE rfl dX9_tiltAll_33 (Nat.le_of_ble_eq_true rfl) (Nat.le_of_ble_eq_true rfl) (AKeep.of rfl) ⟨rfl, rfl⟩
set_option maxHeartbeats 4000000 in
set_option maxRecDepth 100000 in
theorem c_X9_limit_n {G : GP} {xa pa : Nat → Nat} {P : PV} {pl : Nat → Option Nat} {nx num len : Nat} {cs f m : Nat → Nat} {g : Nat → UInt64} (hnx : nx < 6) (hnum : num ≤ 6) (hpl : pl nx = none) {v : Nat} (hv : v ≤ 99) : AM G sX9_limit 7 93 [.ref (xa 0), .int (nI v)] (wR G xa pa P pl nx num [] len cs f m g) (fun rv w => rv = (some (.int (nI (P.limit)))) ∧ ∃ qa : Nat → Nat, w = wR G xa pa (P.setLim v) (va_up pl nx (some (qa 0))) ((nx + 1) % 6) (min (num + 1) 6) [] len cs f m g ++ wP G qa (PV0.cpy P)) := by
  refine AM.of (σ := sX9_limit) (by decide +kernel) (by decide +kernel) (Nat.le_of_ble_eq_true rfl) (fun B hB hR hE0 hN => ?_)
  have hE := BE.of hE0
  refine a_iload_n hB dX9_limit_0 rfl ?_
  refine a_iconstN (v := 0) hB dX9_limit_1 (by decide) ?_
  refine a_bipushN (v := 99) hB dX9_limit_2 (by decide) ?_
  refine a_callSr hB (c_X9_requireRange (by omega) (by omega) (by omega)) mk_X9_requireRange ml_X9_89 dX9_limit_4 rfl rfl [] rfl (by decide) (fit_of hR (by decide)) (Nat.le_of_ble_eq_true rfl) ?_
  refine a_aload_n hB dX9_limit_7 rfl ?_
  refine a_get (T := TX9) (ci := 9) hB dX9_limit_8 1 fl_X9_19 lay_X9 rfl (by decide) rfl 0 rfl rfl ?_
  refine a_aload_n hB dX9_limit_11 rfl ?_
  refine a_get (T := TX9) (ci := 9) hB dX9_limit_12 0 fl_X9_12 lay_X9 rfl (by decide) rfl 0 rfl rfl ?_
  refine a_callV (q0 := 8) hB (c_X2_saveN (pa := pa) (P := P) hnx hnum hpl) mk_X2_save ml_X9_67 dX9_limit_15 rfl rfl [1, 2, 3, 4, 5, 6, 7, 8, 9] rfl (by decide) rfl rfl (fit_of hR (by decide)) (Nat.le_of_ble_eq_true rfl) (fun v15 w15 hq15 hk15 => ?_)
  obtain ⟨rfl, qa, rfl⟩ := hq15
  refine aW_w (ws' := wR G xa pa P (va_up pl nx (some (qa 0))) ((nx + 1) % 6) (min (num + 1) 6) [] len cs f m g ++ wP G qa (PV0.cpy P)) (wput_segE (w1 := [oR xa pa]) (wc := wP G pa P ++ wH G (xa 1) (xa 2) pl nx num) (wd := wP G pa P ++ wH G (xa 1) (xa 2) (va_up pl nx (some (qa 0))) ((nx + 1) % 6) (min (num + 1) 6)) (w3 := [] ++ wZ G xa len cs f m g) (ex := wP G qa (PV0.cpy P)) rfl rfl rfl rfl rfl) ?_
  refine a_aload_n hB dX9_limit_18 rfl ?_
  refine a_get (T := TX9) (ci := 9) hB dX9_limit_19 0 fl_X9_12 lay_X9 rfl (by decide) rfl 0 rfl rfl ?_
  refine a_get (T := TX4) (ci := 4) hB dX9_limit_22 4 fl_X9_125 lay_X4 rfl (by decide) rfl 1 rfl rfl ?_
  refine a_istore_n hB dX9_limit_25 (by decide) ?_
  refine a_aload_n hB dX9_limit_26 rfl ?_
  refine a_get (T := TX9) (ci := 9) hB dX9_limit_27 0 fl_X9_12 lay_X9 rfl (by decide) rfl 0 rfl rfl ?_
  refine a_iload_n hB dX9_limit_30 rfl ?_
  refine a_callVd (w2 := wR G xa pa (P.setLim v) (va_up pl nx (some (qa 0))) ((nx + 1) % 6) (min (num + 1) 6) [] len cs f m g ++ wP G qa (PV0.cpy P)) (q0 := 1) hB (c_X4_setLimit (pa := pa) (P := P) ) mk_X4_setLimit ml_X9_128 dX9_limit_31 rfl rfl [1, 2, 3, 4, 5, 6, 7] rfl (by decide) rfl rfl (fit_of hR (by decide)) (Nat.le_of_ble_eq_true rfl) (wput_seg (w1 := [oR xa pa]) (wc := wP G pa P) (w3 := wH G (xa 1) (xa 2) (va_up pl nx (some (qa 0))) ((nx + 1) % 6) (min (num + 1) 6) ++ ([] ++ (wZ G xa len cs f m g ++ wP G qa (PV0.cpy P)))) rfl rfl rfl rfl) ?_
  refine a_iload_n hB dX9_limit_34 rfl ?_
  exact a_iret hB hE rfl dX9_limit_35 (Nat.le_of_ble_eq_true rfl) (Nat.le_of_ble_eq_true rfl) (AKeep.of rfl) ⟨rfl, qa, rfl⟩
set_option maxHeartbeats 4000000 in
set_option maxRecDepth 100000 in
theorem c_X9_limit_o {G : GP} {xa pa : Nat → Nat} {P : PV} {pl : Nat → Option Nat} {nx num len : Nat} {cs f m : Nat → Nat} {g : Nat → UInt64} {qa : Nat → Nat} {O : PV} (hnx : nx < 6) (hnum : num ≤ 6) (hpl : pl nx = some (qa 0)) {v : Nat} (hv : v ≤ 99) : AMd G sX9_limit [.ref (xa 0), .int (nI v)] (wR G xa pa P pl nx num (wP G qa O) len cs f m g) (some (.int (nI (P.limit)))) (wR G xa pa (P.setLim v) pl ((nx + 1) % 6) (min (num + 1) 6) (wP G qa (O.cpy P)) len cs f m g) := by
  refine AM.of (σ := sX9_limit) (by decide +kernel) (by decide +kernel) (Nat.le_of_ble_eq_true rfl) (fun B hB hR hE0 hN => ?_)
  have hE := BE.of hE0
  refine a_iload_n hB dX9_limit_0 rfl ?_
  refine a_iconstN (v := 0) hB dX9_limit_1 (by decide) ?_
  refine a_bipushN (v := 99) hB dX9_limit_2 (by decide) ?_
  refine a_callSr hB (c_X9_requireRange (by omega) (by omega) (by omega)) mk_X9_requireRange ml_X9_89 dX9_limit_4 rfl rfl [] rfl (by decide) (fit_of hR (by decide)) (Nat.le_of_ble_eq_true rfl) ?_
  refine a_aload_n hB dX9_limit_7 rfl ?_
  refine a_get (T := TX9) (ci := 9) hB dX9_limit_8 1 fl_X9_19 lay_X9 rfl (by decide) rfl 0 rfl rfl ?_
  refine a_aload_n hB dX9_limit_11 rfl ?_
  refine a_get (T := TX9) (ci := 9) hB dX9_limit_12 0 fl_X9_12 lay_X9 rfl (by decide) rfl 0 rfl rfl ?_
  refine a_callVd (w2 := wR G xa pa P pl ((nx + 1) % 6) (min (num + 1) 6) (wP G qa (O.cpy P)) len cs f m g) (q0 := 8) hB (c_X2_saveO (pa := pa) (qa := qa) (P := P) (O := O) hnx hnum hpl) mk_X2_save ml_X9_67 dX9_limit_15 rfl rfl [1, 2, 3, 4, 5, 6, 7, 8, 9, 10, 11, 12, 13, 14, 15, 16] rfl (by decide) rfl rfl (fit_of hR (by decide)) (Nat.le_of_ble_eq_true rfl) (wput_seg (w1 := [oR xa pa]) (wc := wP G pa P ++ (wH G (xa 1) (xa 2) pl nx num ++ wP G qa O)) (w3 := wZ G xa len cs f m g) rfl rfl rfl rfl) ?_
  refine a_aload_n hB dX9_limit_18 rfl ?_
  refine a_get (T := TX9) (ci := 9) hB dX9_limit_19 0 fl_X9_12 lay_X9 rfl (by decide) rfl 0 rfl rfl ?_
  refine a_get (T := TX4) (ci := 4) hB dX9_limit_22 4 fl_X9_125 lay_X4 rfl (by decide) rfl 1 rfl rfl ?_
  refine a_istore_n hB dX9_limit_25 (by decide) ?_
  refine a_aload_n hB dX9_limit_26 rfl ?_
  refine a_get (T := TX9) (ci := 9) hB dX9_limit_27 0 fl_X9_12 lay_X9 rfl (by decide) rfl 0 rfl rfl ?_
  refine a_iload_n hB dX9_limit_30 rfl ?_
  refine a_callVd (w2 := wR G xa pa (P.setLim v) pl ((nx + 1) % 6) (min (num + 1) 6) (wP G qa (O.cpy P)) len cs f m g) (q0 := 1) hB (c_X4_setLimit (pa := pa) (P := P) ) mk_X4_setLimit ml_X9_128 dX9_limit_31 rfl rfl [1, 2, 3, 4, 5, 6, 7] rfl (by decide) rfl rfl (fit_of hR (by decide)) (Nat.le_of_ble_eq_true rfl) (wput_seg (w1 := [oR xa pa]) (wc := wP G pa P) (w3 := wH G (xa 1) (xa 2) pl ((nx + 1) % 6) (min (num + 1) 6) ++ (wP G qa (O.cpy P) ++ wZ G xa len cs f m g)) rfl rfl rfl rfl) ?_
  refine a_iload_n hB dX9_limit_34 rfl ?_
  exact a_iret hB hE rfl dX9_limit_35 (Nat.le_of_ble_eq_true rfl) (Nat.le_of_ble_eq_true rfl) (AKeep.of rfl) ⟨rfl, rfl⟩
set_option maxHeartbeats 4000000 in
set_option maxRecDepth 100000 in
theorem c_X9_seed_n {G : GP} {xa pa : Nat → Nat} {P : PV} {pl : Nat → Option Nat} {nx num len : Nat} {cs f m : Nat → Nat} {g : Nat → UInt64} (hnx : nx < 6) (hnum : num ≤ 6) (hpl : pl nx = none) {v : Nat} (hv : v < 2147483648) : AM G sX9_seed 7 93 [.ref (xa 0), .int (nI v)] (wR G xa pa P pl nx num [] len cs f m g) (fun rv w => rv = (some (.int (nI (P.seed)))) ∧ ∃ qa : Nat → Nat, w = wR G xa pa (P.setSeed v) (va_up pl nx (some (qa 0))) ((nx + 1) % 6) (min (num + 1) 6) [] len cs f m g ++ wP G qa (PV0.cpy P)) := by
  refine AM.of (σ := sX9_seed) (by decide +kernel) (by decide +kernel) (Nat.le_of_ble_eq_true rfl) (fun B hB hR hE0 hN => ?_)
  have hE := BE.of hE0
  refine a_iload_n hB dX9_seed_0 rfl ?_
  refine a_if_geN_t (tgt := 14) hB dX9_seed_1 (by decide) (by omega) ?_
  refine a_aload_n hB dX9_seed_14 rfl ?_
  refine a_get (T := TX9) (ci := 9) hB dX9_seed_15 1 fl_X9_19 lay_X9 rfl (by decide) rfl 0 rfl rfl ?_
  refine a_aload_n hB dX9_seed_18 rfl ?_
  refine a_get (T := TX9) (ci := 9) hB dX9_seed_19 0 fl_X9_12 lay_X9 rfl (by decide) rfl 0 rfl rfl ?_
  refine a_callV (q0 := 8) hB (c_X2_saveN (pa := pa) (P := P) hnx hnum hpl) mk_X2_save ml_X9_67 dX9_seed_22 rfl rfl [1, 2, 3, 4, 5, 6, 7, 8, 9] rfl (by decide) rfl rfl (fit_of hR (by decide)) (Nat.le_of_ble_eq_true rfl) (fun v22 w22 hq22 hk22 => ?_)
  obtain ⟨rfl, qa, rfl⟩ := hq22
  refine aW_w (ws' := wR G xa pa P (va_up pl nx (some (qa 0))) ((nx + 1) % 6) (min (num + 1) 6) [] len cs f m g ++ wP G qa (PV0.cpy P)) (wput_segE (w1 := [oR xa pa]) (wc := wP G pa P ++ wH G (xa 1) (xa 2) pl nx num) (wd := wP G pa P ++ wH G (xa 1) (xa 2) (va_up pl nx (some (qa 0))) ((nx + 1) % 6) (min (num + 1) 6)) (w3 := [] ++ wZ G xa len cs f m g) (ex := wP G qa (PV0.cpy P)) rfl rfl rfl rfl rfl) ?_
  refine a_aload_n hB dX9_seed_25 rfl ?_
  refine a_get (T := TX9) (ci := 9) hB dX9_seed_26 0 fl_X9_12 lay_X9 rfl (by decide) rfl 0 rfl rfl ?_
  refine a_get (T := TX4) (ci := 4) hB dX9_seed_29 5 fl_X9_133 lay_X4 rfl (by decide) rfl 1 rfl rfl ?_
  refine a_istore_n hB dX9_seed_32 (by decide) ?_
  refine a_aload_n hB dX9_seed_33 rfl ?_
  refine a_get (T := TX9) (ci := 9) hB dX9_seed_34 0 fl_X9_12 lay_X9 rfl (by decide) rfl 0 rfl rfl ?_
  refine a_iload_n hB dX9_seed_37 rfl ?_
  refine a_put (T := TX4) (ci := 4) hB dX9_seed_38 5 fl_X9_133 lay_X4 tyX4 tyX4_ok nmX4 rfl (by decide) rfl rfl 1 rfl rfl rfl rfl (Nat.le_of_ble_eq_true rfl) ?_
  refine a_iload_n hB dX9_seed_41 rfl ?_
  exact a_iret hB hE rfl dX9_seed_42 (Nat.le_of_ble_eq_true rfl) (Nat.le_of_ble_eq_true rfl) (AKeep.of rfl) ⟨rfl, qa, rfl⟩
set_option maxHeartbeats 4000000 in
set_option maxRecDepth 100000 in
theorem c_X9_seed_o {G : GP} {xa pa : Nat → Nat} {P : PV} {pl : Nat → Option Nat} {nx num len : Nat} {cs f m : Nat → Nat} {g : Nat → UInt64} {qa : Nat → Nat} {O : PV} (hnx : nx < 6) (hnum : num ≤ 6) (hpl : pl nx = some (qa 0)) {v : Nat} (hv : v < 2147483648) : AMd G sX9_seed [.ref (xa 0), .int (nI v)] (wR G xa pa P pl nx num (wP G qa O) len cs f m g) (some (.int (nI (P.seed)))) (wR G xa pa (P.setSeed v) pl ((nx + 1) % 6) (min (num + 1) 6) (wP G qa (O.cpy P)) len cs f m g) := by
  refine AM.of (σ := sX9_seed) (by decide +kernel) (by decide +kernel) (Nat.le_of_ble_eq_true rfl) (fun B hB hR hE0 hN => ?_)
  have hE := BE.of hE0
  refine a_iload_n hB dX9_seed_0 rfl ?_
  refine a_if_geN_t (tgt := 14) hB dX9_seed_1 (by decide) (by omega) ?_
  refine a_aload_n hB dX9_seed_14 rfl ?_
  refine a_get (T := TX9) (ci := 9) hB dX9_seed_15 1 fl_X9_19 lay_X9 rfl (by decide) rfl 0 rfl rfl ?_
  refine a_aload_n hB dX9_seed_18 rfl ?_
  refine a_get (T := TX9) (ci := 9) hB dX9_seed_19 0 fl_X9_12 lay_X9 rfl (by decide) rfl 0 rfl rfl ?_
  refine a_callVd (w2 := wR G xa pa P pl ((nx + 1) % 6) (min (num + 1) 6) (wP G qa (O.cpy P)) len cs f m g) (q0 := 8) hB (c_X2_saveO (pa := pa) (qa := qa) (P := P) (O := O) hnx hnum hpl) mk_X2_save ml_X9_67 dX9_seed_22 rfl rfl [1, 2, 3, 4, 5, 6, 7, 8, 9, 10, 11, 12, 13, 14, 15, 16] rfl (by decide) rfl rfl (fit_of hR (by decide)) (Nat.le_of_ble_eq_true rfl) (wput_seg (w1 := [oR xa pa]) (wc := wP G pa P ++ (wH G (xa 1) (xa 2) pl nx num ++ wP G qa O)) (w3 := wZ G xa len cs f m g) rfl rfl rfl rfl) ?_
  refine a_aload_n hB dX9_seed_25 rfl ?_
  refine a_get (T := TX9) (ci := 9) hB dX9_seed_26 0 fl_X9_12 lay_X9 rfl (by decide) rfl 0 rfl rfl ?_
  refine a_get (T := TX4) (ci := 4) hB dX9_seed_29 5 fl_X9_133 lay_X4 rfl (by decide) rfl 1 rfl rfl ?_
  refine a_istore_n hB dX9_seed_32 (by decide) ?_
  refine a_aload_n hB dX9_seed_33 rfl ?_
  refine a_get (T := TX9) (ci := 9) hB dX9_seed_34 0 fl_X9_12 lay_X9 rfl (by decide) rfl 0 rfl rfl ?_
  refine a_iload_n hB dX9_seed_37 rfl ?_
  refine a_put (T := TX4) (ci := 4) hB dX9_seed_38 5 fl_X9_133 lay_X4 tyX4 tyX4_ok nmX4 rfl (by decide) rfl rfl 1 rfl rfl rfl rfl (Nat.le_of_ble_eq_true rfl) ?_
  refine a_iload_n hB dX9_seed_41 rfl ?_
  exact a_iret hB hE rfl dX9_seed_42 (Nat.le_of_ble_eq_true rfl) (Nat.le_of_ble_eq_true rfl) (AKeep.of rfl) ⟨rfl, rfl⟩
set_option maxHeartbeats 4000000 in
set_option maxRecDepth 100000 in
theorem c_X9_addPart_n {G : GP} {xa pa : Nat → Nat} {P : PV} {pl : Nat → Option Nat} {nx num len : Nat} {cs f m : Nat → Nat} {g : Nat → UInt64} (hnx : nx < 6) (hnum : num ≤ 6) (hpl : pl nx = none) {v : Nat} (hv : v < 6) (h6 : P.parts < 6) : AM G sX9_addPart 7 93 [.ref (xa 0), .int (nI v)] (wR G xa pa P pl nx num [] len cs f m g) (fun rv w => rv = (some (.int (nI (P.parts)))) ∧ ∃ qa : Nat → Nat, w = wR G xa pa (P.addPart v) (va_up pl nx (some (qa 0))) ((nx + 1) % 6) (min (num + 1) 6) [] len cs f m g ++ wP G qa (PV0.cpy P)) := by
  refine AM.of (σ := sX9_addPart) (by decide +kernel) (by decide +kernel) (Nat.le_of_ble_eq_true rfl) (fun B hB hR hE0 hN => ?_)
  have hE := BE.of hE0
  refine a_iload_n hB dX9_addPart_0 rfl ?_
  refine a_if_ltN_f (tgt := 10) hB dX9_addPart_1 (by decide) (by omega) ?_
  refine a_iload_n hB dX9_addPart_4 rfl ?_
  refine a_bipushN (v := 6) hB dX9_addPart_5 (by decide) ?_
  refine a_icmp_ltN_t (tgt := 20) hB dX9_addPart_7 (by decide) (by omega) (by omega) (by omega) ?_
  refine a_aload_n hB dX9_addPart_20 rfl ?_
  refine a_get (T := TX9) (ci := 9) hB dX9_addPart_21 0 fl_X9_12 lay_X9 rfl (by decide) rfl 0 rfl rfl ?_
  refine a_get (T := TX4) (ci := 4) hB dX9_addPart_24 3 fl_X9_58 lay_X4 rfl (by decide) rfl 1 rfl rfl ?_
  refine a_bipushN (v := 6) hB dX9_addPart_27 (by decide) ?_
  refine a_icmp_ltN_t (tgt := 42) hB dX9_addPart_29 (by decide) (by omega) (by omega) (by omega) ?_
  refine a_aload_n hB dX9_addPart_42 rfl ?_
  refine a_get (T := TX9) (ci := 9) hB dX9_addPart_43 1 fl_X9_19 lay_X9 rfl (by decide) rfl 0 rfl rfl ?_
  refine a_aload_n hB dX9_addPart_46 rfl ?_
  refine a_get (T := TX9) (ci := 9) hB dX9_addPart_47 0 fl_X9_12 lay_X9 rfl (by decide) rfl 0 rfl rfl ?_
  refine a_callV (q0 := 8) hB (c_X2_saveN (pa := pa) (P := P) hnx hnum hpl) mk_X2_save ml_X9_67 dX9_addPart_50 rfl rfl [1, 2, 3, 4, 5, 6, 7, 8, 9] rfl (by decide) rfl rfl (fit_of hR (by decide)) (Nat.le_of_ble_eq_true rfl) (fun v50 w50 hq50 hk50 => ?_)
  obtain ⟨rfl, qa, rfl⟩ := hq50
  refine aW_w (ws' := wR G xa pa P (va_up pl nx (some (qa 0))) ((nx + 1) % 6) (min (num + 1) 6) [] len cs f m g ++ wP G qa (PV0.cpy P)) (wput_segE (w1 := [oR xa pa]) (wc := wP G pa P ++ wH G (xa 1) (xa 2) pl nx num) (wd := wP G pa P ++ wH G (xa 1) (xa 2) (va_up pl nx (some (qa 0))) ((nx + 1) % 6) (min (num + 1) 6)) (w3 := [] ++ wZ G xa len cs f m g) (ex := wP G qa (PV0.cpy P)) rfl rfl rfl rfl rfl) ?_
  refine a_aload_n hB dX9_addPart_53 rfl ?_
  refine a_get (T := TX9) (ci := 9) hB dX9_addPart_54 0 fl_X9_12 lay_X9 rfl (by decide) rfl 0 rfl rfl ?_
  refine a_callVd (w2 := wR G xa pa P.addE (va_up pl nx (some (qa 0))) ((nx + 1) % 6) (min (num + 1) 6) [] len cs f m g ++ wP G qa (PV0.cpy P)) (q0 := 1) hB (c_X4_addEmptyPart (pa := pa) (P := P) ) mk_X4_addEmptyPart ml_X9_71 dX9_addPart_57 rfl rfl [1, 2, 3, 4, 5, 6, 7] rfl (by decide) rfl rfl (fit_of hR (by decide)) (Nat.le_of_ble_eq_true rfl) (wput_seg (w1 := [oR xa pa]) (wc := wP G pa P) (w3 := wH G (xa 1) (xa 2) (va_up pl nx (some (qa 0))) ((nx + 1) % 6) (min (num + 1) 6) ++ ([] ++ (wZ G xa len cs f m g ++ wP G qa (PV0.cpy P)))) rfl rfl rfl rfl) ?_
  refine a_istore_n hB dX9_addPart_60 (by decide) ?_
  refine a_iconstN (v := 0) hB dX9_addPart_61 (by decide) ?_
  refine a_istore_n hB dX9_addPart_62 (by decide) ?_
  have lp63 : ∀ (j63 i : Nat), i + j63 = v + 1 → aW G sX9_addPart B 63 [(0, .ref (xa 0)), (1, .int (nI v)), (2, .int (nI P.parts)), (3, .int (nI i))] [] (wR G xa pa (adN P.addE P.parts i) (va_up pl nx (some (qa 0))) ((nx + 1) % 6) (min (num + 1) 6) [] len cs f m g ++ wP G qa (PV0.cpy P)) (0 + 7 + 0) (0 + 93 + 0) := by
    intro j63
    induction j63 with
    | zero =>
      intro i hi
      refine a_iload_n hB dX9_addPart_63 rfl ?_
      refine a_iload_n hB dX9_addPart_64 rfl ?_
      refine a_icmp_gtN_t (tgt := 84) hB dX9_addPart_65 (by decide) (by omega) (by omega) (by omega) ?_
      refine a_iload_n hB dX9_addPart_84 rfl ?_
      exact a_iret hB hE rfl dX9_addPart_85 (Nat.le_of_ble_eq_true rfl) (Nat.le_of_ble_eq_true rfl) (AKeep.of rfl) ⟨rfl, qa, by rw [show i = v + 1 by omega]; rfl⟩
    | succ j63 ih63 =>
      intro i hi
      refine a_iload_n hB dX9_addPart_63 rfl ?_
      refine a_iload_n hB dX9_addPart_64 rfl ?_
      refine a_icmp_gtN_f (tgt := 84) hB dX9_addPart_65 (by decide) (by omega) (by omega) (by omega) ?_
      refine a_aload_n hB dX9_addPart_68 rfl ?_
      refine a_get (T := TX9) (ci := 9) hB dX9_addPart_69 0 fl_X9_12 lay_X9 rfl (by decide) rfl 0 rfl rfl ?_
      refine a_iload_n hB dX9_addPart_72 rfl ?_
      refine a_iload_n hB dX9_addPart_73 rfl ?_
      refine a_iconstN (v := 1) hB dX9_addPart_74 (by decide) ?_
      refine a_callVd (w2 := wR G xa pa ((adN P.addE P.parts i).both P.parts i 1) (va_up pl nx (some (qa 0))) ((nx + 1) % 6) (min (num + 1) 6) [] len cs f m g ++ wP G qa (PV0.cpy P)) (q0 := 1) hB (c_X4_setBothWeights (pa := pa) (P := (adN P.addE P.parts i)) (by omega) (by omega)) mk_X4_setBothWeights ml_X9_75 dX9_addPart_75 rfl rfl [1, 2, 3, 4, 5, 6, 7] rfl (by decide) rfl rfl (fit_of hR (by decide)) (Nat.le_of_ble_eq_true rfl) (wput_seg (w1 := [oR xa pa]) (wc := wP G pa (adN P.addE P.parts i)) (w3 := wH G (xa 1) (xa 2) (va_up pl nx (some (qa 0))) ((nx + 1) % 6) (min (num + 1) 6) ++ ([] ++ (wZ G xa len cs f m g ++ wP G qa (PV0.cpy P)))) rfl rfl rfl rfl) ?_
      refine a_iincN (b := 1) hB dX9_addPart_78 rfl (by decide) (by decide) ?_
      refine a_goto (tgt := 63) hB dX9_addPart_81 (by decide) ?_
      exact aW_at [0, 1, 2, 3] rfl rfl rfl (ih63 (i + 1) (by omega))
  exact aW_at [0, 1, 2, 3] rfl rfl rfl (lp63 (v + 1) 0 (by omega))
set_option maxHeartbeats 4000000 in
set_option maxRecDepth 100000 in
theorem c_X9_addPart_o {G : GP} {xa pa : Nat → Nat} {P : PV} {pl : Nat → Option Nat} {nx num len : Nat} {cs f m : Nat → Nat} {g : Nat → UInt64} {qa : Nat → Nat} {O : PV} (hnx : nx < 6) (hnum : num ≤ 6) (hpl : pl nx = some (qa 0)) {v : Nat} (hv : v < 6) (h6 : P.parts < 6) : AMd G sX9_addPart [.ref (xa 0), .int (nI v)] (wR G xa pa P pl nx num (wP G qa O) len cs f m g) (some (.int (nI (P.parts)))) (wR G xa pa (P.addPart v) pl ((nx + 1) % 6) (min (num + 1) 6) (wP G qa (O.cpy P)) len cs f m g) := by
  refine AM.of (σ := sX9_addPart) (by decide +kernel) (by decide +kernel) (Nat.le_of_ble_eq_true rfl) (fun B hB hR hE0 hN => ?_)
  have hE := BE.of hE0
  refine a_iload_n hB dX9_addPart_0 rfl ?_
  refine a_if_ltN_f (tgt := 10) hB dX9_addPart_1 (by decide) (by omega) ?_
  refine a_iload_n hB dX9_addPart_4 rfl ?_
  refine a_bipushN (v := 6) hB dX9_addPart_5 (by decide) ?_
  refine a_icmp_ltN_t (tgt := 20) hB dX9_addPart_7 (by decide) (by omega) (by omega) (by omega) ?_
  refine a_aload_n hB dX9_addPart_20 rfl ?_
  refine a_get (T := TX9) (ci := 9) hB dX9_addPart_21 0 fl_X9_12 lay_X9 rfl (by decide) rfl 0 rfl rfl ?_
  refine a_get (T := TX4) (ci := 4) hB dX9_addPart_24 3 fl_X9_58 lay_X4 rfl (by decide) rfl 1 rfl rfl ?_
  refine a_bipushN (v := 6) hB dX9_addPart_27 (by decide) ?_
  refine a_icmp_ltN_t (tgt := 42) hB dX9_addPart_29 (by decide) (by omega) (by omega) (by omega) ?_
  refine a_aload_n hB dX9_addPart_42 rfl ?_
  refine a_get (T := TX9) (ci := 9) hB dX9_addPart_43 1 fl_X9_19 lay_X9 rfl (by decide) rfl 0 rfl rfl ?_
  refine a_aload_n hB dX9_addPart_46 rfl ?_
  refine a_get (T := TX9) (ci := 9) hB dX9_addPart_47 0 fl_X9_12 lay_X9 rfl (by decide) rfl 0 rfl rfl ?_
  refine a_callVd (w2 := wR G xa pa P pl ((nx + 1) % 6) (min (num + 1) 6) (wP G qa (O.cpy P)) len cs f m g) (q0 := 8) hB (c_X2_saveO (pa := pa) (qa := qa) (P := P) (O := O) hnx hnum hpl) mk_X2_save ml_X9_67 dX9_addPart_50 rfl rfl [1, 2, 3, 4, 5, 6, 7, 8, 9, 10, 11, 12, 13, 14, 15, 16] rfl (by decide) rfl rfl (fit_of hR (by decide)) (Nat.le_of_ble_eq_true rfl) (wput_seg (w1 := [oR xa pa]) (wc := wP G pa P ++ (wH G (xa 1) (xa 2) pl nx num ++ wP G qa O)) (w3 := wZ G xa len cs f m g) rfl rfl rfl rfl) ?_
  refine a_aload_n hB dX9_addPart_53 rfl ?_
  refine a_get (T := TX9) (ci := 9) hB dX9_addPart_54 0 fl_X9_12 lay_X9 rfl (by decide) rfl 0 rfl rfl ?_
  refine a_callVd (w2 := wR G xa pa P.addE pl ((nx + 1) % 6) (min (num + 1) 6) (wP G qa (O.cpy P)) len cs f m g) (q0 := 1) hB (c_X4_addEmptyPart (pa := pa) (P := P) ) mk_X4_addEmptyPart ml_X9_71 dX9_addPart_57 rfl rfl [1, 2, 3, 4, 5, 6, 7] rfl (by decide) rfl rfl (fit_of hR (by decide)) (Nat.le_of_ble_eq_true rfl) (wput_seg (w1 := [oR xa pa]) (wc := wP G pa P) (w3 := wH G (xa 1) (xa 2) pl ((nx + 1) % 6) (min (num + 1) 6) ++ (wP G qa (O.cpy P) ++ wZ G xa len cs f m g)) rfl rfl rfl rfl) ?_
  refine a_istore_n hB dX9_addPart_60 (by decide) ?_
  refine a_iconstN (v := 0) hB dX9_addPart_61 (by decide) ?_
  refine a_istore_n hB dX9_addPart_62 (by decide) ?_
  have lp63 : ∀ (j63 i : Nat), i + j63 = v + 1 → aW G sX9_addPart B 63 [(0, .ref (xa 0)), (1, .int (nI v)), (2, .int (nI P.parts)), (3, .int (nI i))] [] (wR G xa pa (adN P.addE P.parts i) pl ((nx + 1) % 6) (min (num + 1) 6) (wP G qa (O.cpy P)) len cs f m g) (0 + 0 + 0) (0 + 0 + 0) := by
    intro j63
    induction j63 with
    | zero =>
      intro i hi
      refine a_iload_n hB dX9_addPart_63 rfl ?_
      refine a_iload_n hB dX9_addPart_64 rfl ?_
      refine a_icmp_gtN_t (tgt := 84) hB dX9_addPart_65 (by decide) (by omega) (by omega) (by omega) ?_
      refine a_iload_n hB dX9_addPart_84 rfl ?_
      exact a_iret hB hE rfl dX9_addPart_85 (Nat.le_of_ble_eq_true rfl) (Nat.le_of_ble_eq_true rfl) (AKeep.of rfl) ⟨rfl, by rw [show i = v + 1 by omega]; rfl⟩
    | succ j63 ih63 =>
      intro i hi
      refine a_iload_n hB dX9_addPart_63 rfl ?_
      refine a_iload_n hB dX9_addPart_64 rfl ?_
      refine a_icmp_gtN_f (tgt := 84) hB dX9_addPart_65 (by decide) (by omega) (by omega) (by omega) ?_
      refine a_aload_n hB dX9_addPart_68 rfl ?_
      refine a_get (T := TX9) (ci := 9) hB dX9_addPart_69 0 fl_X9_12 lay_X9 rfl (by decide) rfl 0 rfl rfl ?_
      refine a_iload_n hB dX9_addPart_72 rfl ?_
      refine a_iload_n hB dX9_addPart_73 rfl ?_
      refine a_iconstN (v := 1) hB dX9_addPart_74 (by decide) ?_
      refine a_callVd (w2 := wR G xa pa ((adN P.addE P.parts i).both P.parts i 1) pl ((nx + 1) % 6) (min (num + 1) 6) (wP G qa (O.cpy P)) len cs f m g) (q0 := 1) hB (c_X4_setBothWeights (pa := pa) (P := (adN P.addE P.parts i)) (by omega) (by omega)) mk_X4_setBothWeights ml_X9_75 dX9_addPart_75 rfl rfl [1, 2, 3, 4, 5, 6, 7] rfl (by decide) rfl rfl (fit_of hR (by decide)) (Nat.le_of_ble_eq_true rfl) (wput_seg (w1 := [oR xa pa]) (wc := wP G pa (adN P.addE P.parts i)) (w3 := wH G (xa 1) (xa 2) pl ((nx + 1) % 6) (min (num + 1) 6) ++ (wP G qa (O.cpy P) ++ wZ G xa len cs f m g)) rfl rfl rfl rfl) ?_
      refine a_iincN (b := 1) hB dX9_addPart_78 rfl (by decide) (by decide) ?_
      refine a_goto (tgt := 63) hB dX9_addPart_81 (by decide) ?_
      exact aW_at [0, 1, 2, 3] rfl rfl rfl (ih63 (i + 1) (by omega))
  exact aW_at [0, 1, 2, 3] rfl rfl rfl (lp63 (v + 1) 0 (by omega))
set_option maxHeartbeats 4000000 in
set_option maxRecDepth 100000 in
theorem c_X9_draw_n {G : GP} {xa pa : Nat → Nat} {P : PV} {pl : Nat → Option Nat} {nx num len : Nat} {cs f m : Nat → Nat} {g : Nat → UInt64} (hnx : nx < 6) (hnum : num ≤ 6) (hpl : pl nx = none) {v : Nat} (h1 : 1 ≤ v) (hv : v ≤ 64) (hs : P.sv.num + v ≤ 9999) (hf : P.sv.flt ≤ (drN P v).sv.flt) (hr : ∀ i, i < v → (drN P i).rowOK) : AM G sX9_draw 7 93 [.ref (xa 0), .int (nI v)] (wR G xa pa P pl nx num [] len cs f m g) (fun rv w => rv = (some (.int (nI ((drN P v).sv.flt - P.sv.flt)))) ∧ ∃ qa : Nat → Nat, w = wR G xa pa (drN P v) (va_up pl nx (some (qa 0))) ((nx + 1) % 6) (min (num + 1) 6) [] len cs f m g ++ wP G qa (PV0.cpy P)) := by
  refine AM.of (σ := sX9_draw) (by decide +kernel) (by decide +kernel) (Nat.le_of_ble_eq_true rfl) (fun B hB hR hE0 hN => ?_)
  have hE := BE.of hE0
  refine a_iload_n hB dX9_draw_0 rfl ?_
  refine a_iconstN (v := 1) hB dX9_draw_1 (by decide) ?_
  refine a_bipushN (v := 64) hB dX9_draw_2 (by decide) ?_
  refine a_callSr hB (c_X9_requireRange (by omega) (by omega) (by omega)) mk_X9_requireRange ml_X9_89 dX9_draw_4 rfl rfl [] rfl (by decide) (fit_of hR (by decide)) (Nat.le_of_ble_eq_true rfl) ?_
  refine a_aload_n hB dX9_draw_7 rfl ?_
  refine a_get (T := TX9) (ci := 9) hB dX9_draw_8 0 fl_X9_12 lay_X9 rfl (by decide) rfl 0 rfl rfl ?_
  refine a_get (T := TX4) (ci := 4) hB dX9_draw_11 2 fl_X9_136 lay_X4 rfl (by decide) rfl 1 rfl rfl ?_
  refine a_get (T := TX5) (ci := 5) hB dX9_draw_14 1 fl_X9_140 lay_X5 rfl (by decide) rfl 6 rfl rfl ?_
  refine a_iload_n hB dX9_draw_17 rfl ?_
  refine a_iaddN hB dX9_draw_18 ?_
  refine a_sipushN (v := 9999) hB dX9_draw_19 (by decide) ?_
  refine a_icmp_leN_t (tgt := 35) hB dX9_draw_22 (by decide) (by omega) (by omega) (by omega) ?_
  refine a_aload_n hB dX9_draw_35 rfl ?_
  refine a_get (T := TX9) (ci := 9) hB dX9_draw_36 1 fl_X9_19 lay_X9 rfl (by decide) rfl 0 rfl rfl ?_
  refine a_aload_n hB dX9_draw_39 rfl ?_
  refine a_get (T := TX9) (ci := 9) hB dX9_draw_40 0 fl_X9_12 lay_X9 rfl (by decide) rfl 0 rfl rfl ?_
  refine a_callV (q0 := 8) hB (c_X2_saveN (pa := pa) (P := P) hnx hnum hpl) mk_X2_save ml_X9_67 dX9_draw_43 rfl rfl [1, 2, 3, 4, 5, 6, 7, 8, 9] rfl (by decide) rfl rfl (fit_of hR (by decide)) (Nat.le_of_ble_eq_true rfl) (fun v43 w43 hq43 hk43 => ?_)
  obtain ⟨rfl, qa, rfl⟩ := hq43
  refine aW_w (ws' := wR G xa pa P (va_up pl nx (some (qa 0))) ((nx + 1) % 6) (min (num + 1) 6) [] len cs f m g ++ wP G qa (PV0.cpy P)) (wput_segE (w1 := [oR xa pa]) (wc := wP G pa P ++ wH G (xa 1) (xa 2) pl nx num) (wd := wP G pa P ++ wH G (xa 1) (xa 2) (va_up pl nx (some (qa 0))) ((nx + 1) % 6) (min (num + 1) 6)) (w3 := [] ++ wZ G xa len cs f m g) (ex := wP G qa (PV0.cpy P)) rfl rfl rfl rfl rfl) ?_
  refine a_aload_n hB dX9_draw_46 rfl ?_
  refine a_get (T := TX9) (ci := 9) hB dX9_draw_47 0 fl_X9_12 lay_X9 rfl (by decide) rfl 0 rfl rfl ?_
  refine a_get (T := TX4) (ci := 4) hB dX9_draw_50 2 fl_X9_136 lay_X4 rfl (by decide) rfl 1 rfl rfl ?_
  refine a_get (T := TX5) (ci := 5) hB dX9_draw_53 2 fl_X9_147 lay_X5 rfl (by decide) rfl 6 rfl rfl ?_
  refine a_istore_n hB dX9_draw_56 (by decide) ?_
  refine a_iconstN (v := 0) hB dX9_draw_57 (by decide) ?_
  refine a_istore_n hB dX9_draw_58 (by decide) ?_
  have lp59 : ∀ (j59 i : Nat), i + j59 = v → aW G sX9_draw B 59 [(0, .ref (xa 0)), (1, .int (nI v)), (2, .int (nI P.sv.flt)), (3, .int (nI i))] [] (wR G xa pa (drN P i) (va_up pl nx (some (qa 0))) ((nx + 1) % 6) (min (num + 1) 6) [] len cs f m g ++ wP G qa (PV0.cpy P)) (0 + 7) (0 + 93) := by
    intro j59
    induction j59 with
    | zero =>
      intro i hi
      obtain rfl : i = v := by omega
      refine a_iload_n hB dX9_draw_59 rfl ?_
      refine a_iload_n hB dX9_draw_60 rfl ?_
      refine a_icmp_geN_t (tgt := 77) hB dX9_draw_61 (by decide) (by omega) (by omega) (by omega) ?_
      refine a_aload_n hB dX9_draw_77 rfl ?_
      refine a_get (T := TX9) (ci := 9) hB dX9_draw_78 0 fl_X9_12 lay_X9 rfl (by decide) rfl 0 rfl rfl ?_
      refine a_get (T := TX4) (ci := 4) hB dX9_draw_81 2 fl_X9_136 lay_X4 rfl (by decide) rfl 1 rfl rfl ?_
      refine a_get (T := TX5) (ci := 5) hB dX9_draw_84 2 fl_X9_147 lay_X5 rfl (by decide) rfl 6 rfl rfl ?_
      refine a_iload_n hB dX9_draw_87 rfl ?_
      refine a_isubN hB dX9_draw_88 hf ?_
      exact a_iret hB hE rfl dX9_draw_89 (Nat.le_of_ble_eq_true rfl) (Nat.le_of_ble_eq_true rfl) (AKeep.of rfl) ⟨rfl, qa, rfl⟩
    | succ j59 ih59 =>
      intro i hi
      have hri := hr i (by omega)
      refine a_iload_n hB dX9_draw_59 rfl ?_
      refine a_iload_n hB dX9_draw_60 rfl ?_
      refine a_icmp_geN_f (tgt := 77) hB dX9_draw_61 (by decide) (by omega) (by omega) (by omega) ?_
      refine a_aload_n hB dX9_draw_64 rfl ?_
      refine a_get (T := TX9) (ci := 9) hB dX9_draw_65 0 fl_X9_12 lay_X9 rfl (by decide) rfl 0 rfl rfl ?_
      refine a_callVd (w2 := wR G xa pa (drN P (i + 1)) (va_up pl nx (some (qa 0))) ((nx + 1) % 6) (min (num + 1) 6) [] len cs f m g ++ wP G qa (PV0.cpy P)) (q0 := 1) hB (c_X4_drawRow (pa := pa) (P := (drN P i)) hri.1 hri.2.1 hri.2.2.1 hri.2.2.2.1 hri.2.2.2.2.1 hri.2.2.2.2.2.1 hri.2.2.2.2.2.2.1 hri.2.2.2.2.2.2.2) mk_X4_drawRow ml_X9_150 dX9_draw_68 rfl rfl [1, 2, 3, 4, 5, 6, 7] rfl (by decide) rfl rfl (fit_of hR (by decide)) (Nat.le_of_ble_eq_true rfl) (wput_seg (w1 := [oR xa pa]) (wc := wP G pa (drN P i)) (w3 := wH G (xa 1) (xa 2) (va_up pl nx (some (qa 0))) ((nx + 1) % 6) (min (num + 1) 6) ++ ([] ++ (wZ G xa len cs f m g ++ wP G qa (PV0.cpy P)))) rfl rfl rfl rfl) ?_
      refine a_iincN (b := 1) hB dX9_draw_71 rfl (by decide) (by decide) ?_
      refine a_goto (tgt := 59) hB dX9_draw_74 (by decide) ?_
      exact aW_at [0, 1, 2, 3] rfl rfl rfl (ih59 (i + 1) (by omega))
  exact aW_at [0, 1, 2, 3] rfl rfl rfl (lp59 (v) 0 (by omega))
set_option maxHeartbeats 4000000 in
set_option maxRecDepth 100000 in
theorem c_X9_draw_o {G : GP} {xa pa : Nat → Nat} {P : PV} {pl : Nat → Option Nat} {nx num len : Nat} {cs f m : Nat → Nat} {g : Nat → UInt64} {qa : Nat → Nat} {O : PV} (hnx : nx < 6) (hnum : num ≤ 6) (hpl : pl nx = some (qa 0)) {v : Nat} (h1 : 1 ≤ v) (hv : v ≤ 64) (hs : P.sv.num + v ≤ 9999) (hf : P.sv.flt ≤ (drN P v).sv.flt) (hr : ∀ i, i < v → (drN P i).rowOK) : AMd G sX9_draw [.ref (xa 0), .int (nI v)] (wR G xa pa P pl nx num (wP G qa O) len cs f m g) (some (.int (nI ((drN P v).sv.flt - P.sv.flt)))) (wR G xa pa (drN P v) pl ((nx + 1) % 6) (min (num + 1) 6) (wP G qa (O.cpy P)) len cs f m g) := by
  refine AM.of (σ := sX9_draw) (by decide +kernel) (by decide +kernel) (Nat.le_of_ble_eq_true rfl) (fun B hB hR hE0 hN => ?_)
  have hE := BE.of hE0
  refine a_iload_n hB dX9_draw_0 rfl ?_
  refine a_iconstN (v := 1) hB dX9_draw_1 (by decide) ?_
  refine a_bipushN (v := 64) hB dX9_draw_2 (by decide) ?_
  refine a_callSr hB (c_X9_requireRange (by omega) (by omega) (by omega)) mk_X9_requireRange ml_X9_89 dX9_draw_4 rfl rfl [] rfl (by decide) (fit_of hR (by decide)) (Nat.le_of_ble_eq_true rfl) ?_
  refine a_aload_n hB dX9_draw_7 rfl ?_
  refine a_get (T := TX9) (ci := 9) hB dX9_draw_8 0 fl_X9_12 lay_X9 rfl (by decide) rfl 0 rfl rfl ?_
  refine a_get (T := TX4) (ci := 4) hB dX9_draw_11 2 fl_X9_136 lay_X4 rfl (by decide) rfl 1 rfl rfl ?_
  refine a_get (T := TX5) (ci := 5) hB dX9_draw_14 1 fl_X9_140 lay_X5 rfl (by decide) rfl 6 rfl rfl ?_
  refine a_iload_n hB dX9_draw_17 rfl ?_
  refine a_iaddN hB dX9_draw_18 ?_
  refine a_sipushN (v := 9999) hB dX9_draw_19 (by decide) ?_
  refine a_icmp_leN_t (tgt := 35) hB dX9_draw_22 (by decide) (by omega) (by omega) (by omega) ?_
  refine a_aload_n hB dX9_draw_35 rfl ?_
  refine a_get (T := TX9) (ci := 9) hB dX9_draw_36 1 fl_X9_19 lay_X9 rfl (by decide) rfl 0 rfl rfl ?_
  refine a_aload_n hB dX9_draw_39 rfl ?_
  refine a_get (T := TX9) (ci := 9) hB dX9_draw_40 0 fl_X9_12 lay_X9 rfl (by decide) rfl 0 rfl rfl ?_
  refine a_callVd (w2 := wR G xa pa P pl ((nx + 1) % 6) (min (num + 1) 6) (wP G qa (O.cpy P)) len cs f m g) (q0 := 8) hB (c_X2_saveO (pa := pa) (qa := qa) (P := P) (O := O) hnx hnum hpl) mk_X2_save ml_X9_67 dX9_draw_43 rfl rfl [1, 2, 3, 4, 5, 6, 7, 8, 9, 10, 11, 12, 13, 14, 15, 16] rfl (by decide) rfl rfl (fit_of hR (by decide)) (Nat.le_of_ble_eq_true rfl) (wput_seg (w1 := [oR xa pa]) (wc := wP G pa P ++ (wH G (xa 1) (xa 2) pl nx num ++ wP G qa O)) (w3 := wZ G xa len cs f m g) rfl rfl rfl rfl) ?_
  refine a_aload_n hB dX9_draw_46 rfl ?_
  refine a_get (T := TX9) (ci := 9) hB dX9_draw_47 0 fl_X9_12 lay_X9 rfl (by decide) rfl 0 rfl rfl ?_
  refine a_get (T := TX4) (ci := 4) hB dX9_draw_50 2 fl_X9_136 lay_X4 rfl (by decide) rfl 1 rfl rfl ?_
  refine a_get (T := TX5) (ci := 5) hB dX9_draw_53 2 fl_X9_147 lay_X5 rfl (by decide) rfl 6 rfl rfl ?_
  refine a_istore_n hB dX9_draw_56 (by decide) ?_
  refine a_iconstN (v := 0) hB dX9_draw_57 (by decide) ?_
  refine a_istore_n hB dX9_draw_58 (by decide) ?_
  have lp59 : ∀ (j59 i : Nat), i + j59 = v → aW G sX9_draw B 59 [(0, .ref (xa 0)), (1, .int (nI v)), (2, .int (nI P.sv.flt)), (3, .int (nI i))] [] (wR G xa pa (drN P i) pl ((nx + 1) % 6) (min (num + 1) 6) (wP G qa (O.cpy P)) len cs f m g) (0 + 0) (0 + 0) := by
    intro j59
    induction j59 with
    | zero =>
      intro i hi
      obtain rfl : i = v := by omega
      refine a_iload_n hB dX9_draw_59 rfl ?_
      refine a_iload_n hB dX9_draw_60 rfl ?_
      refine a_icmp_geN_t (tgt := 77) hB dX9_draw_61 (by decide) (by omega) (by omega) (by omega) ?_
      refine a_aload_n hB dX9_draw_77 rfl ?_
      refine a_get (T := TX9) (ci := 9) hB dX9_draw_78 0 fl_X9_12 lay_X9 rfl (by decide) rfl 0 rfl rfl ?_
      refine a_get (T := TX4) (ci := 4) hB dX9_draw_81 2 fl_X9_136 lay_X4 rfl (by decide) rfl 1 rfl rfl ?_
      refine a_get (T := TX5) (ci := 5) hB dX9_draw_84 2 fl_X9_147 lay_X5 rfl (by decide) rfl 6 rfl rfl ?_
      refine a_iload_n hB dX9_draw_87 rfl ?_
      refine a_isubN hB dX9_draw_88 hf ?_
      exact a_iret hB hE rfl dX9_draw_89 (Nat.le_of_ble_eq_true rfl) (Nat.le_of_ble_eq_true rfl) (AKeep.of rfl) ⟨rfl, rfl⟩
    | succ j59 ih59 =>
      intro i hi
      have hri := hr i (by omega)
      refine a_iload_n hB dX9_draw_59 rfl ?_
      refine a_iload_n hB dX9_draw_60 rfl ?_
      refine a_icmp_geN_f (tgt := 77) hB dX9_draw_61 (by decide) (by omega) (by omega) (by omega) ?_
      refine a_aload_n hB dX9_draw_64 rfl ?_
      refine a_get (T := TX9) (ci := 9) hB dX9_draw_65 0 fl_X9_12 lay_X9 rfl (by decide) rfl 0 rfl rfl ?_
      refine a_callVd (w2 := wR G xa pa (drN P (i + 1)) pl ((nx + 1) % 6) (min (num + 1) 6) (wP G qa (O.cpy P)) len cs f m g) (q0 := 1) hB (c_X4_drawRow (pa := pa) (P := (drN P i)) hri.1 hri.2.1 hri.2.2.1 hri.2.2.2.1 hri.2.2.2.2.1 hri.2.2.2.2.2.1 hri.2.2.2.2.2.2.1 hri.2.2.2.2.2.2.2) mk_X4_drawRow ml_X9_150 dX9_draw_68 rfl rfl [1, 2, 3, 4, 5, 6, 7] rfl (by decide) rfl rfl (fit_of hR (by decide)) (Nat.le_of_ble_eq_true rfl) (wput_seg (w1 := [oR xa pa]) (wc := wP G pa (drN P i)) (w3 := wH G (xa 1) (xa 2) pl ((nx + 1) % 6) (min (num + 1) 6) ++ (wP G qa (O.cpy P) ++ wZ G xa len cs f m g)) rfl rfl rfl rfl) ?_
      refine a_iincN (b := 1) hB dX9_draw_71 rfl (by decide) (by decide) ?_
      refine a_goto (tgt := 59) hB dX9_draw_74 (by decide) ?_
      exact aW_at [0, 1, 2, 3] rfl rfl rfl (ih59 (i + 1) (by omega))
  exact aW_at [0, 1, 2, 3] rfl rfl rfl (lp59 (v) 0 (by omega))

