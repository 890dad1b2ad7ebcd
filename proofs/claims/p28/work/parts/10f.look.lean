def zN : Nat → Nat := fun _ => 0
def zD : Nat → UInt64 := fun _ => FP.dconst0
theorem sumN_eq {f g : Nat → Nat} : ∀ n, (∀ j, j < n → f j = g j) → sumN f n = sumN g n
  | 0, _ => rfl
  | n + 1, h => by
    show sumN f n + f n = sumN g n + g n
    rw [sumN_eq n (fun j hj => h j (Nat.lt_succ_of_lt hj)), h n (Nat.lt_succ_self n)]
theorem cnF_lt {wt : Nat → Nat} {wo : Int32} {f g : Nat → Nat} : ∀ n j, j < 31 → cnF wt wo f n j = cnF wt wo g n j
  | 0, j, h => (if_pos h).trans (if_pos h).symm
  | n + 1, j, h => by
    by_cases q : nI n = wo
    · rw [cnF_y q, cnF_y q]; exact cnF_lt n j h
    · rw [cnF_n q, cnF_n q]
      show apI wt n _ 0 j = apI wt n _ 0 j
      unfold apI
      rw [if_neg (by omega), if_neg (by omega)]
      unfold apS
      refine sumN_eq 6 (fun l _ => ?_)
      unfold wv
      split
      · rw [cnF_lt n (j - l) (by omega)]
      · rfl
/-- the counts, with all parts but wo -/
def cnt (P : PV) (wo : Int32) : Nat → Nat := cnF P.wt wo zN P.parts
theorem wfrom_cnt (P : PV) (wo : Int32) (f : Nat → Nat) (s : Nat) : wfrom (cnF P.wt wo f P.parts) s = wfrom (cnt P wo) s := sumN_eq _ (fun j hj => cnF_lt _ _ (by omega))
theorem odds_cnt (P : PV) (wo : Int32) (f : Nat → Nat) (s : Nat) : odds (cnF P.wt wo f P.parts) s = odds (cnt P wo) s := by
  unfold odds
  rw [wfrom_cnt, wfrom_cnt]
def oddOK (c : Nat → Nat) (s : Nat) : Prop := wfrom c 0 < 2 ^ 63 ∧ (¬ wfrom c 0 = 0 → vf_n64 (FP.ddiv (FP.l2d (lN (wfrom c s))) (FP.l2d (lN (wfrom c 0)))))
theorem oddOK_cnt {P : PV} {wo : Int32} {f : Nat → Nat} {s : Nat} (h : oddOK (cnt P wo) s) : oddOK (cnF P.wt wo f P.parts) s := by
  unfold oddOK at *
  rw [wfrom_cnt, wfrom_cnt]
  exact h
def vW (P : PV) (s b : Nat) : Nat := if b = 0 then (if s < 31 then cnt P (-1) s else 0) else wfrom (cnt P (-1)) s
theorem gm_z {P : PV} {m : Nat → Nat} {q n : Nat} (hq : q ≤ P.parts) : gm (lkF P m) q n = gm (lkF P zN) q n := by
  unfold lkF
  rw [gm_lk hq (Nat.zero_le _), gm_lk hq (Nat.zero_le _)]
theorem flo_z {P : PV} {m : Nat → Nat} {p n : Nat} (hp : p < P.parts) : flo P.wt (lkF P m) p n = flo P.wt (lkF P zN) p n := by
  unfold flo
  rw [gm_z (by omega)]
  have : wwi P.wt (lkF P m) p n = wwi P.wt (lkF P zN) p n := funext fun l => by unfold wwi; rw [gm_z (by omega)]
  rw [this]
theorem nee_z {P : PV} {m : Nat → Nat} {lim : Nat} : ∀ p, p ≤ P.parts → nee P.wt (lkF P m) lim p = nee P.wt (lkF P zN) lim p
  | 0, _ => rfl
  | p + 1, h => by
    show nee P.wt _ lim p - flo P.wt _ p (nee P.wt _ lim p) = _
    rw [nee_z p (by omega), flo_z (by omega)]
    rfl
def vL (P : PV) (p : Nat) : Int32 := lik P.wt (lkF P zN) P.limit p
theorem lik_z {P : PV} {m : Nat → Nat} {p : Nat} (hp : p < P.parts) : lik P.wt (lkF P m) P.limit p = vL P p := by
  unfold vL lik
  rw [gm_z (Nat.zero_le _), nee_z p (by omega), flo_z hp]
def cfz (P : PV) (n : Nat) : Nat → UInt64 := cfF P zD n
/-- no correction of a row is NaN -/
def PV.cfOK (P : PV) : Prop := ∀ p s l, p < P.parts → s < 31 → l < 6 → P.corOK (rd (cfz P p) s l) p l
def vC (P : PV) (num : Nat) : Nat → Nat
  | 0 => P.parts
  | 1 => P.limit
  | 2 => P.seed
  | 3 => P.sv.num
  | 4 => P.sv.flt
  | 5 => sumN (fun p => lo6 (gt P.wt p)) P.parts
  | 6 => sumN (fun p => hi6 (gt P.wt p)) P.parts
  | 7 => gm (lkF P zN) 0 P.limit
  | _ => num
def vO (P : PV) (wo : Int32) (s : Nat) : UInt64 := odds (cnt P wo) s
def vM (P : PV) : Nat → UInt64
  | 0 => vO P (-1) P.limit
  | 1 => P.sv.share P.sv.fs
  | 2 => P.sv.share (FP.i2d (nI P.sv.flt))
  | 3 => P.sv.share P.sv.sm
  | 4 => P.sv.eff
  | 5 => P.sv.lc
  | _ => FP.dsub (P.sv.share P.sv.fs) (vO P (-1) P.limit)
def SV.shOK (S : SV) (x : UInt64) : Prop := ¬ S.num = 0 → vf_n64 (FP.ddiv x (FP.i2d (nI S.num)))
def SV.efOK (S : SV) : Prop := (¬ Op.cmpValue (FP.dcmp S.sq FP.dconst0) .l ≤ 0 → vf_n64 (FP.dmul S.sm S.sm)) ∧ (¬ Op.cmpValue (FP.dcmp S.sq FP.dconst0) .l ≤ 0 → vf_n64 (FP.ddiv (FP.dmul S.sm S.sm) S.sq))
def PV.mOK (P : PV) : Prop := oddOK (cnt P (-1)) P.limit ∧ P.sv.shOK P.sv.fs ∧ P.sv.shOK (FP.i2d (nI P.sv.flt)) ∧ P.sv.shOK P.sv.sm ∧ P.sv.efOK ∧ vf_n64 (FP.dsub (P.sv.share P.sv.fs) (vO P (-1) P.limit))
def vP (P : PV) (p : Nat) : Nat → Int32
  | 0 => nI (tot P.wt p)
  | 1 => nI (tot P.tl p)
  | 2 => nI (lo6 (gt P.wt p))
  | 3 => nI (hi6 (gt P.wt p))
  | 4 => nI (mom P.wt p)
  | 5 => nI (mom P.tl p)
  | _ => P.sv.latest p
set_option maxHeartbeats 4000000 in
set_option maxRecDepth 100000 in
theorem c_X9_oddsFor {G : GP} {xa pa : Nat → Nat} {P : PV} {pl : Nat → Option Nat} {nx num len : Nat} {cs f m : Nat → Nat} {g : Nat → UInt64} {s : Nat} {wo : Int32} (h6 : P.parts ≤ 6) (hw : ∀ j, P.wt j ≤ 9) (hs : s < 2 ^ 30) (ho : oddOK (cnt P wo) s) : AM G sX9_oddsFor 0 0 [.ref (xa 0), .int (nI s), .int wo] (wR G xa pa P pl nx num [] len cs f m g) (fun rv w => rv = some (.double (vO P wo s)) ∧ ∃ (f m : Nat → Nat) (g : Nat → UInt64), w = wR G xa pa P pl nx num [] len cs f m g) := by
  refine AM.of (σ := sX9_oddsFor) (by decide +kernel) (by decide +kernel) (Nat.le_of_ble_eq_true rfl) (fun B hB hR hE0 hN => ?_)
  have hE := BE.of hE0
  refine a_aload_n hB dX9_oddsFor_0 rfl ?_
  refine a_get (T := TX9) (ci := 9) hB dX9_oddsFor_1 3 fl_X9_33 lay_X9 rfl (by decide) rfl 0 rfl rfl ?_
  refine a_aload_n hB dX9_oddsFor_4 rfl ?_
  refine a_get (T := TX9) (ci := 9) hB dX9_oddsFor_5 0 fl_X9_12 lay_X9 rfl (by decide) rfl 0 rfl rfl ?_
  refine a_iload_n hB dX9_oddsFor_8 rfl ?_
  refine a_callVd (w2 := wR G xa pa P pl nx num [] len cs (cnF P.wt wo f P.parts) m g) (q0 := 12) hB (c_X1_fill (pa := pa) (P := P) (wo := wo) (f := f) h6 hw) mk_X1_fill ml_X9_202 dX9_oddsFor_9 rfl rfl [12, 13, 1, 2, 3] rfl (by decide) rfl rfl (fit_of hR (by decide)) (Nat.le_of_ble_eq_true rfl) rfl ?_
  refine a_aload_n hB dX9_oddsFor_12 rfl ?_
  refine a_get (T := TX9) (ci := 9) hB dX9_oddsFor_13 3 fl_X9_33 lay_X9 rfl (by decide) rfl 0 rfl rfl ?_
  refine a_iload_n hB dX9_oddsFor_16 rfl ?_
  refine a_callVr (q0 := 12) hB (c_X1_oddsFrom (f := cnF P.wt wo f P.parts) (by omega) (oddOK_cnt ho).1 (oddOK_cnt ho).2) mk_X1_oddsFrom ml_X9_315 dX9_oddsFor_17 rfl rfl [12, 13] rfl (by decide) rfl rfl (fit_of hR (by decide)) (Nat.le_of_ble_eq_true rfl) ?_
  exact a_dret hB hE rfl dX9_oddsFor_20 (Nat.le_of_ble_eq_true rfl) (Nat.le_of_ble_eq_true rfl) (AKeep.of rfl) ⟨by rw [odds_cnt]; rfl, _, _, _, rfl⟩
set_option maxHeartbeats 4000000 in
set_option maxRecDepth 100000 in
theorem c_X9_ways_1 {G : GP} {xa pa : Nat → Nat} {P : PV} {pl : Nat → Option Nat} {nx num len : Nat} {cs f m : Nat → Nat} {g : Nat → UInt64} {s : Nat} (h6 : P.parts ≤ 6) (hw : ∀ j, P.wt j ≤ 9) (hs : s ≤ 99) : AM G sX9_ways 0 0 [.ref (xa 0), .int (nI s), .int (nI 1)] (wR G xa pa P pl nx num [] len cs f m g) (fun rv w => rv = some (.long (lN (vW P s 1))) ∧ ∃ (f m : Nat → Nat) (g : Nat → UInt64), w = wR G xa pa P pl nx num [] len cs f m g) := by
  refine AM.of (σ := sX9_ways) (by decide +kernel) (by decide +kernel) (Nat.le_of_ble_eq_true rfl) (fun B hB hR hE0 hN => ?_)
  have hE := BE.of hE0
  refine a_iload_n hB dX9_ways_0 rfl ?_
  refine a_iconstN (v := 0) hB dX9_ways_1 (by decide) ?_
  refine a_bipushN (v := 99) hB dX9_ways_2 (by decide) ?_
  refine a_callSr hB (c_X9_requireRange (by omega) (by omega) (by omega)) mk_X9_requireRange ml_X9_89 dX9_ways_4 rfl rfl [] rfl (by decide) (fit_of hR (by decide)) (Nat.le_of_ble_eq_true rfl) ?_
  refine a_aload_n hB dX9_ways_7 rfl ?_
  refine a_get (T := TX9) (ci := 9) hB dX9_ways_8 3 fl_X9_33 lay_X9 rfl (by decide) rfl 0 rfl rfl ?_
  refine a_aload_n hB dX9_ways_11 rfl ?_
  refine a_get (T := TX9) (ci := 9) hB dX9_ways_12 0 fl_X9_12 lay_X9 rfl (by decide) rfl 0 rfl rfl ?_
  refine a_iconst (v := -1) hB dX9_ways_15 (by decide) ?_
  refine a_callVd (w2 := wR G xa pa P pl nx num [] len cs (cnF P.wt (-1) f P.parts) m g) (q0 := 12) hB (c_X1_fill (pa := pa) (P := P) (wo := (-1)) (f := f) h6 hw) mk_X1_fill ml_X9_202 dX9_ways_16 rfl rfl [12, 13, 1, 2, 3] rfl (by decide) rfl rfl (fit_of hR (by decide)) (Nat.le_of_ble_eq_true rfl) rfl ?_
  refine a_iload_n hB dX9_ways_19 rfl ?_
  refine a_if_eqN_f (tgt := 34) hB dX9_ways_20 (by decide) (by omega) (by omega) ?_
  refine a_aload_n hB dX9_ways_23 rfl ?_
  refine a_get (T := TX9) (ci := 9) hB dX9_ways_24 3 fl_X9_33 lay_X9 rfl (by decide) rfl 0 rfl rfl ?_
  refine a_iload_n hB dX9_ways_27 rfl ?_
  refine a_callVr (q0 := 12) hB (c_X1_waysFrom (by omega)) mk_X1_waysFrom ml_X9_206 dX9_ways_28 rfl rfl [12, 13] rfl (by decide) rfl rfl (fit_of hR (by decide)) (Nat.le_of_ble_eq_true rfl) ?_
  refine a_goto (tgt := 42) hB dX9_ways_31 (by decide) ?_
  exact a_lret hB hE rfl dX9_ways_42 (Nat.le_of_ble_eq_true rfl) (Nat.le_of_ble_eq_true rfl) (AKeep.of rfl) ⟨by rw [wfrom_cnt]; rfl, _, _, _, rfl⟩
set_option maxHeartbeats 4000000 in
set_option maxRecDepth 100000 in
theorem c_X9_ways_0 {G : GP} {xa pa : Nat → Nat} {P : PV} {pl : Nat → Option Nat} {nx num len : Nat} {cs f m : Nat → Nat} {g : Nat → UInt64} {s : Nat} (h6 : P.parts ≤ 6) (hw : ∀ j, P.wt j ≤ 9) (hs : s < 31) : AM G sX9_ways 0 0 [.ref (xa 0), .int (nI s), .int (nI 0)] (wR G xa pa P pl nx num [] len cs f m g) (fun rv w => rv = some (.long (lN (vW P s 0))) ∧ ∃ (f m : Nat → Nat) (g : Nat → UInt64), w = wR G xa pa P pl nx num [] len cs f m g) := by
  refine AM.of (σ := sX9_ways) (by decide +kernel) (by decide +kernel) (Nat.le_of_ble_eq_true rfl) (fun B hB hR hE0 hN => ?_)
  have hE := BE.of hE0
  refine a_iload_n hB dX9_ways_0 rfl ?_
  refine a_iconstN (v := 0) hB dX9_ways_1 (by decide) ?_
  refine a_bipushN (v := 99) hB dX9_ways_2 (by decide) ?_
  refine a_callSr hB (c_X9_requireRange (by omega) (by omega) (by omega)) mk_X9_requireRange ml_X9_89 dX9_ways_4 rfl rfl [] rfl (by decide) (fit_of hR (by decide)) (Nat.le_of_ble_eq_true rfl) ?_
  refine a_aload_n hB dX9_ways_7 rfl ?_
  refine a_get (T := TX9) (ci := 9) hB dX9_ways_8 3 fl_X9_33 lay_X9 rfl (by decide) rfl 0 rfl rfl ?_
  refine a_aload_n hB dX9_ways_11 rfl ?_
  refine a_get (T := TX9) (ci := 9) hB dX9_ways_12 0 fl_X9_12 lay_X9 rfl (by decide) rfl 0 rfl rfl ?_
  refine a_iconst (v := -1) hB dX9_ways_15 (by decide) ?_
  refine a_callVd (w2 := wR G xa pa P pl nx num [] len cs (cnF P.wt (-1) f P.parts) m g) (q0 := 12) hB (c_X1_fill (pa := pa) (P := P) (wo := (-1)) (f := f) h6 hw) mk_X1_fill ml_X9_202 dX9_ways_16 rfl rfl [12, 13, 1, 2, 3] rfl (by decide) rfl rfl (fit_of hR (by decide)) (Nat.le_of_ble_eq_true rfl) rfl ?_
  refine a_iload_n hB dX9_ways_19 rfl ?_
  refine a_if_eqN_t (tgt := 34) hB dX9_ways_20 (by decide) (by omega) (by omega) ?_
  refine a_aload_n hB dX9_ways_34 rfl ?_
  refine a_get (T := TX9) (ci := 9) hB dX9_ways_35 3 fl_X9_33 lay_X9 rfl (by decide) rfl 0 rfl rfl ?_
  refine a_iload_n hB dX9_ways_38 rfl ?_
  refine a_callVr (q0 := 12) hB (c_X1_waysOf (Or.inl ⟨s, hs, rfl, rfl⟩)) mk_X1_waysOf ml_X9_210 dX9_ways_39 rfl rfl [12, 13] rfl (by decide) rfl rfl (fit_of hR (by decide)) (Nat.le_of_ble_eq_true rfl) ?_
  exact a_lret hB hE rfl dX9_ways_42 (Nat.le_of_ble_eq_true rfl) (Nat.le_of_ble_eq_true rfl) (AKeep.of rfl) ⟨by rw [cnF_lt _ _ hs]; unfold vW; rw [if_pos rfl, if_pos hs]; rfl, _, _, _, rfl⟩
set_option maxHeartbeats 4000000 in
set_option maxRecDepth 100000 in
theorem c_X9_ways_h {G : GP} {xa pa : Nat → Nat} {P : PV} {pl : Nat → Option Nat} {nx num len : Nat} {cs f m : Nat → Nat} {g : Nat → UInt64} {s : Nat} (h6 : P.parts ≤ 6) (hw : ∀ j, P.wt j ≤ 9) (hs : s ≤ 99) (h31 : 31 ≤ s) : AM G sX9_ways 0 0 [.ref (xa 0), .int (nI s), .int (nI 0)] (wR G xa pa P pl nx num [] len cs f m g) (fun rv w => rv = some (.long (lN (vW P s 0))) ∧ ∃ (f m : Nat → Nat) (g : Nat → UInt64), w = wR G xa pa P pl nx num [] len cs f m g) := by
  refine AM.of (σ := sX9_ways) (by decide +kernel) (by decide +kernel) (Nat.le_of_ble_eq_true rfl) (fun B hB hR hE0 hN => ?_)
  have hE := BE.of hE0
  refine a_iload_n hB dX9_ways_0 rfl ?_
  refine a_iconstN (v := 0) hB dX9_ways_1 (by decide) ?_
  refine a_bipushN (v := 99) hB dX9_ways_2 (by decide) ?_
  refine a_callSr hB (c_X9_requireRange (by omega) (by omega) (by omega)) mk_X9_requireRange ml_X9_89 dX9_ways_4 rfl rfl [] rfl (by decide) (fit_of hR (by decide)) (Nat.le_of_ble_eq_true rfl) ?_
  refine a_aload_n hB dX9_ways_7 rfl ?_
  refine a_get (T := TX9) (ci := 9) hB dX9_ways_8 3 fl_X9_33 lay_X9 rfl (by decide) rfl 0 rfl rfl ?_
  refine a_aload_n hB dX9_ways_11 rfl ?_
  refine a_get (T := TX9) (ci := 9) hB dX9_ways_12 0 fl_X9_12 lay_X9 rfl (by decide) rfl 0 rfl rfl ?_
  refine a_iconst (v := -1) hB dX9_ways_15 (by decide) ?_
  refine a_callVd (w2 := wR G xa pa P pl nx num [] len cs (cnF P.wt (-1) f P.parts) m g) (q0 := 12) hB (c_X1_fill (pa := pa) (P := P) (wo := (-1)) (f := f) h6 hw) mk_X1_fill ml_X9_202 dX9_ways_16 rfl rfl [12, 13, 1, 2, 3] rfl (by decide) rfl rfl (fit_of hR (by decide)) (Nat.le_of_ble_eq_true rfl) rfl ?_
  refine a_iload_n hB dX9_ways_19 rfl ?_
  refine a_if_eqN_t (tgt := 34) hB dX9_ways_20 (by decide) (by omega) (by omega) ?_
  refine a_aload_n hB dX9_ways_34 rfl ?_
  refine a_get (T := TX9) (ci := 9) hB dX9_ways_35 3 fl_X9_33 lay_X9 rfl (by decide) rfl 0 rfl rfl ?_
  refine a_iload_n hB dX9_ways_38 rfl ?_
  refine a_callVr (q0 := 12) hB (c_X1_waysOf_hi (by omega) (by omega)) mk_X1_waysOf ml_X9_210 dX9_ways_39 rfl rfl [12, 13] rfl (by decide) rfl rfl (fit_of hR (by decide)) (Nat.le_of_ble_eq_true rfl) ?_
  exact a_lret hB hE rfl dX9_ways_42 (Nat.le_of_ble_eq_true rfl) (Nat.le_of_ble_eq_true rfl) (AKeep.of rfl) ⟨by unfold vW; rw [if_pos rfl, if_neg (by omega)], _, _, _, rfl⟩
theorem c_X9_ways {G : GP} {xa pa : Nat → Nat} {P : PV} {pl : Nat → Option Nat} {nx num len : Nat} {cs f m : Nat → Nat} {g : Nat → UInt64} {s b : Nat} (h6 : P.parts ≤ 6) (hw : ∀ j, P.wt j ≤ 9) (hs : s ≤ 99) (hb : b ≤ 1) : AM G sX9_ways 0 0 [.ref (xa 0), .int (nI s), .int (nI b)] (wR G xa pa P pl nx num [] len cs f m g) (fun rv w => rv = some (.long (lN (vW P s b))) ∧ ∃ (f m : Nat → Nat) (g : Nat → UInt64), w = wR G xa pa P pl nx num [] len cs f m g) := by
  rcases (show b = 0 ∨ b = 1 by omega) with rfl | rfl
  · rcases Nat.lt_or_ge s 31 with h | h
    · exact c_X9_ways_0 h6 hw h
    · exact c_X9_ways_h h6 hw hs h
  · exact c_X9_ways_1 h6 hw hs
set_option maxHeartbeats 4000000 in
set_option maxRecDepth 100000 in
theorem c_X9_likeliest {G : GP} {xa pa : Nat → Nat} {P : PV} {pl : Nat → Option Nat} {nx num len : Nat} {cs f m : Nat → Nat} {g : Nat → UInt64} {p : Nat} (h6 : P.parts ≤ 6) (hw : ∀ j, P.wt j ≤ 9) (hlim : P.limit ≤ 99) (hp : p < P.parts) : AM G sX9_likeliest 0 0 [.ref (xa 0), .int (nI p)] (wR G xa pa P pl nx num [] len cs f m g) (fun rv w => rv = some (.int (vL P p)) ∧ ∃ (f m : Nat → Nat) (g : Nat → UInt64), w = wR G xa pa P pl nx num [] len cs f m g) := by
  refine AM.of (σ := sX9_likeliest) (by decide +kernel) (by decide +kernel) (Nat.le_of_ble_eq_true rfl) (fun B hB hR hE0 hN => ?_)
  have hE := BE.of hE0
  refine a_aload_n hB dX9_likeliest_0 rfl ?_
  refine a_iload_n hB dX9_likeliest_1 rfl ?_
  refine a_callVr (q0 := 0) hB (c_X9_requirePart (n := P.parts) (by omega) (by omega)) mk_X9_requirePart ml_X9_79 dX9_likeliest_2 rfl rfl [0, 1] rfl (by decide) rfl rfl (fit_of hR (by decide)) (Nat.le_of_ble_eq_true rfl) ?_
  refine a_aload_n hB dX9_likeliest_5 rfl ?_
  refine a_get (T := TX9) (ci := 9) hB dX9_likeliest_6 4 fl_X9_40 lay_X9 rfl (by decide) rfl 0 rfl rfl ?_
  refine a_aload_n hB dX9_likeliest_9 rfl ?_
  refine a_get (T := TX9) (ci := 9) hB dX9_likeliest_10 0 fl_X9_12 lay_X9 rfl (by decide) rfl 0 rfl rfl ?_
  refine a_callVd (w2 := wR G xa pa P pl nx num [] len cs f (lkF P m) g) (q0 := 14) hB (c_X3_fill (pa := pa) (P := P) (m := m) h6 hw) mk_X3_fill ml_X9_213 dX9_likeliest_13 rfl rfl [14, 15, 1, 2, 3] rfl (by decide) rfl rfl (fit_of hR (by decide)) (Nat.le_of_ble_eq_true rfl) rfl ?_
  refine a_aload_n hB dX9_likeliest_16 rfl ?_
  refine a_get (T := TX9) (ci := 9) hB dX9_likeliest_17 4 fl_X9_40 lay_X9 rfl (by decide) rfl 0 rfl rfl ?_
  refine a_aload_n hB dX9_likeliest_20 rfl ?_
  refine a_get (T := TX9) (ci := 9) hB dX9_likeliest_21 0 fl_X9_12 lay_X9 rfl (by decide) rfl 0 rfl rfl ?_
  refine a_iload_n hB dX9_likeliest_24 rfl ?_
  refine a_callVr (q0 := 14) hB (c_X3_loadOf (pa := pa) (P := P) (m := m) h6 hlim hw hp) mk_X3_loadOf ml_X9_215 dX9_likeliest_25 rfl rfl [14, 15, 1, 2, 3] rfl (by decide) rfl rfl (fit_of hR (by decide)) (Nat.le_of_ble_eq_true rfl) ?_
  exact a_iret hB hE rfl dX9_likeliest_28 (Nat.le_of_ble_eq_true rfl) (Nat.le_of_ble_eq_true rfl) (AKeep.of rfl) ⟨by rw [lik_z hp], _, _, _, rfl⟩
set_option maxHeartbeats 4000000 in
set_option maxRecDepth 100000 in
theorem c_X9_count_0 {G : GP} {xa pa : Nat → Nat} {P : PV} {pl : Nat → Option Nat} {nx num len : Nat} {cs f m : Nat → Nat} {g : Nat → UInt64} (h6 : P.parts ≤ 6) (hw : ∀ j, P.wt j ≤ 9) (hlim : P.limit ≤ 99) (hpos : ∀ p, p < P.parts → ∃ l, l < 6 ∧ 0 < gt P.wt p l)  : AM G sX9_count 0 0 [.ref (xa 0), .int (nI 0)] (wR G xa pa P pl nx num [] len cs f m g) (fun rv w => rv = some (.int (nI (vC P num 0))) ∧ ∃ (f m : Nat → Nat) (g : Nat → UInt64), w = wR G xa pa P pl nx num [] len cs f m g) := by
  refine AM.of (σ := sX9_count) (by decide +kernel) (by decide +kernel) (Nat.le_of_ble_eq_true rfl) (fun B hB hR hE0 hN => ?_)
  have hE := BE.of hE0
  refine a_iload_n hB dX9_count_0 rfl ?_
  refine a_iconstN (v := 0) hB dX9_count_1 (by decide) ?_
  refine a_bipushN (v := 8) hB dX9_count_2 (by decide) ?_
  refine a_callSr hB (c_X9_requireRange (by omega) (by omega) (by omega)) mk_X9_requireRange ml_X9_89 dX9_count_4 rfl rfl [] rfl (by decide) (fit_of hR (by decide)) (Nat.le_of_ble_eq_true rfl) ?_
  refine a_iload_n hB dX9_count_7 rfl ?_
  refine a_tableIn (off := 48) (tgt := 56) hB dX9_count_8 (by decide) (by decide) (by decide) (by decide) ?_
  refine a_aload_n hB dX9_count_56 rfl ?_
  refine a_get (T := TX9) (ci := 9) hB dX9_count_57 0 fl_X9_12 lay_X9 rfl (by decide) rfl 0 rfl rfl ?_
  refine a_get (T := TX4) (ci := 4) hB dX9_count_60 3 fl_X9_58 lay_X4 rfl (by decide) rfl 1 rfl rfl ?_
  exact a_iret hB hE rfl dX9_count_63 (Nat.le_of_ble_eq_true rfl) (Nat.le_of_ble_eq_true rfl) (AKeep.of rfl) ⟨rfl, _, _, _, rfl⟩
set_option maxHeartbeats 4000000 in
set_option maxRecDepth 100000 in
theorem c_X9_count_1 {G : GP} {xa pa : Nat → Nat} {P : PV} {pl : Nat → Option Nat} {nx num len : Nat} {cs f m : Nat → Nat} {g : Nat → UInt64} (h6 : P.parts ≤ 6) (hw : ∀ j, P.wt j ≤ 9) (hlim : P.limit ≤ 99) (hpos : ∀ p, p < P.parts → ∃ l, l < 6 ∧ 0 < gt P.wt p l)  : AM G sX9_count 0 0 [.ref (xa 0), .int (nI 1)] (wR G xa pa P pl nx num [] len cs f m g) (fun rv w => rv = some (.int (nI (vC P num 1))) ∧ ∃ (f m : Nat → Nat) (g : Nat → UInt64), w = wR G xa pa P pl nx num [] len cs f m g) := by
  refine AM.of (σ := sX9_count) (by decide +kernel) (by decide +kernel) (Nat.le_of_ble_eq_true rfl) (fun B hB hR hE0 hN => ?_)
  have hE := BE.of hE0
  refine a_iload_n hB dX9_count_0 rfl ?_
  refine a_iconstN (v := 0) hB dX9_count_1 (by decide) ?_
  refine a_bipushN (v := 8) hB dX9_count_2 (by decide) ?_
  refine a_callSr hB (c_X9_requireRange (by omega) (by omega) (by omega)) mk_X9_requireRange ml_X9_89 dX9_count_4 rfl rfl [] rfl (by decide) (fit_of hR (by decide)) (Nat.le_of_ble_eq_true rfl) ?_
  refine a_iload_n hB dX9_count_7 rfl ?_
  refine a_tableIn (off := 56) (tgt := 64) hB dX9_count_8 (by decide) (by decide) (by decide) (by decide) ?_
  refine a_aload_n hB dX9_count_64 rfl ?_
  refine a_get (T := TX9) (ci := 9) hB dX9_count_65 0 fl_X9_12 lay_X9 rfl (by decide) rfl 0 rfl rfl ?_
  refine a_get (T := TX4) (ci := 4) hB dX9_count_68 4 fl_X9_125 lay_X4 rfl (by decide) rfl 1 rfl rfl ?_
  exact a_iret hB hE rfl dX9_count_71 (Nat.le_of_ble_eq_true rfl) (Nat.le_of_ble_eq_true rfl) (AKeep.of rfl) ⟨rfl, _, _, _, rfl⟩
set_option maxHeartbeats 4000000 in
set_option maxRecDepth 100000 in
theorem c_X9_count_2 {G : GP} {xa pa : Nat → Nat} {P : PV} {pl : Nat → Option Nat} {nx num len : Nat} {cs f m : Nat → Nat} {g : Nat → UInt64} (h6 : P.parts ≤ 6) (hw : ∀ j, P.wt j ≤ 9) (hlim : P.limit ≤ 99) (hpos : ∀ p, p < P.parts → ∃ l, l < 6 ∧ 0 < gt P.wt p l)  : AM G sX9_count 0 0 [.ref (xa 0), .int (nI 2)] (wR G xa pa P pl nx num [] len cs f m g) (fun rv w => rv = some (.int (nI (vC P num 2))) ∧ ∃ (f m : Nat → Nat) (g : Nat → UInt64), w = wR G xa pa P pl nx num [] len cs f m g) := by
  refine AM.of (σ := sX9_count) (by decide +kernel) (by decide +kernel) (Nat.le_of_ble_eq_true rfl) (fun B hB hR hE0 hN => ?_)
  have hE := BE.of hE0
  refine a_iload_n hB dX9_count_0 rfl ?_
  refine a_iconstN (v := 0) hB dX9_count_1 (by decide) ?_
  refine a_bipushN (v := 8) hB dX9_count_2 (by decide) ?_
  refine a_callSr hB (c_X9_requireRange (by omega) (by omega) (by omega)) mk_X9_requireRange ml_X9_89 dX9_count_4 rfl rfl [] rfl (by decide) (fit_of hR (by decide)) (Nat.le_of_ble_eq_true rfl) ?_
  refine a_iload_n hB dX9_count_7 rfl ?_
  refine a_tableIn (off := 64) (tgt := 72) hB dX9_count_8 (by decide) (by decide) (by decide) (by decide) ?_
  refine a_aload_n hB dX9_count_72 rfl ?_
  refine a_get (T := TX9) (ci := 9) hB dX9_count_73 0 fl_X9_12 lay_X9 rfl (by decide) rfl 0 rfl rfl ?_
  refine a_get (T := TX4) (ci := 4) hB dX9_count_76 5 fl_X9_133 lay_X4 rfl (by decide) rfl 1 rfl rfl ?_
  exact a_iret hB hE rfl dX9_count_79 (Nat.le_of_ble_eq_true rfl) (Nat.le_of_ble_eq_true rfl) (AKeep.of rfl) ⟨rfl, _, _, _, rfl⟩
set_option maxHeartbeats 4000000 in
set_option maxRecDepth 100000 in
theorem c_X9_count_3 {G : GP} {xa pa : Nat → Nat} {P : PV} {pl : Nat → Option Nat} {nx num len : Nat} {cs f m : Nat → Nat} {g : Nat → UInt64} (h6 : P.parts ≤ 6) (hw : ∀ j, P.wt j ≤ 9) (hlim : P.limit ≤ 99) (hpos : ∀ p, p < P.parts → ∃ l, l < 6 ∧ 0 < gt P.wt p l)  : AM G sX9_count 0 0 [.ref (xa 0), .int (nI 3)] (wR G xa pa P pl nx num [] len cs f m g) (fun rv w => rv = some (.int (nI (vC P num 3))) ∧ ∃ (f m : Nat → Nat) (g : Nat → UInt64), w = wR G xa pa P pl nx num [] len cs f m g) := by
  refine AM.of (σ := sX9_count) (by decide +kernel) (by decide +kernel) (Nat.le_of_ble_eq_true rfl) (fun B hB hR hE0 hN => ?_)
  have hE := BE.of hE0
  refine a_iload_n hB dX9_count_0 rfl ?_
  refine a_iconstN (v := 0) hB dX9_count_1 (by decide) ?_
  refine a_bipushN (v := 8) hB dX9_count_2 (by decide) ?_
  refine a_callSr hB (c_X9_requireRange (by omega) (by omega) (by omega)) mk_X9_requireRange ml_X9_89 dX9_count_4 rfl rfl [] rfl (by decide) (fit_of hR (by decide)) (Nat.le_of_ble_eq_true rfl) ?_
  refine a_iload_n hB dX9_count_7 rfl ?_
  refine a_tableIn (off := 72) (tgt := 80) hB dX9_count_8 (by decide) (by decide) (by decide) (by decide) ?_
  refine a_aload_n hB dX9_count_80 rfl ?_
  refine a_get (T := TX9) (ci := 9) hB dX9_count_81 0 fl_X9_12 lay_X9 rfl (by decide) rfl 0 rfl rfl ?_
  refine a_get (T := TX4) (ci := 4) hB dX9_count_84 2 fl_X9_136 lay_X4 rfl (by decide) rfl 1 rfl rfl ?_
  refine a_get (T := TX5) (ci := 5) hB dX9_count_87 1 fl_X9_140 lay_X5 rfl (by decide) rfl 6 rfl rfl ?_
  exact a_iret hB hE rfl dX9_count_90 (Nat.le_of_ble_eq_true rfl) (Nat.le_of_ble_eq_true rfl) (AKeep.of rfl) ⟨rfl, _, _, _, rfl⟩
set_option maxHeartbeats 4000000 in
set_option maxRecDepth 100000 in
theorem c_X9_count_4 {G : GP} {xa pa : Nat → Nat} {P : PV} {pl : Nat → Option Nat} {nx num len : Nat} {cs f m : Nat → Nat} {g : Nat → UInt64} (h6 : P.parts ≤ 6) (hw : ∀ j, P.wt j ≤ 9) (hlim : P.limit ≤ 99) (hpos : ∀ p, p < P.parts → ∃ l, l < 6 ∧ 0 < gt P.wt p l)  : AM G sX9_count 0 0 [.ref (xa 0), .int (nI 4)] (wR G xa pa P pl nx num [] len cs f m g) (fun rv w => rv = some (.int (nI (vC P num 4))) ∧ ∃ (f m : Nat → Nat) (g : Nat → UInt64), w = wR G xa pa P pl nx num [] len cs f m g) := by
  refine AM.of (σ := sX9_count) (by decide +kernel) (by decide +kernel) (Nat.le_of_ble_eq_true rfl) (fun B hB hR hE0 hN => ?_)
  have hE := BE.of hE0
  refine a_iload_n hB dX9_count_0 rfl ?_
  refine a_iconstN (v := 0) hB dX9_count_1 (by decide) ?_
  refine a_bipushN (v := 8) hB dX9_count_2 (by decide) ?_
  refine a_callSr hB (c_X9_requireRange (by omega) (by omega) (by omega)) mk_X9_requireRange ml_X9_89 dX9_count_4 rfl rfl [] rfl (by decide) (fit_of hR (by decide)) (Nat.le_of_ble_eq_true rfl) ?_
  refine a_iload_n hB dX9_count_7 rfl ?_
  refine a_tableIn (off := 83) (tgt := 91) hB dX9_count_8 (by decide) (by decide) (by decide) (by decide) ?_
  refine a_aload_n hB dX9_count_91 rfl ?_
  refine a_get (T := TX9) (ci := 9) hB dX9_count_92 0 fl_X9_12 lay_X9 rfl (by decide) rfl 0 rfl rfl ?_
  refine a_get (T := TX4) (ci := 4) hB dX9_count_95 2 fl_X9_136 lay_X4 rfl (by decide) rfl 1 rfl rfl ?_
  refine a_get (T := TX5) (ci := 5) hB dX9_count_98 2 fl_X9_147 lay_X5 rfl (by decide) rfl 6 rfl rfl ?_
  exact a_iret hB hE rfl dX9_count_101 (Nat.le_of_ble_eq_true rfl) (Nat.le_of_ble_eq_true rfl) (AKeep.of rfl) ⟨rfl, _, _, _, rfl⟩
set_option maxHeartbeats 4000000 in
set_option maxRecDepth 100000 in
theorem c_X9_count_5 {G : GP} {xa pa : Nat → Nat} {P : PV} {pl : Nat → Option Nat} {nx num len : Nat} {cs f m : Nat → Nat} {g : Nat → UInt64} (h6 : P.parts ≤ 6) (hw : ∀ j, P.wt j ≤ 9) (hlim : P.limit ≤ 99) (hpos : ∀ p, p < P.parts → ∃ l, l < 6 ∧ 0 < gt P.wt p l)  : AM G sX9_count 0 0 [.ref (xa 0), .int (nI 5)] (wR G xa pa P pl nx num [] len cs f m g) (fun rv w => rv = some (.int (nI (vC P num 5))) ∧ ∃ (f m : Nat → Nat) (g : Nat → UInt64), w = wR G xa pa P pl nx num [] len cs f m g) := by
  refine AM.of (σ := sX9_count) (by decide +kernel) (by decide +kernel) (Nat.le_of_ble_eq_true rfl) (fun B hB hR hE0 hN => ?_)
  have hE := BE.of hE0
  refine a_iload_n hB dX9_count_0 rfl ?_
  refine a_iconstN (v := 0) hB dX9_count_1 (by decide) ?_
  refine a_bipushN (v := 8) hB dX9_count_2 (by decide) ?_
  refine a_callSr hB (c_X9_requireRange (by omega) (by omega) (by omega)) mk_X9_requireRange ml_X9_89 dX9_count_4 rfl rfl [] rfl (by decide) (fit_of hR (by decide)) (Nat.le_of_ble_eq_true rfl) ?_
  refine a_iload_n hB dX9_count_7 rfl ?_
  refine a_tableIn (off := 94) (tgt := 102) hB dX9_count_8 (by decide) (by decide) (by decide) (by decide) ?_
  refine a_aload_n hB dX9_count_102 rfl ?_
  refine a_get (T := TX9) (ci := 9) hB dX9_count_103 0 fl_X9_12 lay_X9 rfl (by decide) rfl 0 rfl rfl ?_
  refine a_callVr (q0 := 1) hB (c_X4_leastSum (pa := pa) (P := P) h6 hw hpos) mk_X4_leastSum ml_X9_219 dX9_count_106 rfl rfl [1, 2, 3, 4, 5, 6, 7] rfl (by decide) rfl rfl (fit_of hR (by decide)) (Nat.le_of_ble_eq_true rfl) ?_
  exact a_iret hB hE rfl dX9_count_109 (Nat.le_of_ble_eq_true rfl) (Nat.le_of_ble_eq_true rfl) (AKeep.of rfl) ⟨rfl, _, _, _, rfl⟩
set_option maxHeartbeats 4000000 in
set_option maxRecDepth 100000 in
theorem c_X9_count_6 {G : GP} {xa pa : Nat → Nat} {P : PV} {pl : Nat → Option Nat} {nx num len : Nat} {cs f m : Nat → Nat} {g : Nat → UInt64} (h6 : P.parts ≤ 6) (hw : ∀ j, P.wt j ≤ 9) (hlim : P.limit ≤ 99) (hpos : ∀ p, p < P.parts → ∃ l, l < 6 ∧ 0 < gt P.wt p l)  : AM G sX9_count 0 0 [.ref (xa 0), .int (nI 6)] (wR G xa pa P pl nx num [] len cs f m g) (fun rv w => rv = some (.int (nI (vC P num 6))) ∧ ∃ (f m : Nat → Nat) (g : Nat → UInt64), w = wR G xa pa P pl nx num [] len cs f m g) := by
  refine AM.of (σ := sX9_count) (by decide +kernel) (by decide +kernel) (Nat.le_of_ble_eq_true rfl) (fun B hB hR hE0 hN => ?_)
  have hE := BE.of hE0
  refine a_iload_n hB dX9_count_0 rfl ?_
  refine a_iconstN (v := 0) hB dX9_count_1 (by decide) ?_
  refine a_bipushN (v := 8) hB dX9_count_2 (by decide) ?_
  refine a_callSr hB (c_X9_requireRange (by omega) (by omega) (by omega)) mk_X9_requireRange ml_X9_89 dX9_count_4 rfl rfl [] rfl (by decide) (fit_of hR (by decide)) (Nat.le_of_ble_eq_true rfl) ?_
  refine a_iload_n hB dX9_count_7 rfl ?_
  refine a_tableIn (off := 102) (tgt := 110) hB dX9_count_8 (by decide) (by decide) (by decide) (by decide) ?_
  refine a_aload_n hB dX9_count_110 rfl ?_
  refine a_get (T := TX9) (ci := 9) hB dX9_count_111 0 fl_X9_12 lay_X9 rfl (by decide) rfl 0 rfl rfl ?_
  refine a_callVr (q0 := 1) hB (c_X4_greatestSum (pa := pa) (P := P) h6 hw hpos) mk_X4_greatestSum ml_X9_222 dX9_count_114 rfl rfl [1, 2, 3, 4, 5, 6, 7] rfl (by decide) rfl rfl (fit_of hR (by decide)) (Nat.le_of_ble_eq_true rfl) ?_
  exact a_iret hB hE rfl dX9_count_117 (Nat.le_of_ble_eq_true rfl) (Nat.le_of_ble_eq_true rfl) (AKeep.of rfl) ⟨rfl, _, _, _, rfl⟩
set_option maxHeartbeats 4000000 in
set_option maxRecDepth 100000 in
theorem c_X9_count_7 {G : GP} {xa pa : Nat → Nat} {P : PV} {pl : Nat → Option Nat} {nx num len : Nat} {cs f m : Nat → Nat} {g : Nat → UInt64} (h6 : P.parts ≤ 6) (hw : ∀ j, P.wt j ≤ 9) (hlim : P.limit ≤ 99) (hpos : ∀ p, p < P.parts → ∃ l, l < 6 ∧ 0 < gt P.wt p l)  : AM G sX9_count 0 0 [.ref (xa 0), .int (nI 7)] (wR G xa pa P pl nx num [] len cs f m g) (fun rv w => rv = some (.int (nI (vC P num 7))) ∧ ∃ (f m : Nat → Nat) (g : Nat → UInt64), w = wR G xa pa P pl nx num [] len cs f m g) := by
  refine AM.of (σ := sX9_count) (by decide +kernel) (by decide +kernel) (Nat.le_of_ble_eq_true rfl) (fun B hB hR hE0 hN => ?_)
  have hE := BE.of hE0
  refine a_iload_n hB dX9_count_0 rfl ?_
  refine a_iconstN (v := 0) hB dX9_count_1 (by decide) ?_
  refine a_bipushN (v := 8) hB dX9_count_2 (by decide) ?_
  refine a_callSr hB (c_X9_requireRange (by omega) (by omega) (by omega)) mk_X9_requireRange ml_X9_89 dX9_count_4 rfl rfl [] rfl (by decide) (fit_of hR (by decide)) (Nat.le_of_ble_eq_true rfl) ?_
  refine a_iload_n hB dX9_count_7 rfl ?_
  refine a_tableIn (off := 110) (tgt := 118) hB dX9_count_8 (by decide) (by decide) (by decide) (by decide) ?_
  refine a_aload_n hB dX9_count_118 rfl ?_
  refine a_get (T := TX9) (ci := 9) hB dX9_count_119 4 fl_X9_40 lay_X9 rfl (by decide) rfl 0 rfl rfl ?_
  refine a_aload_n hB dX9_count_122 rfl ?_
  refine a_get (T := TX9) (ci := 9) hB dX9_count_123 0 fl_X9_12 lay_X9 rfl (by decide) rfl 0 rfl rfl ?_
  refine a_callVd (w2 := wR G xa pa P pl nx num [] len cs f (lkF P m) g) (q0 := 14) hB (c_X3_fill (pa := pa) (P := P) (m := m) h6 hw) mk_X3_fill ml_X9_213 dX9_count_126 rfl rfl [14, 15, 1, 2, 3] rfl (by decide) rfl rfl (fit_of hR (by decide)) (Nat.le_of_ble_eq_true rfl) rfl ?_
  refine a_aload_n hB dX9_count_129 rfl ?_
  refine a_get (T := TX9) (ci := 9) hB dX9_count_130 4 fl_X9_40 lay_X9 rfl (by decide) rfl 0 rfl rfl ?_
  refine a_aload_n hB dX9_count_133 rfl ?_
  refine a_get (T := TX9) (ci := 9) hB dX9_count_134 0 fl_X9_12 lay_X9 rfl (by decide) rfl 0 rfl rfl ?_
  refine a_get (T := TX4) (ci := 4) hB dX9_count_137 4 fl_X9_125 lay_X4 rfl (by decide) rfl 1 rfl rfl ?_
  refine a_callVr (q0 := 14) hB (c_X3_waysFor (by omega)) mk_X3_waysFor ml_X9_225 dX9_count_140 rfl rfl [14, 15] rfl (by decide) rfl rfl (fit_of hR (by decide)) (Nat.le_of_ble_eq_true rfl) ?_
  exact a_iret hB hE rfl dX9_count_143 (Nat.le_of_ble_eq_true rfl) (Nat.le_of_ble_eq_true rfl) (AKeep.of rfl) ⟨by rw [gm_z (Nat.zero_le _)]; rfl, _, _, _, rfl⟩
set_option maxHeartbeats 4000000 in
set_option maxRecDepth 100000 in
theorem c_X9_count_8 {G : GP} {xa pa : Nat → Nat} {P : PV} {pl : Nat → Option Nat} {nx num len : Nat} {cs f m : Nat → Nat} {g : Nat → UInt64} (h6 : P.parts ≤ 6) (hw : ∀ j, P.wt j ≤ 9) (hlim : P.limit ≤ 99) (hpos : ∀ p, p < P.parts → ∃ l, l < 6 ∧ 0 < gt P.wt p l)  : AM G sX9_count 0 0 [.ref (xa 0), .int (nI 8)] (wR G xa pa P pl nx num [] len cs f m g) (fun rv w => rv = some (.int (nI (vC P num 8))) ∧ ∃ (f m : Nat → Nat) (g : Nat → UInt64), w = wR G xa pa P pl nx num [] len cs f m g) := by
  refine AM.of (σ := sX9_count) (by decide +kernel) (by decide +kernel) (Nat.le_of_ble_eq_true rfl) (fun B hB hR hE0 hN => ?_)
  have hE := BE.of hE0
  refine a_iload_n hB dX9_count_0 rfl ?_
  refine a_iconstN (v := 0) hB dX9_count_1 (by decide) ?_
  refine a_bipushN (v := 8) hB dX9_count_2 (by decide) ?_
  refine a_callSr hB (c_X9_requireRange (by omega) (by omega) (by omega)) mk_X9_requireRange ml_X9_89 dX9_count_4 rfl rfl [] rfl (by decide) (fit_of hR (by decide)) (Nat.le_of_ble_eq_true rfl) ?_
  refine a_iload_n hB dX9_count_7 rfl ?_
  refine a_tableOut (tgt := 144) hB dX9_count_8 (by decide) (by decide) ?_
  refine a_aload_n hB dX9_count_144 rfl ?_
  refine a_get (T := TX9) (ci := 9) hB dX9_count_145 1 fl_X9_19 lay_X9 rfl (by decide) rfl 0 rfl rfl ?_
  refine a_get (T := TX2) (ci := 2) hB dX9_count_148 2 fl_X9_184 lay_X2 rfl (by decide) rfl 8 rfl rfl ?_
  exact a_iret hB hE rfl dX9_count_151 (Nat.le_of_ble_eq_true rfl) (Nat.le_of_ble_eq_true rfl) (AKeep.of rfl) ⟨rfl, _, _, _, rfl⟩
theorem c_X9_count {G : GP} {xa pa : Nat → Nat} {P : PV} {pl : Nat → Option Nat} {nx num len : Nat} {cs f m : Nat → Nat} {g : Nat → UInt64} {k : Nat} (h6 : P.parts ≤ 6) (hw : ∀ j, P.wt j ≤ 9) (hlim : P.limit ≤ 99) (hpos : ∀ p, p < P.parts → ∃ l, l < 6 ∧ 0 < gt P.wt p l) (hk : k ≤ 8) : AM G sX9_count 0 0 [.ref (xa 0), .int (nI k)] (wR G xa pa P pl nx num [] len cs f m g) (fun rv w => rv = some (.int (nI (vC P num k))) ∧ ∃ (f m : Nat → Nat) (g : Nat → UInt64), w = wR G xa pa P pl nx num [] len cs f m g) := by
  rcases (show k = 0 ∨ k = 1 ∨ k = 2 ∨ k = 3 ∨ k = 4 ∨ k = 5 ∨ k = 6 ∨ k = 7 ∨ k = 8 by omega) with rfl | rfl | rfl | rfl | rfl | rfl | rfl | rfl | rfl
  · exact c_X9_count_0 h6 hw hlim hpos
  · exact c_X9_count_1 h6 hw hlim hpos
  · exact c_X9_count_2 h6 hw hlim hpos
  · exact c_X9_count_3 h6 hw hlim hpos
  · exact c_X9_count_4 h6 hw hlim hpos
  · exact c_X9_count_5 h6 hw hlim hpos
  · exact c_X9_count_6 h6 hw hlim hpos
  · exact c_X9_count_7 h6 hw hlim hpos
  · exact c_X9_count_8 h6 hw hlim hpos
set_option maxHeartbeats 4000000 in
set_option maxRecDepth 100000 in
theorem c_X9_part_0 {G : GP} {xa pa : Nat → Nat} {P : PV} {pl : Nat → Option Nat} {nx num len : Nat} {cs f m : Nat → Nat} {g : Nat → UInt64} {p : Nat} (h6 : P.parts ≤ 6) (hw : ∀ j, P.wt j ≤ 9) (hpos : ∀ p, p < P.parts → ∃ l, l < 6 ∧ 0 < gt P.wt p l) (hn : P.sv.num < 2 ^ 31) (hp : p < P.parts) : AM G sX9_part 0 0 [.ref (xa 0), .int (nI p), .int (nI 0)] (wR G xa pa P pl nx num [] len cs f m g) (fun rv w => rv = some (.int (vP P p 0)) ∧ ∃ (f m : Nat → Nat) (g : Nat → UInt64), w = wR G xa pa P pl nx num [] len cs f m g) := by
  refine AM.of (σ := sX9_part) (by decide +kernel) (by decide +kernel) (Nat.le_of_ble_eq_true rfl) (fun B hB hR hE0 hN => ?_)
  have hE := BE.of hE0
  have g3 := lo6_spec (hpos p hp)
  have g4 := hi6_spec (hpos p hp)
  refine a_aload_n hB dX9_part_0 rfl ?_
  refine a_iload_n hB dX9_part_1 rfl ?_
  refine a_callVr (q0 := 0) hB (c_X9_requirePart (n := P.parts) (by omega) (by omega)) mk_X9_requirePart ml_X9_79 dX9_part_2 rfl rfl [0, 1] rfl (by decide) rfl rfl (fit_of hR (by decide)) (Nat.le_of_ble_eq_true rfl) ?_
  refine a_iload_n hB dX9_part_5 rfl ?_
  refine a_iconstN (v := 0) hB dX9_part_6 (by decide) ?_
  refine a_bipushN (v := 6) hB dX9_part_7 (by decide) ?_
  refine a_callSr hB (c_X9_requireRange (by omega) (by omega) (by omega)) mk_X9_requireRange ml_X9_89 dX9_part_9 rfl rfl [] rfl (by decide) (fit_of hR (by decide)) (Nat.le_of_ble_eq_true rfl) ?_
  refine a_iload_n hB dX9_part_12 rfl ?_
  refine a_tableIn (off := 39) (tgt := 52) hB dX9_part_13 (by decide) (by decide) (by decide) (by decide) ?_
  refine a_aload_n hB dX9_part_52 rfl ?_
  refine a_get (T := TX9) (ci := 9) hB dX9_part_53 0 fl_X9_12 lay_X9 rfl (by decide) rfl 0 rfl rfl ?_
  refine a_get (T := TX4) (ci := 4) hB dX9_part_56 0 fl_X9_92 lay_X4 rfl (by decide) rfl 1 rfl rfl ?_
  refine a_iload_n hB dX9_part_59 rfl ?_
  refine a_callVr (q0 := 2) hB (c_X7_totalOf (by omega)) mk_X7_totalOf ml_X9_102 dX9_part_60 rfl rfl [2, 3] rfl (by decide) rfl rfl (fit_of hR (by decide)) (Nat.le_of_ble_eq_true rfl) ?_
  exact a_iret hB hE rfl dX9_part_63 (Nat.le_of_ble_eq_true rfl) (Nat.le_of_ble_eq_true rfl) (AKeep.of rfl) ⟨rfl, _, _, _, rfl⟩
set_option maxHeartbeats 4000000 in
set_option maxRecDepth 100000 in
theorem c_X9_part_1 {G : GP} {xa pa : Nat → Nat} {P : PV} {pl : Nat → Option Nat} {nx num len : Nat} {cs f m : Nat → Nat} {g : Nat → UInt64} {p : Nat} (h6 : P.parts ≤ 6) (hw : ∀ j, P.wt j ≤ 9) (hpos : ∀ p, p < P.parts → ∃ l, l < 6 ∧ 0 < gt P.wt p l) (hn : P.sv.num < 2 ^ 31) (hp : p < P.parts) : AM G sX9_part 0 0 [.ref (xa 0), .int (nI p), .int (nI 1)] (wR G xa pa P pl nx num [] len cs f m g) (fun rv w => rv = some (.int (vP P p 1)) ∧ ∃ (f m : Nat → Nat) (g : Nat → UInt64), w = wR G xa pa P pl nx num [] len cs f m g) := by
  refine AM.of (σ := sX9_part) (by decide +kernel) (by decide +kernel) (Nat.le_of_ble_eq_true rfl) (fun B hB hR hE0 hN => ?_)
  have hE := BE.of hE0
  have g3 := lo6_spec (hpos p hp)
  have g4 := hi6_spec (hpos p hp)
  refine a_aload_n hB dX9_part_0 rfl ?_
  refine a_iload_n hB dX9_part_1 rfl ?_
  refine a_callVr (q0 := 0) hB (c_X9_requirePart (n := P.parts) (by omega) (by omega)) mk_X9_requirePart ml_X9_79 dX9_part_2 rfl rfl [0, 1] rfl (by decide) rfl rfl (fit_of hR (by decide)) (Nat.le_of_ble_eq_true rfl) ?_
  refine a_iload_n hB dX9_part_5 rfl ?_
  refine a_iconstN (v := 0) hB dX9_part_6 (by decide) ?_
  refine a_bipushN (v := 6) hB dX9_part_7 (by decide) ?_
  refine a_callSr hB (c_X9_requireRange (by omega) (by omega) (by omega)) mk_X9_requireRange ml_X9_89 dX9_part_9 rfl rfl [] rfl (by decide) (fit_of hR (by decide)) (Nat.le_of_ble_eq_true rfl) ?_
  refine a_iload_n hB dX9_part_12 rfl ?_
  refine a_tableIn (off := 51) (tgt := 64) hB dX9_part_13 (by decide) (by decide) (by decide) (by decide) ?_
  refine a_aload_n hB dX9_part_64 rfl ?_
  refine a_get (T := TX9) (ci := 9) hB dX9_part_65 0 fl_X9_12 lay_X9 rfl (by decide) rfl 0 rfl rfl ?_
  refine a_get (T := TX4) (ci := 4) hB dX9_part_68 1 fl_X9_113 lay_X4 rfl (by decide) rfl 1 rfl rfl ?_
  refine a_iload_n hB dX9_part_71 rfl ?_
  refine a_callVr (q0 := 4) hB (c_X7_totalOf (by omega)) mk_X7_totalOf ml_X9_102 dX9_part_72 rfl rfl [4, 5] rfl (by decide) rfl rfl (fit_of hR (by decide)) (Nat.le_of_ble_eq_true rfl) ?_
  exact a_iret hB hE rfl dX9_part_75 (Nat.le_of_ble_eq_true rfl) (Nat.le_of_ble_eq_true rfl) (AKeep.of rfl) ⟨rfl, _, _, _, rfl⟩
set_option maxHeartbeats 4000000 in
set_option maxRecDepth 100000 in
theorem c_X9_part_2 {G : GP} {xa pa : Nat → Nat} {P : PV} {pl : Nat → Option Nat} {nx num len : Nat} {cs f m : Nat → Nat} {g : Nat → UInt64} {p : Nat} (h6 : P.parts ≤ 6) (hw : ∀ j, P.wt j ≤ 9) (hpos : ∀ p, p < P.parts → ∃ l, l < 6 ∧ 0 < gt P.wt p l) (hn : P.sv.num < 2 ^ 31) (hp : p < P.parts) : AM G sX9_part 0 0 [.ref (xa 0), .int (nI p), .int (nI 2)] (wR G xa pa P pl nx num [] len cs f m g) (fun rv w => rv = some (.int (vP P p 2)) ∧ ∃ (f m : Nat → Nat) (g : Nat → UInt64), w = wR G xa pa P pl nx num [] len cs f m g) := by
  refine AM.of (σ := sX9_part) (by decide +kernel) (by decide +kernel) (Nat.le_of_ble_eq_true rfl) (fun B hB hR hE0 hN => ?_)
  have hE := BE.of hE0
  have g3 := lo6_spec (hpos p hp)
  have g4 := hi6_spec (hpos p hp)
  refine a_aload_n hB dX9_part_0 rfl ?_
  refine a_iload_n hB dX9_part_1 rfl ?_
  refine a_callVr (q0 := 0) hB (c_X9_requirePart (n := P.parts) (by omega) (by omega)) mk_X9_requirePart ml_X9_79 dX9_part_2 rfl rfl [0, 1] rfl (by decide) rfl rfl (fit_of hR (by decide)) (Nat.le_of_ble_eq_true rfl) ?_
  refine a_iload_n hB dX9_part_5 rfl ?_
  refine a_iconstN (v := 0) hB dX9_part_6 (by decide) ?_
  refine a_bipushN (v := 6) hB dX9_part_7 (by decide) ?_
  refine a_callSr hB (c_X9_requireRange (by omega) (by omega) (by omega)) mk_X9_requireRange ml_X9_89 dX9_part_9 rfl rfl [] rfl (by decide) (fit_of hR (by decide)) (Nat.le_of_ble_eq_true rfl) ?_
  refine a_iload_n hB dX9_part_12 rfl ?_
  refine a_tableIn (off := 63) (tgt := 76) hB dX9_part_13 (by decide) (by decide) (by decide) (by decide) ?_
  refine a_aload_n hB dX9_part_76 rfl ?_
  refine a_get (T := TX9) (ci := 9) hB dX9_part_77 0 fl_X9_12 lay_X9 rfl (by decide) rfl 0 rfl rfl ?_
  refine a_get (T := TX4) (ci := 4) hB dX9_part_80 0 fl_X9_92 lay_X4 rfl (by decide) rfl 1 rfl rfl ?_
  refine a_iload_n hB dX9_part_83 rfl ?_
  refine a_callVr (q0 := 2) hB (c_X7_leastLoadOf (w := P.wt) (r := lo6 (gt P.wt p)) (by omega) g3.1 g3.2.1 g3.2.2 (Nat.lt_of_le_of_lt (gt_lt hw p _) (by decide))) mk_X7_leastLoadOf ml_X9_190 dX9_part_84 rfl rfl [2, 3] rfl (by decide) rfl rfl (fit_of hR (by decide)) (Nat.le_of_ble_eq_true rfl) ?_
  exact a_iret hB hE rfl dX9_part_87 (Nat.le_of_ble_eq_true rfl) (Nat.le_of_ble_eq_true rfl) (AKeep.of rfl) ⟨rfl, _, _, _, rfl⟩
set_option maxHeartbeats 4000000 in
set_option maxRecDepth 100000 in
theorem c_X9_part_3 {G : GP} {xa pa : Nat → Nat} {P : PV} {pl : Nat → Option Nat} {nx num len : Nat} {cs f m : Nat → Nat} {g : Nat → UInt64} {p : Nat} (h6 : P.parts ≤ 6) (hw : ∀ j, P.wt j ≤ 9) (hpos : ∀ p, p < P.parts → ∃ l, l < 6 ∧ 0 < gt P.wt p l) (hn : P.sv.num < 2 ^ 31) (hp : p < P.parts) : AM G sX9_part 0 0 [.ref (xa 0), .int (nI p), .int (nI 3)] (wR G xa pa P pl nx num [] len cs f m g) (fun rv w => rv = some (.int (vP P p 3)) ∧ ∃ (f m : Nat → Nat) (g : Nat → UInt64), w = wR G xa pa P pl nx num [] len cs f m g) := by
  refine AM.of (σ := sX9_part) (by decide +kernel) (by decide +kernel) (Nat.le_of_ble_eq_true rfl) (fun B hB hR hE0 hN => ?_)
  have hE := BE.of hE0
  have g3 := lo6_spec (hpos p hp)
  have g4 := hi6_spec (hpos p hp)
  refine a_aload_n hB dX9_part_0 rfl ?_
  refine a_iload_n hB dX9_part_1 rfl ?_
  refine a_callVr (q0 := 0) hB (c_X9_requirePart (n := P.parts) (by omega) (by omega)) mk_X9_requirePart ml_X9_79 dX9_part_2 rfl rfl [0, 1] rfl (by decide) rfl rfl (fit_of hR (by decide)) (Nat.le_of_ble_eq_true rfl) ?_
  refine a_iload_n hB dX9_part_5 rfl ?_
  refine a_iconstN (v := 0) hB dX9_part_6 (by decide) ?_
  refine a_bipushN (v := 6) hB dX9_part_7 (by decide) ?_
  refine a_callSr hB (c_X9_requireRange (by omega) (by omega) (by omega)) mk_X9_requireRange ml_X9_89 dX9_part_9 rfl rfl [] rfl (by decide) (fit_of hR (by decide)) (Nat.le_of_ble_eq_true rfl) ?_
  refine a_iload_n hB dX9_part_12 rfl ?_
  refine a_tableIn (off := 75) (tgt := 88) hB dX9_part_13 (by decide) (by decide) (by decide) (by decide) ?_
  refine a_aload_n hB dX9_part_88 rfl ?_
  refine a_get (T := TX9) (ci := 9) hB dX9_part_89 0 fl_X9_12 lay_X9 rfl (by decide) rfl 0 rfl rfl ?_
  refine a_get (T := TX4) (ci := 4) hB dX9_part_92 0 fl_X9_92 lay_X4 rfl (by decide) rfl 1 rfl rfl ?_
  refine a_iload_n hB dX9_part_95 rfl ?_
  refine a_callVr (q0 := 2) hB (c_X7_greatestLoadOf (w := P.wt) (r := hi6 (gt P.wt p)) (by omega) g4.1 g4.2.1 g4.2.2 (Nat.lt_of_le_of_lt (gt_lt hw p _) (by decide))) mk_X7_greatestLoadOf ml_X9_193 dX9_part_96 rfl rfl [2, 3] rfl (by decide) rfl rfl (fit_of hR (by decide)) (Nat.le_of_ble_eq_true rfl) ?_
  exact a_iret hB hE rfl dX9_part_99 (Nat.le_of_ble_eq_true rfl) (Nat.le_of_ble_eq_true rfl) (AKeep.of rfl) ⟨rfl, _, _, _, rfl⟩
set_option maxHeartbeats 4000000 in
set_option maxRecDepth 100000 in
theorem c_X9_part_4 {G : GP} {xa pa : Nat → Nat} {P : PV} {pl : Nat → Option Nat} {nx num len : Nat} {cs f m : Nat → Nat} {g : Nat → UInt64} {p : Nat} (h6 : P.parts ≤ 6) (hw : ∀ j, P.wt j ≤ 9) (hpos : ∀ p, p < P.parts → ∃ l, l < 6 ∧ 0 < gt P.wt p l) (hn : P.sv.num < 2 ^ 31) (hp : p < P.parts) : AM G sX9_part 0 0 [.ref (xa 0), .int (nI p), .int (nI 4)] (wR G xa pa P pl nx num [] len cs f m g) (fun rv w => rv = some (.int (vP P p 4)) ∧ ∃ (f m : Nat → Nat) (g : Nat → UInt64), w = wR G xa pa P pl nx num [] len cs f m g) := by
  refine AM.of (σ := sX9_part) (by decide +kernel) (by decide +kernel) (Nat.le_of_ble_eq_true rfl) (fun B hB hR hE0 hN => ?_)
  have hE := BE.of hE0
  have g3 := lo6_spec (hpos p hp)
  have g4 := hi6_spec (hpos p hp)
  refine a_aload_n hB dX9_part_0 rfl ?_
  refine a_iload_n hB dX9_part_1 rfl ?_
  refine a_callVr (q0 := 0) hB (c_X9_requirePart (n := P.parts) (by omega) (by omega)) mk_X9_requirePart ml_X9_79 dX9_part_2 rfl rfl [0, 1] rfl (by decide) rfl rfl (fit_of hR (by decide)) (Nat.le_of_ble_eq_true rfl) ?_
  refine a_iload_n hB dX9_part_5 rfl ?_
  refine a_iconstN (v := 0) hB dX9_part_6 (by decide) ?_
  refine a_bipushN (v := 6) hB dX9_part_7 (by decide) ?_
  refine a_callSr hB (c_X9_requireRange (by omega) (by omega) (by omega)) mk_X9_requireRange ml_X9_89 dX9_part_9 rfl rfl [] rfl (by decide) (fit_of hR (by decide)) (Nat.le_of_ble_eq_true rfl) ?_
  refine a_iload_n hB dX9_part_12 rfl ?_
  refine a_tableIn (off := 87) (tgt := 100) hB dX9_part_13 (by decide) (by decide) (by decide) (by decide) ?_
  refine a_aload_n hB dX9_part_100 rfl ?_
  refine a_get (T := TX9) (ci := 9) hB dX9_part_101 0 fl_X9_12 lay_X9 rfl (by decide) rfl 0 rfl rfl ?_
  refine a_get (T := TX4) (ci := 4) hB dX9_part_104 0 fl_X9_92 lay_X4 rfl (by decide) rfl 1 rfl rfl ?_
  refine a_iload_n hB dX9_part_107 rfl ?_
  refine a_callVr (q0 := 2) hB (c_X7_momentOf (by omega)) mk_X7_momentOf ml_X9_196 dX9_part_108 rfl rfl [2, 3] rfl (by decide) rfl rfl (fit_of hR (by decide)) (Nat.le_of_ble_eq_true rfl) ?_
  exact a_iret hB hE rfl dX9_part_111 (Nat.le_of_ble_eq_true rfl) (Nat.le_of_ble_eq_true rfl) (AKeep.of rfl) ⟨rfl, _, _, _, rfl⟩
set_option maxHeartbeats 4000000 in
set_option maxRecDepth 100000 in
theorem c_X9_part_5 {G : GP} {xa pa : Nat → Nat} {P : PV} {pl : Nat → Option Nat} {nx num len : Nat} {cs f m : Nat → Nat} {g : Nat → UInt64} {p : Nat} (h6 : P.parts ≤ 6) (hw : ∀ j, P.wt j ≤ 9) (hpos : ∀ p, p < P.parts → ∃ l, l < 6 ∧ 0 < gt P.wt p l) (hn : P.sv.num < 2 ^ 31) (hp : p < P.parts) : AM G sX9_part 0 0 [.ref (xa 0), .int (nI p), .int (nI 5)] (wR G xa pa P pl nx num [] len cs f m g) (fun rv w => rv = some (.int (vP P p 5)) ∧ ∃ (f m : Nat → Nat) (g : Nat → UInt64), w = wR G xa pa P pl nx num [] len cs f m g) := by
  refine AM.of (σ := sX9_part) (by decide +kernel) (by decide +kernel) (Nat.le_of_ble_eq_true rfl) (fun B hB hR hE0 hN => ?_)
  have hE := BE.of hE0
  have g3 := lo6_spec (hpos p hp)
  have g4 := hi6_spec (hpos p hp)
  refine a_aload_n hB dX9_part_0 rfl ?_
  refine a_iload_n hB dX9_part_1 rfl ?_
  refine a_callVr (q0 := 0) hB (c_X9_requirePart (n := P.parts) (by omega) (by omega)) mk_X9_requirePart ml_X9_79 dX9_part_2 rfl rfl [0, 1] rfl (by decide) rfl rfl (fit_of hR (by decide)) (Nat.le_of_ble_eq_true rfl) ?_
  refine a_iload_n hB dX9_part_5 rfl ?_
  refine a_iconstN (v := 0) hB dX9_part_6 (by decide) ?_
  refine a_bipushN (v := 6) hB dX9_part_7 (by decide) ?_
  refine a_callSr hB (c_X9_requireRange (by omega) (by omega) (by omega)) mk_X9_requireRange ml_X9_89 dX9_part_9 rfl rfl [] rfl (by decide) (fit_of hR (by decide)) (Nat.le_of_ble_eq_true rfl) ?_
  refine a_iload_n hB dX9_part_12 rfl ?_
  refine a_tableIn (off := 99) (tgt := 112) hB dX9_part_13 (by decide) (by decide) (by decide) (by decide) ?_
  refine a_aload_n hB dX9_part_112 rfl ?_
  refine a_get (T := TX9) (ci := 9) hB dX9_part_113 0 fl_X9_12 lay_X9 rfl (by decide) rfl 0 rfl rfl ?_
  refine a_get (T := TX4) (ci := 4) hB dX9_part_116 1 fl_X9_113 lay_X4 rfl (by decide) rfl 1 rfl rfl ?_
  refine a_iload_n hB dX9_part_119 rfl ?_
  refine a_callVr (q0 := 4) hB (c_X7_momentOf (by omega)) mk_X7_momentOf ml_X9_196 dX9_part_120 rfl rfl [4, 5] rfl (by decide) rfl rfl (fit_of hR (by decide)) (Nat.le_of_ble_eq_true rfl) ?_
  exact a_iret hB hE rfl dX9_part_123 (Nat.le_of_ble_eq_true rfl) (Nat.le_of_ble_eq_true rfl) (AKeep.of rfl) ⟨rfl, _, _, _, rfl⟩
set_option maxHeartbeats 4000000 in
set_option maxRecDepth 100000 in
theorem c_X9_part_6 {G : GP} {xa pa : Nat → Nat} {P : PV} {pl : Nat → Option Nat} {nx num len : Nat} {cs f m : Nat → Nat} {g : Nat → UInt64} {p : Nat} (h6 : P.parts ≤ 6) (hw : ∀ j, P.wt j ≤ 9) (hpos : ∀ p, p < P.parts → ∃ l, l < 6 ∧ 0 < gt P.wt p l) (hn : P.sv.num < 2 ^ 31) (hp : p < P.parts) : AM G sX9_part 0 0 [.ref (xa 0), .int (nI p), .int (nI 6)] (wR G xa pa P pl nx num [] len cs f m g) (fun rv w => rv = some (.int (vP P p 6)) ∧ ∃ (f m : Nat → Nat) (g : Nat → UInt64), w = wR G xa pa P pl nx num [] len cs f m g) := by
  refine AM.of (σ := sX9_part) (by decide +kernel) (by decide +kernel) (Nat.le_of_ble_eq_true rfl) (fun B hB hR hE0 hN => ?_)
  have hE := BE.of hE0
  have g3 := lo6_spec (hpos p hp)
  have g4 := hi6_spec (hpos p hp)
  refine a_aload_n hB dX9_part_0 rfl ?_
  refine a_iload_n hB dX9_part_1 rfl ?_
  refine a_callVr (q0 := 0) hB (c_X9_requirePart (n := P.parts) (by omega) (by omega)) mk_X9_requirePart ml_X9_79 dX9_part_2 rfl rfl [0, 1] rfl (by decide) rfl rfl (fit_of hR (by decide)) (Nat.le_of_ble_eq_true rfl) ?_
  refine a_iload_n hB dX9_part_5 rfl ?_
  refine a_iconstN (v := 0) hB dX9_part_6 (by decide) ?_
  refine a_bipushN (v := 6) hB dX9_part_7 (by decide) ?_
  refine a_callSr hB (c_X9_requireRange (by omega) (by omega) (by omega)) mk_X9_requireRange ml_X9_89 dX9_part_9 rfl rfl [] rfl (by decide) (fit_of hR (by decide)) (Nat.le_of_ble_eq_true rfl) ?_
  refine a_iload_n hB dX9_part_12 rfl ?_
  refine a_tableOut (tgt := 124) hB dX9_part_13 (by decide) (by decide) ?_
  refine a_aload_n hB dX9_part_124 rfl ?_
  refine a_get (T := TX9) (ci := 9) hB dX9_part_125 0 fl_X9_12 lay_X9 rfl (by decide) rfl 0 rfl rfl ?_
  refine a_get (T := TX4) (ci := 4) hB dX9_part_128 2 fl_X9_136 lay_X4 rfl (by decide) rfl 1 rfl rfl ?_
  refine a_iload_n hB dX9_part_131 rfl ?_
  refine a_callVr (q0 := 6) hB (c_X5_latestLoadOf (S := P.sv) (by omega) hn) mk_X5_latestLoadOf ml_X9_199 dX9_part_132 rfl rfl [6, 7] rfl (by decide) rfl rfl (fit_of hR (by decide)) (Nat.le_of_ble_eq_true rfl) ?_
  exact a_iret hB hE rfl dX9_part_135 (Nat.le_of_ble_eq_true rfl) (Nat.le_of_ble_eq_true rfl) (AKeep.of rfl) ⟨rfl, _, _, _, rfl⟩
theorem c_X9_part {G : GP} {xa pa : Nat → Nat} {P : PV} {pl : Nat → Option Nat} {nx num len : Nat} {cs f m : Nat → Nat} {g : Nat → UInt64} {p k : Nat} (h6 : P.parts ≤ 6) (hw : ∀ j, P.wt j ≤ 9) (hpos : ∀ p, p < P.parts → ∃ l, l < 6 ∧ 0 < gt P.wt p l) (hn : P.sv.num < 2 ^ 31) (hp : p < P.parts) (hk : k ≤ 6) : AM G sX9_part 0 0 [.ref (xa 0), .int (nI p), .int (nI k)] (wR G xa pa P pl nx num [] len cs f m g) (fun rv w => rv = some (.int (vP P p k)) ∧ ∃ (f m : Nat → Nat) (g : Nat → UInt64), w = wR G xa pa P pl nx num [] len cs f m g) := by
  rcases (show k = 0 ∨ k = 1 ∨ k = 2 ∨ k = 3 ∨ k = 4 ∨ k = 5 ∨ k = 6 by omega) with rfl | rfl | rfl | rfl | rfl | rfl | rfl
  · exact c_X9_part_0 h6 hw hpos hn hp
  · exact c_X9_part_1 h6 hw hpos hn hp
  · exact c_X9_part_2 h6 hw hpos hn hp
  · exact c_X9_part_3 h6 hw hpos hn hp
  · exact c_X9_part_4 h6 hw hpos hn hp
  · exact c_X9_part_5 h6 hw hpos hn hp
  · exact c_X9_part_6 h6 hw hpos hn hp
set_option maxHeartbeats 4000000 in
set_option maxRecDepth 100000 in
theorem c_X9_weight_0 {G : GP} {xa pa : Nat → Nat} {P : PV} {pl : Nat → Option Nat} {nx num len : Nat} {cs f m : Nat → Nat} {g : Nat → UInt64} {p l : Nat} (h6 : P.parts ≤ 6) (hp : p < P.parts) (hl : l < 6) : AM G sX9_weight 0 0 [.ref (xa 0), .int (nI p), .int (nI l), .int (nI 0)] (wR G xa pa P pl nx num [] len cs f m g) (fun rv w => rv = some (.int (nI (gt P.wt p l))) ∧ ∃ (f m : Nat → Nat) (g : Nat → UInt64), w = wR G xa pa P pl nx num [] len cs f m g) := by
  refine AM.of (σ := sX9_weight) (by decide +kernel) (by decide +kernel) (Nat.le_of_ble_eq_true rfl) (fun B hB hR hE0 hN => ?_)
  have hE := BE.of hE0
  refine a_aload_n hB dX9_weight_0 rfl ?_
  refine a_iload_n hB dX9_weight_1 rfl ?_
  refine a_callVr (q0 := 0) hB (c_X9_requirePart (n := P.parts) (by omega) (by omega)) mk_X9_requirePart ml_X9_79 dX9_weight_2 rfl rfl [0, 1] rfl (by decide) rfl rfl (fit_of hR (by decide)) (Nat.le_of_ble_eq_true rfl) ?_
  refine a_iload_n hB dX9_weight_5 rfl ?_
  refine a_callSr hB (c_X9_requireLoad (by omega)) mk_X9_requireLoad ml_X9_86 dX9_weight_6 rfl rfl [] rfl (by decide) (fit_of hR (by decide)) (Nat.le_of_ble_eq_true rfl) ?_
  refine a_iload_n hB dX9_weight_9 rfl ?_
  refine a_if_eqN_t (tgt := 28) hB dX9_weight_10 (by decide) (by omega) (by omega) ?_
  refine a_aload_n hB dX9_weight_28 rfl ?_
  refine a_get (T := TX9) (ci := 9) hB dX9_weight_29 0 fl_X9_12 lay_X9 rfl (by decide) rfl 0 rfl rfl ?_
  refine a_get (T := TX4) (ci := 4) hB dX9_weight_32 0 fl_X9_92 lay_X4 rfl (by decide) rfl 1 rfl rfl ?_
  refine a_iload_n hB dX9_weight_35 rfl ?_
  refine a_iload_n hB dX9_weight_36 rfl ?_
  refine a_callVr (q0 := 2) hB (c_X7_get (by omega) (by omega)) mk_X7_get ml_X9_96 dX9_weight_37 rfl rfl [2, 3] rfl (by decide) rfl rfl (fit_of hR (by decide)) (Nat.le_of_ble_eq_true rfl) ?_
  exact a_iret hB hE rfl dX9_weight_40 (Nat.le_of_ble_eq_true rfl) (Nat.le_of_ble_eq_true rfl) (AKeep.of rfl) ⟨rfl, _, _, _, rfl⟩
set_option maxHeartbeats 4000000 in
set_option maxRecDepth 100000 in
theorem c_X9_weight_1 {G : GP} {xa pa : Nat → Nat} {P : PV} {pl : Nat → Option Nat} {nx num len : Nat} {cs f m : Nat → Nat} {g : Nat → UInt64} {p l : Nat} (h6 : P.parts ≤ 6) (hp : p < P.parts) (hl : l < 6) : AM G sX9_weight 0 0 [.ref (xa 0), .int (nI p), .int (nI l), .int (nI 1)] (wR G xa pa P pl nx num [] len cs f m g) (fun rv w => rv = some (.int (nI (gt P.tl p l))) ∧ ∃ (f m : Nat → Nat) (g : Nat → UInt64), w = wR G xa pa P pl nx num [] len cs f m g) := by
  refine AM.of (σ := sX9_weight) (by decide +kernel) (by decide +kernel) (Nat.le_of_ble_eq_true rfl) (fun B hB hR hE0 hN => ?_)
  have hE := BE.of hE0
  refine a_aload_n hB dX9_weight_0 rfl ?_
  refine a_iload_n hB dX9_weight_1 rfl ?_
  refine a_callVr (q0 := 0) hB (c_X9_requirePart (n := P.parts) (by omega) (by omega)) mk_X9_requirePart ml_X9_79 dX9_weight_2 rfl rfl [0, 1] rfl (by decide) rfl rfl (fit_of hR (by decide)) (Nat.le_of_ble_eq_true rfl) ?_
  refine a_iload_n hB dX9_weight_5 rfl ?_
  refine a_callSr hB (c_X9_requireLoad (by omega)) mk_X9_requireLoad ml_X9_86 dX9_weight_6 rfl rfl [] rfl (by decide) (fit_of hR (by decide)) (Nat.le_of_ble_eq_true rfl) ?_
  refine a_iload_n hB dX9_weight_9 rfl ?_
  refine a_if_eqN_f (tgt := 28) hB dX9_weight_10 (by decide) (by omega) (by omega) ?_
  refine a_aload_n hB dX9_weight_13 rfl ?_
  refine a_get (T := TX9) (ci := 9) hB dX9_weight_14 0 fl_X9_12 lay_X9 rfl (by decide) rfl 0 rfl rfl ?_
  refine a_get (T := TX4) (ci := 4) hB dX9_weight_17 1 fl_X9_113 lay_X4 rfl (by decide) rfl 1 rfl rfl ?_
  refine a_iload_n hB dX9_weight_20 rfl ?_
  refine a_iload_n hB dX9_weight_21 rfl ?_
  refine a_callVr (q0 := 4) hB (c_X7_get (by omega) (by omega)) mk_X7_get ml_X9_96 dX9_weight_22 rfl rfl [4, 5] rfl (by decide) rfl rfl (fit_of hR (by decide)) (Nat.le_of_ble_eq_true rfl) ?_
  refine a_goto (tgt := 40) hB dX9_weight_25 (by decide) ?_
  exact a_iret hB hE rfl dX9_weight_40 (Nat.le_of_ble_eq_true rfl) (Nat.le_of_ble_eq_true rfl) (AKeep.of rfl) ⟨rfl, _, _, _, rfl⟩

