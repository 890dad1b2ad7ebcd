theorem wput_app (ps2 : List Nat) (ys : va_W) : ∀ (ps1 : List Nat) (ws xs : va_W), xs.length = ps1.length → wput ws (ps1 ++ ps2) (xs ++ ys) = wput (wput ws ps1 xs) ps2 ys := by
  intro ps1
  induction ps1 with
  | nil => intro ws xs h; have : xs = [] := List.eq_nil_of_length_eq_zero (by simpa using h); subst this; rw [wput_nil]; simp
  | cons p ps1 ih =>
    intro ws xs h
    cases xs with
    | nil => exact absurd h (by simp)
    | cons x xs =>
      show wput (ws.set p x) (ps1 ++ ps2) (xs ++ ys) = wput (wput (ws.set p x) ps1 xs) ps2 ys
      exact ih (ws.set p x) xs (by simpa using h)
/-- two segments put back, the later one first -/
theorem wput_sw {ws w1 wp wm wx w3 wy wd w2 wdx : va_W} {ps : List Nat} (h : ws = w1 ++ (wp ++ (wm ++ (wx ++ w3)))) (hp : ps = segL (w1.length + wp.length + wm.length) wx.length ++ segL w1.length wp.length) (hx : wdx = wy ++ wd ∧ wy.length = wx.length ∧ wd.length = wp.length) (h2 : w1 ++ (wd ++ (wm ++ (wy ++ w3))) = w2) : wput ws ps wdx = w2 := by
  obtain ⟨rfl, hy, hd⟩ := hx
  subst h; subst hp; subst h2
  rw [wput_app _ _ _ _ _ (by rw [segL_len]; exact hy)]
  have h1 := wput_seg0 wx wy (w1 ++ wp ++ wm) w3 hy
  simp only [List.append_assoc, List.length_append] at h1
  rw [show w1.length + wp.length + wm.length = w1.length + (wp.length + wm.length) by omega, h1]
  have h2 := wput_seg0 wp wd w1 (wm ++ (wy ++ w3)) hd
  first | exact h2 | (simp only [List.append_assoc, List.length_append] at h2; exact h2)
/-- how far the reader comes -/
def rdE (len r : Nat) : Nat := if r < len then r + 1 else r
theorem c_X6_readE {G : GP} {s b c len r : Nat} {cs : Nat → Nat} (hl : len ≤ 60) (hcs : ∀ i, i < len → cs i < 2 ^ 31) (hr : r ≤ len) (h0 : ∀ i, i < r → ¬ syA (syN cs i) (cs i) = 0) (hz : r < len → syA (syN cs r) (cs r) = 0) : AMd G sX6_read [.ref s, .ref b] (wY G s (1, 0, 0) ++ wX G b c len cs) (some (.int (nI r))) (wY G s (syN cs (rdE len r)) ++ wX G b c len cs) := by
  have h := c_X6_read (G := G) (s := s) (b := b) (c := c) hl hcs hr h0 hz
  unfold rdE
  by_cases q : r < len
  · rw [if_pos q] at h ⊢; exact h
  · rw [if_neg q] at h ⊢; exact h
set_option maxHeartbeats 4000000 in
set_option maxRecDepth 100000 in
theorem c_X9_firstError {G : GP} {xa pa : Nat → Nat} {P : PV} {pl : Nat → Option Nat} {nx num len : Nat} {cs f m : Nat → Nat} {g : Nat → UInt64} {r : Nat} (hl : len ≤ 60) (hcs : ∀ i, i < len → cs i < 2 ^ 31) (hr : r ≤ len) (h0 : ∀ i, i < r → ¬ syA (syN cs i) (cs i) = 0) (hz : r < len → syA (syN cs r) (cs r) = 0)  : AM G sX9_firstError 1 3 [.ref (xa 0)] (wR G xa pa P pl nx num [] len cs f m g) (fun rv w => rv = some (.int (nI r)) ∧ w = wR G xa pa P pl nx num [] len cs f m g) := by
  refine AM.of (σ := sX9_firstError) (by decide +kernel) (by decide +kernel) (Nat.le_of_ble_eq_true rfl) (fun B hB hR hE0 hN => ?_)
  have hE := BE.of hE0
  refine a_new (T := TX6) (ci := 6) (fs := [.int 0, .int 0, .int 0]) hB dX9_firstError_0 cl_X9_165 lay_X6 tyX6 tyX6_ok is_X6 in_X6 rfl (fun j hj => by rcases (show j = 0 ∨ j = 1 ∨ j = 2 by omega) with rfl | rfl | rfl <;> rfl) (roomc hR (Nat.le_of_ble_eq_true rfl)) (rooms hR (Nat.le_of_ble_eq_true rfl)) (fun q18 => ?_)
  refine a_dup hB dX9_firstError_3 rfl ?_
  refine a_callIN hB (c_X6_init) rfl mk_X6_init (by decide +kernel) dX9_firstError_4 rfl rfl [18] rfl (by decide) (fit_of hR (by decide)) (Nat.le_of_ble_eq_true rfl) (fun v4 w4 hq4 hk4 => ?_)
  obtain ⟨rfl, rfl⟩ := hq4
  refine aW_w (ws' := wR G xa pa P pl nx num [] len cs f m g ++ wY G q18 (1, 0, 0)) rfl ?_
  refine a_aload_n hB dX9_firstError_7 rfl ?_
  refine a_get (T := TX9) (ci := 9) hB dX9_firstError_8 2 fl_X9_26 lay_X9 rfl (by decide) rfl 0 rfl rfl ?_
  refine a_callVd (w2 := wR G xa pa P pl nx num [] len cs f m g ++ wY G q18 (syN cs (rdE len r))) (q0 := 18) hB (c_X6_readE (s := q18) (b := xa 3) (c := xa 4) (len := len) (cs := cs) hl hcs hr h0 hz) mk_X6_read ml_X9_168 dX9_firstError_11 rfl rfl [18, 10, 11] rfl (by decide) rfl rfl (fit_of hR (by decide)) (Nat.le_of_ble_eq_true rfl) rfl ?_
  refine aW_sub (ws' := wR G xa pa P pl nx num [] len cs f m g) (List.range 18) rfl rfl rfl ?_
  exact a_iret hB hE rfl dX9_firstError_14 (Nat.le_of_ble_eq_true rfl) (Nat.le_of_ble_eq_true rfl) (AKeep.of rfl) ⟨rfl, rfl⟩
set_option maxHeartbeats 4000000 in
set_option maxRecDepth 100000 in
theorem x_X9_addAll_e {G : GP} (hF : G.l.stackTraces = false) {xa pa : Nat → Nat} {P : PV} {pl : Nat → Option Nat} {nx num len : Nat} {cs f m : Nat → Nat} {g : Nat → UInt64} {r : Nat} (hl : len ≤ 60) (hcs : ∀ i, i < len → cs i < 2 ^ 31) (hr : r ≤ len) (h0 : ∀ i, i < r → ¬ syA (syN cs i) (cs i) = 0) (hz : r < len → syA (syN cs r) (cs r) = 0) (hlt : r < len) : AMX G sX9_addAll 2 9 [.ref (xa 0)] (wR G xa pa P pl nx num [] len cs f m g) (fun _ _ => False) (fun E w => E = xIAE ∧ w = wR G xa pa P pl nx num [] len cs f m g) := by
  refine AMX.of (σ := sX9_addAll) (by decide +kernel) (by decide +kernel) (Nat.le_of_ble_eq_true rfl) (fun B hB hR hE0 hT => ?_)
  have hE := BE.ofX hE0
  refine a_new (T := TX6) (ci := 6) (fs := [.int 0, .int 0, .int 0]) hB dX9_addAll_0 cl_X9_165 lay_X6 tyX6 tyX6_ok is_X6 in_X6 rfl (fun j hj => by rcases (show j = 0 ∨ j = 1 ∨ j = 2 by omega) with rfl | rfl | rfl <;> rfl) (roomc hR (Nat.le_of_ble_eq_true rfl)) (rooms hR (Nat.le_of_ble_eq_true rfl)) (fun q18 => ?_)
  refine a_dup hB dX9_addAll_3 rfl ?_
  refine a_callIN hB (c_X6_init) rfl mk_X6_init (by decide +kernel) dX9_addAll_4 rfl rfl [18] rfl (by decide) (fit_of hR (by decide)) (Nat.le_of_ble_eq_true rfl) (fun v4 w4 hq4 hk4 => ?_)
  obtain ⟨rfl, rfl⟩ := hq4
  refine aW_w (ws' := wR G xa pa P pl nx num [] len cs f m g ++ wY G q18 (1, 0, 0)) rfl ?_
  refine a_astore_n hB dX9_addAll_7 (by decide) ?_
  refine a_aload_n hB dX9_addAll_8 rfl ?_
  refine a_aload_n hB dX9_addAll_9 rfl ?_
  refine a_get (T := TX9) (ci := 9) hB dX9_addAll_10 2 fl_X9_26 lay_X9 rfl (by decide) rfl 0 rfl rfl ?_
  refine a_callVd (w2 := wR G xa pa P pl nx num [] len cs f m g ++ wY G q18 (syN cs (rdE len r))) (q0 := 18) hB (c_X6_readE (s := q18) (b := xa 3) (c := xa 4) (len := len) (cs := cs) hl hcs hr h0 hz) mk_X6_read ml_X9_168 dX9_addAll_13 rfl rfl [18, 10, 11] rfl (by decide) rfl rfl (fit_of hR (by decide)) (Nat.le_of_ble_eq_true rfl) rfl ?_
  refine a_aload_n hB dX9_addAll_16 rfl ?_
  refine a_get (T := TX9) (ci := 9) hB dX9_addAll_17 2 fl_X9_26 lay_X9 rfl (by decide) rfl 0 rfl rfl ?_
  refine a_get (T := TX8) (ci := 8) hB dX9_addAll_20 1 fl_X9_156 lay_X8 rfl (by decide) rfl 10 rfl rfl ?_
  refine a_icmp_ltN_t (tgt := 33) hB dX9_addAll_23 (by decide) (by omega) (by omega) (by omega) ?_
  refine aW_sub (ws' := wR G xa pa P pl nx num [] len cs f m g) (List.range 18) rfl rfl rfl ?_
  exact a_throw (text := "the buffer is not complete parts as a text") hB hE0 hT hF rfl thIAE (by decide +kernel) dX9_addAll_33 dX9_addAll_36 dX9_addAll_37 dX9_addAll_39 dX9_addAll_42 (room6 hR (by decide)) (room82 hR (Nat.le_of_ble_eq_true rfl)) (roomc hR (Nat.le_of_ble_eq_true rfl)) (rooms hR (Nat.le_of_ble_eq_true rfl)) (Nat.le_of_ble_eq_true rfl) (Nat.le_of_ble_eq_true rfl) (AKeep.of rfl) ⟨rfl, rfl⟩
set_option maxHeartbeats 4000000 in
set_option maxRecDepth 100000 in
theorem x_X9_addAll_c {G : GP} (hF : G.l.stackTraces = false) {xa pa : Nat → Nat} {P : PV} {pl : Nat → Option Nat} {nx num len : Nat} {cs f m : Nat → Nat} {g : Nat → UInt64} {r : Nat} (hl : len ≤ 60) (hcs : ∀ i, i < len → cs i < 2 ^ 31) (hr : r ≤ len) (h0 : ∀ i, i < r → ¬ syA (syN cs i) (cs i) = 0) (hz : r < len → syA (syN cs r) (cs r) = 0) (hlt : r = len) (hc0 : (syN cs len).2.2 = 0) : AMX G sX9_addAll 2 9 [.ref (xa 0)] (wR G xa pa P pl nx num [] len cs f m g) (fun _ _ => False) (fun E w => E = xIAE ∧ w = wR G xa pa P pl nx num [] len cs f m g) := by
  refine AMX.of (σ := sX9_addAll) (by decide +kernel) (by decide +kernel) (Nat.le_of_ble_eq_true rfl) (fun B hB hR hE0 hT => ?_)
  have hE := BE.ofX hE0
  refine a_new (T := TX6) (ci := 6) (fs := [.int 0, .int 0, .int 0]) hB dX9_addAll_0 cl_X9_165 lay_X6 tyX6 tyX6_ok is_X6 in_X6 rfl (fun j hj => by rcases (show j = 0 ∨ j = 1 ∨ j = 2 by omega) with rfl | rfl | rfl <;> rfl) (roomc hR (Nat.le_of_ble_eq_true rfl)) (rooms hR (Nat.le_of_ble_eq_true rfl)) (fun q18 => ?_)
  refine a_dup hB dX9_addAll_3 rfl ?_
  refine a_callIN hB (c_X6_init) rfl mk_X6_init (by decide +kernel) dX9_addAll_4 rfl rfl [18] rfl (by decide) (fit_of hR (by decide)) (Nat.le_of_ble_eq_true rfl) (fun v4 w4 hq4 hk4 => ?_)
  obtain ⟨rfl, rfl⟩ := hq4
  refine aW_w (ws' := wR G xa pa P pl nx num [] len cs f m g ++ wY G q18 (1, 0, 0)) rfl ?_
  refine a_astore_n hB dX9_addAll_7 (by decide) ?_
  refine a_aload_n hB dX9_addAll_8 rfl ?_
  refine a_aload_n hB dX9_addAll_9 rfl ?_
  refine a_get (T := TX9) (ci := 9) hB dX9_addAll_10 2 fl_X9_26 lay_X9 rfl (by decide) rfl 0 rfl rfl ?_
  refine a_callVd (w2 := wR G xa pa P pl nx num [] len cs f m g ++ wY G q18 (syN cs (rdE len r))) (q0 := 18) hB (c_X6_readE (s := q18) (b := xa 3) (c := xa 4) (len := len) (cs := cs) hl hcs hr h0 hz) mk_X6_read ml_X9_168 dX9_addAll_13 rfl rfl [18, 10, 11] rfl (by decide) rfl rfl (fit_of hR (by decide)) (Nat.le_of_ble_eq_true rfl) rfl ?_
  refine a_aload_n hB dX9_addAll_16 rfl ?_
  refine a_get (T := TX9) (ci := 9) hB dX9_addAll_17 2 fl_X9_26 lay_X9 rfl (by decide) rfl 0 rfl rfl ?_
  refine a_get (T := TX8) (ci := 8) hB dX9_addAll_20 1 fl_X9_156 lay_X8 rfl (by decide) rfl 10 rfl rfl ?_
  refine a_icmp_ltN_f (tgt := 33) hB dX9_addAll_23 (by decide) (by omega) (by omega) (by omega) ?_
  refine a_aload_n hB dX9_addAll_26 rfl ?_
  refine a_callVr (q0 := 18) hB (c_X6_isPartComplete (S := syN cs (rdE len r)) (syN_le cs _)) mk_X6_isPartComplete ml_X9_172 dX9_addAll_27 rfl rfl [18] rfl (by decide) rfl rfl (fit_of hR (by decide)) (Nat.le_of_ble_eq_true rfl) ?_
  refine a_if_neN_f (tgt := 43) hB dX9_addAll_30 (by decide) (Nat.lt_of_le_of_lt (syN_le cs _) (by decide)) (by rw [show rdE len r = len by unfold rdE; rw [if_neg (by omega)]; omega]; exact hc0) ?_
  refine aW_sub (ws' := wR G xa pa P pl nx num [] len cs f m g) (List.range 18) rfl rfl rfl ?_
  exact a_throw (text := "the buffer is not complete parts as a text") hB hE0 hT hF rfl thIAE (by decide +kernel) dX9_addAll_33 dX9_addAll_36 dX9_addAll_37 dX9_addAll_39 dX9_addAll_42 (room6 hR (by decide)) (room82 hR (Nat.le_of_ble_eq_true rfl)) (roomc hR (Nat.le_of_ble_eq_true rfl)) (rooms hR (Nat.le_of_ble_eq_true rfl)) (Nat.le_of_ble_eq_true rfl) (Nat.le_of_ble_eq_true rfl) (AKeep.of rfl) ⟨rfl, rfl⟩
set_option maxHeartbeats 4000000 in
set_option maxRecDepth 100000 in
theorem x_X9_addAll_s {G : GP} (hF : G.l.stackTraces = false) {xa pa : Nat → Nat} {P : PV} {pl : Nat → Option Nat} {nx num len : Nat} {cs f m : Nat → Nat} {g : Nat → UInt64} {r : Nat} (hl : len ≤ 60) (hcs : ∀ i, i < len → cs i < 2 ^ 31) (hr : r ≤ len) (h0 : ∀ i, i < r → ¬ syA (syN cs i) (cs i) = 0) (hz : r < len → syA (syN cs r) (cs r) = 0) (hlt : r = len) (hc0 : ¬ (syN cs len).2.2 = 0) (h6 : P.parts ≤ 6) (hsp : (syN cs len).1 ≤ 61) (hm : 6 < P.parts + (syN cs len).1) : AMX G sX9_addAll 2 9 [.ref (xa 0)] (wR G xa pa P pl nx num [] len cs f m g) (fun _ _ => False) (fun E w => E = xISE ∧ w = wR G xa pa P pl nx num [] len cs f m g) := by
  refine AMX.of (σ := sX9_addAll) (by decide +kernel) (by decide +kernel) (Nat.le_of_ble_eq_true rfl) (fun B hB hR hE0 hT => ?_)
  have hE := BE.ofX hE0
  have eE : rdE len r = len := by unfold rdE; rw [if_neg (by omega)]; omega
  refine a_new (T := TX6) (ci := 6) (fs := [.int 0, .int 0, .int 0]) hB dX9_addAll_0 cl_X9_165 lay_X6 tyX6 tyX6_ok is_X6 in_X6 rfl (fun j hj => by rcases (show j = 0 ∨ j = 1 ∨ j = 2 by omega) with rfl | rfl | rfl <;> rfl) (roomc hR (Nat.le_of_ble_eq_true rfl)) (rooms hR (Nat.le_of_ble_eq_true rfl)) (fun q18 => ?_)
  refine a_dup hB dX9_addAll_3 rfl ?_
  refine a_callIN hB (c_X6_init) rfl mk_X6_init (by decide +kernel) dX9_addAll_4 rfl rfl [18] rfl (by decide) (fit_of hR (by decide)) (Nat.le_of_ble_eq_true rfl) (fun v4 w4 hq4 hk4 => ?_)
  obtain ⟨rfl, rfl⟩ := hq4
  refine aW_w (ws' := wR G xa pa P pl nx num [] len cs f m g ++ wY G q18 (1, 0, 0)) rfl ?_
  refine a_astore_n hB dX9_addAll_7 (by decide) ?_
  refine a_aload_n hB dX9_addAll_8 rfl ?_
  refine a_aload_n hB dX9_addAll_9 rfl ?_
  refine a_get (T := TX9) (ci := 9) hB dX9_addAll_10 2 fl_X9_26 lay_X9 rfl (by decide) rfl 0 rfl rfl ?_
  refine a_callVd (w2 := wR G xa pa P pl nx num [] len cs f m g ++ wY G q18 (syN cs (rdE len r))) (q0 := 18) hB (c_X6_readE (s := q18) (b := xa 3) (c := xa 4) (len := len) (cs := cs) hl hcs hr h0 hz) mk_X6_read ml_X9_168 dX9_addAll_13 rfl rfl [18, 10, 11] rfl (by decide) rfl rfl (fit_of hR (by decide)) (Nat.le_of_ble_eq_true rfl) rfl ?_
  refine a_aload_n hB dX9_addAll_16 rfl ?_
  refine a_get (T := TX9) (ci := 9) hB dX9_addAll_17 2 fl_X9_26 lay_X9 rfl (by decide) rfl 0 rfl rfl ?_
  refine a_get (T := TX8) (ci := 8) hB dX9_addAll_20 1 fl_X9_156 lay_X8 rfl (by decide) rfl 10 rfl rfl ?_
  refine a_icmp_ltN_f (tgt := 33) hB dX9_addAll_23 (by decide) (by omega) (by omega) (by omega) ?_
  refine a_aload_n hB dX9_addAll_26 rfl ?_
  refine a_callVr (q0 := 18) hB (c_X6_isPartComplete (S := syN cs (rdE len r)) (syN_le cs _)) mk_X6_isPartComplete ml_X9_172 dX9_addAll_27 rfl rfl [18] rfl (by decide) rfl rfl (fit_of hR (by decide)) (Nat.le_of_ble_eq_true rfl) ?_
  refine a_if_neN_t (tgt := 43) hB dX9_addAll_30 (by decide) (Nat.lt_of_le_of_lt (syN_le cs _) (by decide)) (by rw [eE]; exact hc0) ?_
  refine a_aload_n hB dX9_addAll_43 rfl ?_
  refine a_get (T := TX9) (ci := 9) hB dX9_addAll_44 0 fl_X9_12 lay_X9 rfl (by decide) rfl 0 rfl rfl ?_
  refine a_get (T := TX4) (ci := 4) hB dX9_addAll_47 3 fl_X9_58 lay_X4 rfl (by decide) rfl 1 rfl rfl ?_
  refine a_aload_n hB dX9_addAll_50 rfl ?_
  refine a_get (T := TX6) (ci := 6) hB dX9_addAll_51 0 fl_X9_178 lay_X6 rfl (by decide) rfl 18 rfl rfl ?_
  refine a_iaddN hB dX9_addAll_54 ?_
  refine a_bipushN (v := 6) hB dX9_addAll_55 (by decide) ?_
  refine a_icmp_leN_f (tgt := 70) hB dX9_addAll_57 (by decide) (by rw [eE]; omega) (by omega) (by rw [eE]; omega) ?_
  refine aW_sub (ws' := wR G xa pa P pl nx num [] len cs f m g) (List.range 18) rfl rfl rfl ?_
  exact a_throw (text := "there would be more than 6 parts") hB hE0 hT hF rfl thISE (by decide +kernel) dX9_addAll_60 dX9_addAll_63 dX9_addAll_64 dX9_addAll_66 dX9_addAll_69 (room6 hR (by decide)) (room82 hR (Nat.le_of_ble_eq_true rfl)) (roomc hR (Nat.le_of_ble_eq_true rfl)) (rooms hR (Nat.le_of_ble_eq_true rfl)) (Nat.le_of_ble_eq_true rfl) (Nat.le_of_ble_eq_true rfl) (AKeep.of rfl) ⟨rfl, rfl⟩
set_option maxHeartbeats 4000000 in
set_option maxRecDepth 100000 in
theorem c_X9_addAll_n {G : GP} {xa pa : Nat → Nat} {P : PV} {pl : Nat → Option Nat} {nx num len : Nat} {cs f m : Nat → Nat} {g : Nat → UInt64} (hnx : nx < 6) (hnum : num ≤ 6) (hpl : pl nx = none) {r : Nat} (hl : len ≤ 60) (hcs : ∀ i, i < len → cs i < 2 ^ 31) (hr : r ≤ len) (h0 : ∀ i, i < r → ¬ syA (syN cs i) (cs i) = 0) (hz : r < len → syA (syN cs r) (cs r) = 0) (hlt : r = len) (hc0 : ¬ (syN cs len).2.2 = 0) (h6 : P.parts ≤ 6) (hsp : (syN cs len).1 ≤ 61) (hm : P.parts + (syN cs len).1 ≤ 6) (hats : ∀ i, i < len → cs i < 2 ^ 31 ∧ (ats P cs i).1.parts < 2 ^ 31 ∧ (¬ cs i = 59 → (ats P cs i).2.1 < 6 ∧ (ats P cs i).2.2 < 6 ∧ 48 ≤ cs i))  : AM G sX9_addAll 8 96 [.ref (xa 0)] (wR G xa pa P pl nx num [] len cs f m g) (fun rv w => rv = (some (.int (nI ((ats P cs len).1.parts)))) ∧ ∃ qa : Nat → Nat, w = wR G xa pa (ats P cs len).1 (va_up pl nx (some (qa 0))) ((nx + 1) % 6) (min (num + 1) 6) [] 0 cs f m g ++ wP G qa (PV0.cpy P)) := by
  refine AM.of (σ := sX9_addAll) (by decide +kernel) (by decide +kernel) (Nat.le_of_ble_eq_true rfl) (fun B hB hR hE0 hN => ?_)
  have hE := BE.of hE0
  have eE : rdE len r = len := by unfold rdE; rw [if_neg (by omega)]; omega
  refine a_new (T := TX6) (ci := 6) (fs := [.int 0, .int 0, .int 0]) hB dX9_addAll_0 cl_X9_165 lay_X6 tyX6 tyX6_ok is_X6 in_X6 rfl (fun j hj => by rcases (show j = 0 ∨ j = 1 ∨ j = 2 by omega) with rfl | rfl | rfl <;> rfl) (roomc hR (Nat.le_of_ble_eq_true rfl)) (rooms hR (Nat.le_of_ble_eq_true rfl)) (fun q18 => ?_)
  refine a_dup hB dX9_addAll_3 rfl ?_
  refine a_callIN hB (c_X6_init) rfl mk_X6_init (by decide +kernel) dX9_addAll_4 rfl rfl [18] rfl (by decide) (fit_of hR (by decide)) (Nat.le_of_ble_eq_true rfl) (fun v4 w4 hq4 hk4 => ?_)
  obtain ⟨rfl, rfl⟩ := hq4
  refine aW_w (ws' := wR G xa pa P pl nx num [] len cs f m g ++ wY G q18 (1, 0, 0)) rfl ?_
  refine a_astore_n hB dX9_addAll_7 (by decide) ?_
  refine a_aload_n hB dX9_addAll_8 rfl ?_
  refine a_aload_n hB dX9_addAll_9 rfl ?_
  refine a_get (T := TX9) (ci := 9) hB dX9_addAll_10 2 fl_X9_26 lay_X9 rfl (by decide) rfl 0 rfl rfl ?_
  refine a_callVd (w2 := wR G xa pa P pl nx num [] len cs f m g ++ wY G q18 (syN cs (rdE len r))) (q0 := 18) hB (c_X6_readE (s := q18) (b := xa 3) (c := xa 4) (len := len) (cs := cs) hl hcs hr h0 hz) mk_X6_read ml_X9_168 dX9_addAll_13 rfl rfl [18, 10, 11] rfl (by decide) rfl rfl (fit_of hR (by decide)) (Nat.le_of_ble_eq_true rfl) rfl ?_
  refine a_aload_n hB dX9_addAll_16 rfl ?_
  refine a_get (T := TX9) (ci := 9) hB dX9_addAll_17 2 fl_X9_26 lay_X9 rfl (by decide) rfl 0 rfl rfl ?_
  refine a_get (T := TX8) (ci := 8) hB dX9_addAll_20 1 fl_X9_156 lay_X8 rfl (by decide) rfl 10 rfl rfl ?_
  refine a_icmp_ltN_f (tgt := 33) hB dX9_addAll_23 (by decide) (by omega) (by omega) (by omega) ?_
  refine a_aload_n hB dX9_addAll_26 rfl ?_
  refine a_callVr (q0 := 18) hB (c_X6_isPartComplete (S := syN cs (rdE len r)) (syN_le cs _)) mk_X6_isPartComplete ml_X9_172 dX9_addAll_27 rfl rfl [18] rfl (by decide) rfl rfl (fit_of hR (by decide)) (Nat.le_of_ble_eq_true rfl) ?_
  refine a_if_neN_t (tgt := 43) hB dX9_addAll_30 (by decide) (Nat.lt_of_le_of_lt (syN_le cs _) (by decide)) (by rw [eE]; exact hc0) ?_
  refine a_aload_n hB dX9_addAll_43 rfl ?_
  refine a_get (T := TX9) (ci := 9) hB dX9_addAll_44 0 fl_X9_12 lay_X9 rfl (by decide) rfl 0 rfl rfl ?_
  refine a_get (T := TX4) (ci := 4) hB dX9_addAll_47 3 fl_X9_58 lay_X4 rfl (by decide) rfl 1 rfl rfl ?_
  refine a_aload_n hB dX9_addAll_50 rfl ?_
  refine a_get (T := TX6) (ci := 6) hB dX9_addAll_51 0 fl_X9_178 lay_X6 rfl (by decide) rfl 18 rfl rfl ?_
  refine a_iaddN hB dX9_addAll_54 ?_
  refine a_bipushN (v := 6) hB dX9_addAll_55 (by decide) ?_
  refine a_icmp_leN_t (tgt := 70) hB dX9_addAll_57 (by decide) (by rw [eE]; omega) (by omega) (by rw [eE]; omega) ?_
  refine aW_sub (ws' := wR G xa pa P pl nx num [] len cs f m g) (List.range 18) rfl rfl rfl ?_
  refine a_aload_n hB dX9_addAll_70 rfl ?_
  refine a_get (T := TX9) (ci := 9) hB dX9_addAll_71 1 fl_X9_19 lay_X9 rfl (by decide) rfl 0 rfl rfl ?_
  refine a_aload_n hB dX9_addAll_74 rfl ?_
  refine a_get (T := TX9) (ci := 9) hB dX9_addAll_75 0 fl_X9_12 lay_X9 rfl (by decide) rfl 0 rfl rfl ?_
  refine a_callV (q0 := 8) hB (c_X2_saveN (pa := pa) (P := P) hnx hnum hpl) mk_X2_save ml_X9_67 dX9_addAll_78 rfl rfl [1, 2, 3, 4, 5, 6, 7, 8, 9] rfl (by decide) rfl rfl (fit_of hR (by decide)) (Nat.le_of_ble_eq_true rfl) (fun v78 w78 hq78 hk78 => ?_)
  obtain ⟨rfl, qa, rfl⟩ := hq78
  refine aW_w (ws' := wR G xa pa P (va_up pl nx (some (qa 0))) ((nx + 1) % 6) (min (num + 1) 6) [] len cs f m g ++ wP G qa (PV0.cpy P)) (wput_segE (w1 := [oR xa pa]) (wc := wP G pa P ++ wH G (xa 1) (xa 2) pl nx num) (wd := wP G pa P ++ wH G (xa 1) (xa 2) (va_up pl nx (some (qa 0))) ((nx + 1) % 6) (min (num + 1) 6)) (w3 := [] ++ wZ G xa len cs f m g) (ex := wP G qa (PV0.cpy P)) rfl rfl rfl rfl rfl) ?_
  refine a_aload_n hB dX9_addAll_81 rfl ?_
  refine a_get (T := TX9) (ci := 9) hB dX9_addAll_82 2 fl_X9_26 lay_X9 rfl (by decide) rfl 0 rfl rfl ?_
  refine a_aload_n hB dX9_addAll_85 rfl ?_
  refine a_get (T := TX9) (ci := 9) hB dX9_addAll_86 0 fl_X9_12 lay_X9 rfl (by decide) rfl 0 rfl rfl ?_
  refine a_callVd (w2 := wR G xa pa (ats P cs len).1 (va_up pl nx (some (qa 0))) ((nx + 1) % 6) (min (num + 1) 6) [] len cs f m g ++ wP G qa (PV0.cpy P)) (q0 := 10) hB (c_X8_addPartsTo (b := xa 3) (c := xa 4) (pa := pa) (P := P) hl hats) mk_X8_addPartsTo ml_X9_181 dX9_addAll_89 rfl rfl [10, 11, 1, 2, 3, 4, 5, 6, 7] rfl (by decide) rfl rfl (fit_of hR (by decide)) (Nat.le_of_ble_eq_true rfl) (wput_sw (w1 := [oR xa pa]) (wp := wP G pa P) (wm := wH G (xa 1) (xa 2) (va_up pl nx (some (qa 0))) ((nx + 1) % 6) (min (num + 1) 6)) (wx := wX G (xa 3) (xa 4) len cs) (w3 := (wK G (xa 5) (xa 6) f ++ (wI G (xa 7) (xa 8) m ++ wC G (xa 9) (xa 10) g)) ++ wP G qa (PV0.cpy P)) (wy := wX G (xa 3) (xa 4) len cs) (wd := wP G pa (ats P cs len).1) rfl rfl ⟨rfl, rfl, rfl⟩ rfl) ?_
  refine a_aload_n hB dX9_addAll_92 rfl ?_
  refine a_get (T := TX9) (ci := 9) hB dX9_addAll_93 2 fl_X9_26 lay_X9 rfl (by decide) rfl 0 rfl rfl ?_
  refine a_callVd (w2 := wR G xa pa (ats P cs len).1 (va_up pl nx (some (qa 0))) ((nx + 1) % 6) (min (num + 1) 6) [] 0 cs f m g ++ wP G qa (PV0.cpy P)) (q0 := 10) hB (c_X8_clear) mk_X8_clear ml_X9_164 dX9_addAll_96 rfl rfl [10, 11] rfl (by decide) rfl rfl (fit_of hR (by decide)) (Nat.le_of_ble_eq_true rfl) (wput_seg (w1 := oR xa pa :: (wP G pa (ats P cs len).1 ++ (wH G (xa 1) (xa 2) (va_up pl nx (some (qa 0))) ((nx + 1) % 6) (min (num + 1) 6)))) (wc := wX G (xa 3) (xa 4) len cs) (w3 := (wK G (xa 5) (xa 6) f ++ (wI G (xa 7) (xa 8) m ++ wC G (xa 9) (xa 10) g)) ++ wP G qa (PV0.cpy P)) rfl rfl rfl rfl) ?_
  refine a_aload_n hB dX9_addAll_99 rfl ?_
  refine a_get (T := TX9) (ci := 9) hB dX9_addAll_100 0 fl_X9_12 lay_X9 rfl (by decide) rfl 0 rfl rfl ?_
  refine a_get (T := TX4) (ci := 4) hB dX9_addAll_103 3 fl_X9_58 lay_X4 rfl (by decide) rfl 1 rfl rfl ?_
  exact a_iret hB hE rfl dX9_addAll_106 (Nat.le_of_ble_eq_true rfl) (Nat.le_of_ble_eq_true rfl) (AKeep.of rfl) ⟨rfl, qa, rfl⟩
set_option maxHeartbeats 4000000 in
set_option maxRecDepth 100000 in
theorem c_X9_addAll_o {G : GP} {xa pa : Nat → Nat} {P : PV} {pl : Nat → Option Nat} {nx num len : Nat} {cs f m : Nat → Nat} {g : Nat → UInt64} {qa : Nat → Nat} {O : PV} (hnx : nx < 6) (hnum : num ≤ 6) (hpl : pl nx = some (qa 0)) {r : Nat} (hl : len ≤ 60) (hcs : ∀ i, i < len → cs i < 2 ^ 31) (hr : r ≤ len) (h0 : ∀ i, i < r → ¬ syA (syN cs i) (cs i) = 0) (hz : r < len → syA (syN cs r) (cs r) = 0) (hlt : r = len) (hc0 : ¬ (syN cs len).2.2 = 0) (h6 : P.parts ≤ 6) (hsp : (syN cs len).1 ≤ 61) (hm : P.parts + (syN cs len).1 ≤ 6) (hats : ∀ i, i < len → cs i < 2 ^ 31 ∧ (ats P cs i).1.parts < 2 ^ 31 ∧ (¬ cs i = 59 → (ats P cs i).2.1 < 6 ∧ (ats P cs i).2.2 < 6 ∧ 48 ≤ cs i))  : AM G sX9_addAll 1 3 [.ref (xa 0)] (wR G xa pa P pl nx num (wP G qa O) len cs f m g) (fun rv w => rv = (some (.int (nI ((ats P cs len).1.parts)))) ∧ w = wR G xa pa (ats P cs len).1 pl ((nx + 1) % 6) (min (num + 1) 6) (wP G qa (O.cpy P)) 0 cs f m g) := by
  refine AM.of (σ := sX9_addAll) (by decide +kernel) (by decide +kernel) (Nat.le_of_ble_eq_true rfl) (fun B hB hR hE0 hN => ?_)
  have hE := BE.of hE0
  have eE : rdE len r = len := by unfold rdE; rw [if_neg (by omega)]; omega
  refine a_new (T := TX6) (ci := 6) (fs := [.int 0, .int 0, .int 0]) hB dX9_addAll_0 cl_X9_165 lay_X6 tyX6 tyX6_ok is_X6 in_X6 rfl (fun j hj => by rcases (show j = 0 ∨ j = 1 ∨ j = 2 by omega) with rfl | rfl | rfl <;> rfl) (roomc hR (Nat.le_of_ble_eq_true rfl)) (rooms hR (Nat.le_of_ble_eq_true rfl)) (fun q25 => ?_)
  refine a_dup hB dX9_addAll_3 rfl ?_
  refine a_callIN hB (c_X6_init) rfl mk_X6_init (by decide +kernel) dX9_addAll_4 rfl rfl [25] rfl (by decide) (fit_of hR (by decide)) (Nat.le_of_ble_eq_true rfl) (fun v4 w4 hq4 hk4 => ?_)
  obtain ⟨rfl, rfl⟩ := hq4
  refine aW_w (ws' := wR G xa pa P pl nx num (wP G qa O) len cs f m g ++ wY G q25 (1, 0, 0)) rfl ?_
  refine a_astore_n hB dX9_addAll_7 (by decide) ?_
  refine a_aload_n hB dX9_addAll_8 rfl ?_
  refine a_aload_n hB dX9_addAll_9 rfl ?_
  refine a_get (T := TX9) (ci := 9) hB dX9_addAll_10 2 fl_X9_26 lay_X9 rfl (by decide) rfl 0 rfl rfl ?_
  refine a_callVd (w2 := wR G xa pa P pl nx num (wP G qa O) len cs f m g ++ wY G q25 (syN cs (rdE len r))) (q0 := 25) hB (c_X6_readE (s := q25) (b := xa 3) (c := xa 4) (len := len) (cs := cs) hl hcs hr h0 hz) mk_X6_read ml_X9_168 dX9_addAll_13 rfl rfl [25, 17, 18] rfl (by decide) rfl rfl (fit_of hR (by decide)) (Nat.le_of_ble_eq_true rfl) rfl ?_
  refine a_aload_n hB dX9_addAll_16 rfl ?_
  refine a_get (T := TX9) (ci := 9) hB dX9_addAll_17 2 fl_X9_26 lay_X9 rfl (by decide) rfl 0 rfl rfl ?_
  refine a_get (T := TX8) (ci := 8) hB dX9_addAll_20 1 fl_X9_156 lay_X8 rfl (by decide) rfl 17 rfl rfl ?_
  refine a_icmp_ltN_f (tgt := 33) hB dX9_addAll_23 (by decide) (by omega) (by omega) (by omega) ?_
  refine a_aload_n hB dX9_addAll_26 rfl ?_
  refine a_callVr (q0 := 25) hB (c_X6_isPartComplete (S := syN cs (rdE len r)) (syN_le cs _)) mk_X6_isPartComplete ml_X9_172 dX9_addAll_27 rfl rfl [25] rfl (by decide) rfl rfl (fit_of hR (by decide)) (Nat.le_of_ble_eq_true rfl) ?_
  refine a_if_neN_t (tgt := 43) hB dX9_addAll_30 (by decide) (Nat.lt_of_le_of_lt (syN_le cs _) (by decide)) (by rw [eE]; exact hc0) ?_
  refine a_aload_n hB dX9_addAll_43 rfl ?_
  refine a_get (T := TX9) (ci := 9) hB dX9_addAll_44 0 fl_X9_12 lay_X9 rfl (by decide) rfl 0 rfl rfl ?_
  refine a_get (T := TX4) (ci := 4) hB dX9_addAll_47 3 fl_X9_58 lay_X4 rfl (by decide) rfl 1 rfl rfl ?_
  refine a_aload_n hB dX9_addAll_50 rfl ?_
  refine a_get (T := TX6) (ci := 6) hB dX9_addAll_51 0 fl_X9_178 lay_X6 rfl (by decide) rfl 25 rfl rfl ?_
  refine a_iaddN hB dX9_addAll_54 ?_
  refine a_bipushN (v := 6) hB dX9_addAll_55 (by decide) ?_
  refine a_icmp_leN_t (tgt := 70) hB dX9_addAll_57 (by decide) (by rw [eE]; omega) (by omega) (by rw [eE]; omega) ?_
  refine aW_sub (ws' := wR G xa pa P pl nx num (wP G qa O) len cs f m g) (List.range 25) rfl rfl rfl ?_
  refine a_aload_n hB dX9_addAll_70 rfl ?_
  refine a_get (T := TX9) (ci := 9) hB dX9_addAll_71 1 fl_X9_19 lay_X9 rfl (by decide) rfl 0 rfl rfl ?_
  refine a_aload_n hB dX9_addAll_74 rfl ?_
  refine a_get (T := TX9) (ci := 9) hB dX9_addAll_75 0 fl_X9_12 lay_X9 rfl (by decide) rfl 0 rfl rfl ?_
  refine a_callVd (w2 := wR G xa pa P pl ((nx + 1) % 6) (min (num + 1) 6) (wP G qa (O.cpy P)) len cs f m g) (q0 := 8) hB (c_X2_saveO (pa := pa) (qa := qa) (P := P) (O := O) hnx hnum hpl) mk_X2_save ml_X9_67 dX9_addAll_78 rfl rfl [1, 2, 3, 4, 5, 6, 7, 8, 9, 10, 11, 12, 13, 14, 15, 16] rfl (by decide) rfl rfl (fit_of hR (by decide)) (Nat.le_of_ble_eq_true rfl) (wput_seg (w1 := [oR xa pa]) (wc := wP G pa P ++ (wH G (xa 1) (xa 2) pl nx num ++ wP G qa O)) (w3 := wZ G xa len cs f m g) rfl rfl rfl rfl) ?_
  refine a_aload_n hB dX9_addAll_81 rfl ?_
  refine a_get (T := TX9) (ci := 9) hB dX9_addAll_82 2 fl_X9_26 lay_X9 rfl (by decide) rfl 0 rfl rfl ?_
  refine a_aload_n hB dX9_addAll_85 rfl ?_
  refine a_get (T := TX9) (ci := 9) hB dX9_addAll_86 0 fl_X9_12 lay_X9 rfl (by decide) rfl 0 rfl rfl ?_
  refine a_callVd (w2 := wR G xa pa (ats P cs len).1 pl ((nx + 1) % 6) (min (num + 1) 6) (wP G qa (O.cpy P)) len cs f m g) (q0 := 17) hB (c_X8_addPartsTo (b := xa 3) (c := xa 4) (pa := pa) (P := P) hl hats) mk_X8_addPartsTo ml_X9_181 dX9_addAll_89 rfl rfl [17, 18, 1, 2, 3, 4, 5, 6, 7] rfl (by decide) rfl rfl (fit_of hR (by decide)) (Nat.le_of_ble_eq_true rfl) (wput_sw (w1 := [oR xa pa]) (wp := wP G pa P) (wm := wH G (xa 1) (xa 2) pl ((nx + 1) % 6) (min (num + 1) 6) ++ wP G qa (O.cpy P)) (wx := wX G (xa 3) (xa 4) len cs) (w3 := wK G (xa 5) (xa 6) f ++ (wI G (xa 7) (xa 8) m ++ wC G (xa 9) (xa 10) g)) (wy := wX G (xa 3) (xa 4) len cs) (wd := wP G pa (ats P cs len).1) rfl rfl ⟨rfl, rfl, rfl⟩ rfl) ?_
  refine a_aload_n hB dX9_addAll_92 rfl ?_
  refine a_get (T := TX9) (ci := 9) hB dX9_addAll_93 2 fl_X9_26 lay_X9 rfl (by decide) rfl 0 rfl rfl ?_
  refine a_callVd (w2 := wR G xa pa (ats P cs len).1 pl ((nx + 1) % 6) (min (num + 1) 6) (wP G qa (O.cpy P)) 0 cs f m g) (q0 := 17) hB (c_X8_clear) mk_X8_clear ml_X9_164 dX9_addAll_96 rfl rfl [17, 18] rfl (by decide) rfl rfl (fit_of hR (by decide)) (Nat.le_of_ble_eq_true rfl) (wput_seg (w1 := oR xa pa :: (wP G pa (ats P cs len).1 ++ (wH G (xa 1) (xa 2) pl ((nx + 1) % 6) (min (num + 1) 6) ++ wP G qa (O.cpy P)))) (wc := wX G (xa 3) (xa 4) len cs) (w3 := wK G (xa 5) (xa 6) f ++ (wI G (xa 7) (xa 8) m ++ wC G (xa 9) (xa 10) g)) rfl rfl rfl rfl) ?_
  refine a_aload_n hB dX9_addAll_99 rfl ?_
  refine a_get (T := TX9) (ci := 9) hB dX9_addAll_100 0 fl_X9_12 lay_X9 rfl (by decide) rfl 0 rfl rfl ?_
  refine a_get (T := TX4) (ci := 4) hB dX9_addAll_103 3 fl_X9_58 lay_X4 rfl (by decide) rfl 1 rfl rfl ?_
  exact a_iret hB hE rfl dX9_addAll_106 (Nat.le_of_ble_eq_true rfl) (Nat.le_of_ble_eq_true rfl) (AKeep.of rfl) ⟨rfl, rfl⟩
