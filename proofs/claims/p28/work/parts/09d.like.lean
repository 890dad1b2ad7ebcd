abbrev wI (G : GP) (k a : Nat) (m : Nat → Nat) : va_W := [(k, ob 3 [.ref a]), (a, aN G 217 m)]
def gm (m : Nat → Nat) (p n : Nat) : Nat := if n < 31 then m (p * 31 + n) else 0
def wwi (wt m : Nat → Nat) (p n l : Nat) : Nat := gt wt p l * gm m (p + 1) (n - l)
def mxN (f : Nat → Nat) : Nat → Nat
  | 0 => 0
  | n + 1 => max (mxN f n) (f n)
/-- the most ways, by the parts from p = parts - d on, with the need n -/
def bs (wt : Nat → Nat) (parts : Nat) : Nat → Nat → Nat
  | 0, n => if n = 0 then 1 else 0
  | d + 1, n => mxN (fun l => gt wt (parts - (d + 1)) l * (if n - l < 31 then bs wt parts d (n - l) else 0)) 6
/-- the rows from part q on are filled, of the row before the first u -/
def lk (wt m : Nat → Nat) (parts q u : Nat) (j : Nat) : Nat := if j / 31 ≤ parts ∧ (q ≤ j / 31 ∨ (q = j / 31 + 1 ∧ j % 31 < u)) then bs wt parts (parts - j / 31) (j % 31) else m j
theorem lk_step {wt m : Nat → Nat} {parts q u v : Nat} (hq : q ≤ parts) (hu : u < 31) (hv : v = bs wt parts (parts - q) u) : uN (lk wt m parts (q + 1) u) (q * 31 + u) v = lk wt m parts (q + 1) (u + 1) := by
  funext j
  unfold uN lk
  by_cases h : j = q * 31 + u
  · have h1 : j / 31 = q := by omega
    have h2 : j % 31 = u := by omega
    rw [if_pos h, h1, h2, if_pos (by omega), hv]
  · rw [if_neg h]
    by_cases h2 : j / 31 ≤ parts ∧ (q + 1 ≤ j / 31 ∨ (q + 1 = j / 31 + 1 ∧ j % 31 < u))
    · rw [if_pos h2, if_pos (by omega)]
    · rw [if_neg h2, if_neg (by omega)]
theorem lk_row {wt m : Nat → Nat} {parts q : Nat} : lk wt m parts (q + 1) 31 = lk wt m parts q 0 := by
  funext j
  unfold lk
  have : j % 31 < 31 := Nat.mod_lt _ (by decide)
  by_cases h2 : j / 31 ≤ parts ∧ (q ≤ j / 31 ∨ (q = j / 31 + 1 ∧ j % 31 < 0))
  · rw [if_pos h2, if_pos (by omega)]
  · rw [if_neg h2, if_neg (by omega)]
theorem lk_0 {wt m : Nat → Nat} {parts : Nat} : lk wt m parts (parts + 1) 0 = m := by
  funext j
  unfold lk
  rw [if_neg (by omega)]
theorem gm_lk {wt m : Nat → Nat} {parts q u p n : Nat} (hp : p ≤ parts) (hq : q ≤ p) : gm (lk wt m parts q u) p n = if n < 31 then bs wt parts (parts - p) n else 0 := by
  unfold gm
  by_cases h : n < 31
  · rw [if_pos h, if_pos h]
    unfold lk
    have h1 : (p * 31 + n) / 31 = p := by omega
    have h2 : (p * 31 + n) % 31 = n := by omega
    rw [h1, h2, if_pos (by omega)]
  · rw [if_neg h, if_neg h]
theorem mxN_le {f : Nat → Nat} {c : Nat} (h : ∀ l, f l ≤ c) : ∀ n, mxN f n ≤ c
  | 0 => Nat.zero_le _
  | n + 1 => Nat.max_le.mpr ⟨mxN_le h n, h n⟩
theorem bs_le {wt : Nat → Nat} (hw : ∀ j, wt j ≤ 9) (parts : Nat) : ∀ d n, bs wt parts d n ≤ 9 ^ d
  | 0, n => by unfold bs; split <;> decide
  | d + 1, n => by
    unfold bs
    refine mxN_le (fun l => ?_) 6
    have h1 := gt_lt hw (parts - (d + 1)) l
    have h2 : (if n - l < 31 then bs wt parts d (n - l) else 0) ≤ 9 ^ d := by
      split
      · exact bs_le hw parts d _
      · exact Nat.zero_le _
    calc gt wt (parts - (d + 1)) l * _ ≤ 9 * 9 ^ d := Nat.mul_le_mul h1 h2
      _ = 9 ^ (d + 1) := by rw [Nat.pow_succ, Nat.mul_comm]
theorem bs_small {wt : Nat → Nat} (hw : ∀ j, wt j ≤ 9) {parts d : Nat} (hd : d ≤ 6) (n : Nat) : bs wt parts d n ≤ 531441 := Nat.le_trans (bs_le hw parts d n) (Nat.pow_le_pow_right (by decide) hd : 9 ^ d ≤ 9 ^ 6)
/-- what the filled rows answer -/
theorem wwi_lk {wt m : Nat → Nat} {parts p q u n l : Nat} (hp : p < parts) (hq : q ≤ p + 1) : wwi wt (lk wt m parts q u) p n l = gt wt p l * (if n - l < 31 then bs wt parts (parts - (p + 1)) (n - l) else 0) := by
  unfold wwi
  rw [gm_lk (by omega) hq]
theorem bs_eq {wt m : Nat → Nat} {parts p q u n : Nat} (hp : p < parts) (hq : q ≤ p + 1) : mxN (wwi wt (lk wt m parts q u) p n) 6 = bs wt parts (parts - p) n := by
  have e : parts - p = (parts - (p + 1)) + 1 := by omega
  have e2 : parts - (parts - (p + 1) + 1) = p := by omega
  rw [e]
  unfold bs
  rw [e2]
  exact congrArg (fun f => mxN f 6) (funext fun l => wwi_lk hp hq)
def fe6 (f : Nat → Nat) (t : Nat) : Nat := if f 0 = t then 0 else if f 1 = t then 1 else if f 2 = t then 2 else if f 3 = t then 3 else if f 4 = t then 4 else 5
theorem fe6_spec {f : Nat → Nat} {t : Nat} (h : ∃ l, l < 6 ∧ f l = t) : fe6 f t < 6 ∧ f (fe6 f t) = t ∧ ∀ l, l < fe6 f t → ¬ f l = t := by
  have all : (f 0 = t ∨ f 1 = t ∨ f 2 = t ∨ f 3 = t ∨ f 4 = t ∨ f 5 = t) → fe6 f t < 6 ∧ f (fe6 f t) = t ∧ ∀ l, l < fe6 f t → ¬ f l = t := by
    intro hh
    unfold fe6
    repeat' split
    all_goals refine ⟨by omega, by first | assumption | omega, fun l hl => ?_⟩
    all_goals first | (exact absurd hl (Nat.not_lt_zero _)) | (have : l = 0 ∨ l = 1 ∨ l = 2 ∨ l = 3 ∨ l = 4 := by omega
                                                               rcases this with rfl | rfl | rfl | rfl | rfl <;> omega)
  obtain ⟨l, hl, hp⟩ := h
  refine all ?_
  have : l = 0 ∨ l = 1 ∨ l = 2 ∨ l = 3 ∨ l = 4 ∨ l = 5 := by omega
  rcases this with rfl | rfl | rfl | rfl | rfl | rfl <;> simp [hp]
theorem mxN_at (f : Nat → Nat) : ∀ n, (∃ l, l < n ∧ f l = mxN f n) ∨ mxN f n = 0
  | 0 => Or.inr rfl
  | n + 1 => by
    rcases Nat.lt_or_ge (mxN f n) (f n) with h | h
    · exact Or.inl ⟨n, Nat.lt_succ_self n, (Nat.max_eq_right (Nat.le_of_lt h)).symm⟩
    · have e : mxN f (n + 1) = mxN f n := Nat.max_eq_left h
      rw [e]
      rcases mxN_at f n with ⟨l, hl, h2⟩ | h2
      · exact Or.inl ⟨l, Nat.lt_succ_of_lt hl, h2⟩
      · exact Or.inr h2
theorem mxN_ge {f : Nat → Nat} : ∀ {n l : Nat}, l < n → f l ≤ mxN f n
  | 0, l, h => absurd h (Nat.not_lt_zero l)
  | n + 1, l, h => by
    rcases Nat.lt_or_ge l n with h1 | h1
    · exact Nat.le_trans (mxN_ge h1) (Nat.le_max_left _ _)
    · rw [show l = n by omega]; exact Nat.le_max_right _ _
theorem mxN_ex (f : Nat → Nat) : ∃ l, l < 6 ∧ f l = mxN f 6 := by
  rcases mxN_at f 6 with h | h
  · exact h
  · have := mxN_ge (f := f) (n := 6) (l := 0) (by decide)
    exact ⟨0, by decide, by omega⟩
/-- the load of part p in the first likeliest row with the need n; the need that is left for part p -/
def flo (wt m : Nat → Nat) (p n : Nat) : Nat := fe6 (wwi wt m p n) (gm m p n)
def nee (wt m : Nat → Nat) (lim : Nat) : Nat → Nat
  | 0 => lim
  | p + 1 => nee wt m lim p - flo wt m p (nee wt m lim p)
def lik (wt m : Nat → Nat) (lim p : Nat) : Int32 := if gm m 0 lim = 0 then -1 else nI (flo wt m p (nee wt m lim p))
/-- the rows that are filled for a plant -/
def lkF (P : PV) (m : Nat → Nat) : Nat → Nat := lk P.wt m P.parts 0 0
set_option maxHeartbeats 4000000 in
set_option maxRecDepth 100000 in
theorem c_X3_init {G : GP} {k : Nat} : AM G sX3_init 1 217 [.ref k] [(k, ob 3 [.null])] (fun v w => v = none ∧ ∃ a, w = wI G k a (fun _ => 0)) := by
  refine AM.of (σ := sX3_init) (by decide +kernel) (by decide +kernel) (Nat.le_of_ble_eq_true rfl) (fun B hB hR hE0 hN => ?_)
  have hE := BE.of hE0
  have hN : B.meth.name = "<init>" := hN
  refine a_aload_n hB dX3_init_0 rfl ?_
  refine a_objInit hB ml_X3_3 dX3_init_1 (roomF hR (Nat.le_of_ble_eq_true rfl)) (room12 hR (Nat.le_of_ble_eq_true rfl)) ?_
  refine a_aload_n hB dX3_init_4 rfl ?_
  refine a_sipushN (v := 217) hB dX3_init_5 (by decide) ?_
  refine a_newI (N := 217) hB dX3_init_8 (nI_pos (by decide)) (nI_clamp (by decide)) (by decide) (roomc hR (Nat.le_of_ble_eq_true rfl)) (rooms hR (Nat.le_of_ble_eq_true rfl)) (fun q1 => ?_)
  refine a_putF (T := TX3) (ci := 3) hB hN dX3_init_10 0 fl_X3_9 lay_X3 tyX3 tyX3_ok nmX3 rfl (by decide) rfl rfl rfl 0 rfl rfl rfl rfl (Nat.le_of_ble_eq_true rfl) ?_
  exact a_vret hB hE rfl dX3_init_13 (Nat.le_of_ble_eq_true rfl) (Nat.le_of_ble_eq_true rfl) (AKeep.of rfl) ⟨rfl, q1, rfl⟩
set_option maxHeartbeats 4000000 in
set_option maxRecDepth 100000 in
theorem c_X3_getMost {G : GP} {k a p n : Nat} {m : Nat → Nat} (hp : p ≤ 6) (hn : n < 2 ^ 30) : AMd G sX3_getMost [.ref k, .int (nI p), .int (nI n)] (wI G k a m) (some (.int (nI (gm m p n)))) (wI G k a m) := by
  refine AM.of (σ := sX3_getMost) (by decide +kernel) (by decide +kernel) (Nat.le_of_ble_eq_true rfl) (fun B hB hR hE0 hN => ?_)
  have hE := BE.of hE0
  refine a_iload_n hB dX3_getMost_0 rfl ?_
  refine a_if_ltN_f (tgt := 24) hB dX3_getMost_1 (by decide) (by omega) ?_
  refine a_iload_n hB dX3_getMost_4 rfl ?_
  refine a_bipushN (v := 6) hB dX3_getMost_5 (by decide) ?_
  refine a_icmp_gtN_f (tgt := 24) hB dX3_getMost_7 (by decide) (by omega) (by omega) (by omega) ?_
  refine a_iload_n hB dX3_getMost_10 rfl ?_
  refine a_if_ltN_f (tgt := 24) hB dX3_getMost_11 (by decide) (by omega) ?_
  refine a_iload_n hB dX3_getMost_14 rfl ?_
  refine a_bipushN (v := 31) hB dX3_getMost_15 (by decide) ?_
  refine a_icmp_geN (tgt := 24) hB dX3_getMost_17 (by decide) (by omega) (by omega) (fun c17 => ?_) (fun c17 => ?_)
  · refine a_iconstN (v := 0) hB dX3_getMost_24 (by decide) ?_
    refine a_istore_n hB dX3_getMost_25 (by decide) ?_
    refine a_iload_n hB dX3_getMost_26 rfl ?_
    refine a_if_eqN_t (tgt := 44) hB dX3_getMost_27 (by decide) (by omega) (by omega) ?_
    refine a_iconstN (v := 0) hB dX3_getMost_44 (by decide) ?_
    exact a_iret hB hE rfl dX3_getMost_45 (Nat.le_of_ble_eq_true rfl) (Nat.le_of_ble_eq_true rfl) (AKeep.of rfl) ⟨by unfold gm; first | rw [if_pos (by omega)] | rw [if_neg (by omega)], rfl⟩
  · refine a_iconstN (v := 1) hB dX3_getMost_20 (by decide) ?_
    refine a_goto (tgt := 25) hB dX3_getMost_21 (by decide) ?_
    refine a_istore_n hB dX3_getMost_25 (by decide) ?_
    refine a_iload_n hB dX3_getMost_26 rfl ?_
    refine a_if_eqN_f (tgt := 44) hB dX3_getMost_27 (by decide) (by omega) (by omega) ?_
    refine a_aload_n hB dX3_getMost_30 rfl ?_
    refine a_get (T := TX3) (ci := 3) hB dX3_getMost_31 0 fl_X3_9 lay_X3 rfl (by decide) rfl 0 rfl rfl ?_
    refine a_iload_n hB dX3_getMost_34 rfl ?_
    refine a_bipushN (v := 31) hB dX3_getMost_35 (by decide) ?_
    refine a_imulN hB dX3_getMost_37 ?_
    refine a_iload_n hB dX3_getMost_38 rfl ?_
    refine a_iaddN hB dX3_getMost_39 ?_
    refine a_ialoadN hB dX3_getMost_40 1 rfl (by omega) (by decide) ?_
    refine a_goto (tgt := 45) hB dX3_getMost_41 (by decide) ?_
    exact a_iret hB hE rfl dX3_getMost_45 (Nat.le_of_ble_eq_true rfl) (Nat.le_of_ble_eq_true rfl) (AKeep.of rfl) ⟨by unfold gm; first | rw [if_pos (by omega)] | rw [if_neg (by omega)], rfl⟩
set_option maxHeartbeats 4000000 in
set_option maxRecDepth 100000 in
theorem c_X3_setMost {G : GP} {k a p n v : Nat} {m : Nat → Nat} (hp : p ≤ 6) (hn : n < 31) : AMd G sX3_setMost [.ref k, .int (nI p), .int (nI n), .int (nI v)] (wI G k a m) none (wI G k a (uN m (p * 31 + n) v)) := by
  refine AM.of (σ := sX3_setMost) (by decide +kernel) (by decide +kernel) (Nat.le_of_ble_eq_true rfl) (fun B hB hR hE0 hN => ?_)
  have hE := BE.of hE0
  refine a_iload_n hB dX3_setMost_0 rfl ?_
  refine a_if_ltN_f (tgt := 32) hB dX3_setMost_1 (by decide) (by omega) ?_
  refine a_iload_n hB dX3_setMost_4 rfl ?_
  refine a_bipushN (v := 6) hB dX3_setMost_5 (by decide) ?_
  refine a_icmp_gtN_f (tgt := 32) hB dX3_setMost_7 (by decide) (by omega) (by omega) (by omega) ?_
  refine a_iload_n hB dX3_setMost_10 rfl ?_
  refine a_if_ltN_f (tgt := 32) hB dX3_setMost_11 (by decide) (by omega) ?_
  refine a_iload_n hB dX3_setMost_14 rfl ?_
  refine a_bipushN (v := 31) hB dX3_setMost_15 (by decide) ?_
  refine a_icmp_geN_f (tgt := 32) hB dX3_setMost_17 (by decide) (by omega) (by omega) (by omega) ?_
  refine a_aload_n hB dX3_setMost_20 rfl ?_
  refine a_get (T := TX3) (ci := 3) hB dX3_setMost_21 0 fl_X3_9 lay_X3 rfl (by decide) rfl 0 rfl rfl ?_
  refine a_iload_n hB dX3_setMost_24 rfl ?_
  refine a_bipushN (v := 31) hB dX3_setMost_25 (by decide) ?_
  refine a_imulN hB dX3_setMost_27 ?_
  refine a_iload_n hB dX3_setMost_28 rfl ?_
  refine a_iaddN hB dX3_setMost_29 ?_
  refine a_iload_n hB dX3_setMost_30 rfl ?_
  refine a_iastoreN hB dX3_setMost_31 1 rfl (by omega) (by decide) ?_
  exact a_vret hB hE rfl dX3_setMost_32 (Nat.le_of_ble_eq_true rfl) (Nat.le_of_ble_eq_true rfl) (AKeep.of rfl) ⟨rfl, rfl⟩
set_option maxHeartbeats 4000000 in
set_option maxRecDepth 100000 in
theorem c_X3_waysFor {G : GP} {k a n : Nat} {m : Nat → Nat} (hn : n < 2 ^ 30) : AMd G sX3_waysFor [.ref k, .int (nI n)] (wI G k a m) (some (.int (nI (gm m 0 n)))) (wI G k a m) := by
  refine AM.of (σ := sX3_waysFor) (by decide +kernel) (by decide +kernel) (Nat.le_of_ble_eq_true rfl) (fun B hB hR hE0 hN => ?_)
  have hE := BE.of hE0
  refine a_aload_n hB dX3_waysFor_0 rfl ?_
  refine a_iconstN (v := 0) hB dX3_waysFor_1 (by decide) ?_
  refine a_iload_n hB dX3_waysFor_2 rfl ?_
  refine a_callVr (q0 := 0) hB (c_X3_getMost (by omega) (by omega)) mk_X3_getMost ml_X3_29 dX3_waysFor_3 rfl rfl [0, 1] rfl (by decide) rfl rfl (fit_of hR (by decide)) (Nat.le_of_ble_eq_true rfl) ?_
  exact a_iret hB hE rfl dX3_waysFor_6 (Nat.le_of_ble_eq_true rfl) (Nat.le_of_ble_eq_true rfl) (AKeep.of rfl) ⟨rfl, rfl⟩
set_option maxHeartbeats 4000000 in
set_option maxRecDepth 100000 in
theorem c_X3_waysWith {G : GP} {k a p l n : Nat} {m : Nat → Nat} {pa : Nat → Nat} {P : PV} (hp : p < 6) (hl : l < 6) (hn : n < 2 ^ 30) : AMd G sX3_waysWith [.ref k, .ref (pa 0), .int (nI p), .int (nI l), .int (nI n)] (wI G k a m ++ wQ G pa P) (some (.int (nI (wwi P.wt m p n l)))) (wI G k a m ++ wQ G pa P) := by
  refine AM.of (σ := sX3_waysWith) (by decide +kernel) (by decide +kernel) (Nat.le_of_ble_eq_true rfl) (fun B hB hR hE0 hN => ?_)
  have hE := BE.of hE0
  refine a_aload_n hB dX3_waysWith_0 rfl ?_
  refine a_get (T := TX4) (ci := 4) hB dX3_waysWith_1 0 fl_X3_52 lay_X4 rfl (by decide) rfl 2 rfl rfl ?_
  refine a_iload_n hB dX3_waysWith_4 rfl ?_
  refine a_iload_n hB dX3_waysWith_5 rfl ?_
  refine a_callVr (q0 := 3) hB (c_X7_get (by omega) (by omega)) mk_X7_get ml_X3_56 dX3_waysWith_6 rfl rfl [3, 4] rfl (by decide) rfl rfl (fit_of hR (by decide)) (Nat.le_of_ble_eq_true rfl) ?_
  refine a_aload_n hB dX3_waysWith_9 rfl ?_
  refine a_iload_n hB dX3_waysWith_10 rfl ?_
  refine a_iconstN (v := 1) hB dX3_waysWith_11 (by decide) ?_
  refine a_iaddN hB dX3_waysWith_12 ?_
  refine a_iload hB dX3_waysWith_13 rfl ?_
  refine a_iload_n hB dX3_waysWith_15 rfl ?_
  refine a_isub hB dX3_waysWith_16 ?_
  refine a_iconstN (v := 0) hB dX3_waysWith_17 (by decide) ?_
  refine a_maxSub hB ml_X3_43 dX3_waysWith_18 (by omega) (by omega) (roomF hR (Nat.le_of_ble_eq_true rfl)) (room13 hR (Nat.le_of_ble_eq_true rfl)) (roomc hR (Nat.le_of_ble_eq_true rfl)) (rooms hR (Nat.le_of_ble_eq_true rfl)) ?_
  refine a_callVr (q0 := 0) hB (c_X3_getMost (by omega) (by omega)) mk_X3_getMost ml_X3_29 dX3_waysWith_21 rfl rfl [0, 1] rfl (by decide) rfl rfl (fit_of hR (by decide)) (Nat.le_of_ble_eq_true rfl) ?_
  refine a_imulN hB dX3_waysWith_24 ?_
  exact a_iret hB hE rfl dX3_waysWith_25 (Nat.le_of_ble_eq_true rfl) (Nat.le_of_ble_eq_true rfl) (AKeep.of rfl) ⟨rfl, rfl⟩
set_option maxHeartbeats 4000000 in
set_option maxRecDepth 100000 in
theorem c_X3_mostOfLoads {G : GP} {k a p n : Nat} {m : Nat → Nat} {pa : Nat → Nat} {P : PV} (hp : p < 6) (hn : n < 2 ^ 30) (hb : ∀ l, wwi P.wt m p n l ≤ 1073741824) : AMd G sX3_mostOfLoads [.ref k, .ref (pa 0), .int (nI p), .int (nI n)] (wI G k a m ++ wQ G pa P) (some (.int (nI (mxN (wwi P.wt m p n) 6)))) (wI G k a m ++ wQ G pa P) := by
  refine AM.of (σ := sX3_mostOfLoads) (by decide +kernel) (by decide +kernel) (Nat.le_of_ble_eq_true rfl) (fun B hB hR hE0 hN => ?_)
  have hE := BE.of hE0
  refine a_iconstN (v := 0) hB dX3_mostOfLoads_0 (by decide) ?_
  refine a_istore hB dX3_mostOfLoads_1 (by decide) ?_
  refine a_iconstN (v := 0) hB dX3_mostOfLoads_3 (by decide) ?_
  refine a_istore hB dX3_mostOfLoads_4 (by decide) ?_
  have lp6 : ∀ (j6 i : Nat), i + j6 = 6 → aW G sX3_mostOfLoads B 6 [(0, .ref k), (1, .ref (pa 0)), (2, .int (nI p)), (3, .int (nI n)), (4, .int (nI (mxN (wwi P.wt m p n) i))), (5, .int (nI i))] [] (wI G k a m ++ wQ G pa P) 0 0 := by
    intro j6
    induction j6 with
    | zero =>
      intro i hi
      refine a_iload hB dX3_mostOfLoads_6 rfl ?_
      refine a_bipushN (v := 6) hB dX3_mostOfLoads_8 (by decide) ?_
      refine a_icmp_geN_t (tgt := 35) hB dX3_mostOfLoads_10 (by decide) (by omega) (by omega) (by omega) ?_
      refine a_iload hB dX3_mostOfLoads_35 rfl ?_
      exact a_iret hB hE rfl dX3_mostOfLoads_37 (Nat.le_of_ble_eq_true rfl) (Nat.le_of_ble_eq_true rfl) (AKeep.of rfl) ⟨by rw [show i = 6 by omega], rfl⟩
    | succ j6 ih6 =>
      intro i hi
      refine a_iload hB dX3_mostOfLoads_6 rfl ?_
      refine a_bipushN (v := 6) hB dX3_mostOfLoads_8 (by decide) ?_
      refine a_icmp_geN_f (tgt := 35) hB dX3_mostOfLoads_10 (by decide) (by omega) (by omega) (by omega) ?_
      refine a_iload hB dX3_mostOfLoads_13 rfl ?_
      refine a_aload_n hB dX3_mostOfLoads_15 rfl ?_
      refine a_aload_n hB dX3_mostOfLoads_16 rfl ?_
      refine a_iload_n hB dX3_mostOfLoads_17 rfl ?_
      refine a_iload hB dX3_mostOfLoads_18 rfl ?_
      refine a_iload_n hB dX3_mostOfLoads_20 rfl ?_
      refine a_callVr (q0 := 0) hB (c_X3_waysWith (P := P) (by omega) (by omega) (by omega)) mk_X3_waysWith ml_X3_48 dX3_mostOfLoads_21 rfl rfl [0, 1, 2, 3, 4] rfl (by decide) rfl rfl (fit_of hR (by decide)) (Nat.le_of_ble_eq_true rfl) ?_
      refine a_maxN hB ml_X3_43 dX3_mostOfLoads_24 (Nat.lt_of_le_of_lt (mxN_le hb i) (by decide)) (Nat.lt_of_le_of_lt (hb i) (by decide)) (roomF hR (Nat.le_of_ble_eq_true rfl)) (room13 hR (Nat.le_of_ble_eq_true rfl)) (roomc hR (Nat.le_of_ble_eq_true rfl)) (rooms hR (Nat.le_of_ble_eq_true rfl)) ?_
      refine a_istore hB dX3_mostOfLoads_27 (by decide) ?_
      refine a_iincN (b := 1) hB dX3_mostOfLoads_29 rfl (by decide) (by decide) ?_
      refine a_goto (tgt := 6) hB dX3_mostOfLoads_32 (by decide) ?_
      exact aW_at [0, 1, 2, 3, 4, 5] rfl rfl rfl (ih6 (i + 1) (by omega))
  exact aW_at [0, 1, 2, 3, 4, 5] rfl rfl rfl (lp6 (6) 0 (by omega))
set_option maxHeartbeats 4000000 in
set_option maxRecDepth 100000 in
theorem c_X3_firstLoad {G : GP} {k a p n r : Nat} {m : Nat → Nat} {pa : Nat → Nat} {P : PV} (hp : p < 6) (hn : n < 2 ^ 30) (hb : ∀ l, wwi P.wt m p n l ≤ 1073741824) (hg : gm m p n < 2 ^ 31) (hr : r < 6) (h1 : wwi P.wt m p n r = gm m p n) (h0 : ∀ l, l < r → ¬ wwi P.wt m p n l = gm m p n) : AMd G sX3_firstLoad [.ref k, .ref (pa 0), .int (nI p), .int (nI n)] (wI G k a m ++ wQ G pa P) (some (.int (nI r))) (wI G k a m ++ wQ G pa P) := by
  refine AM.of (σ := sX3_firstLoad) (by decide +kernel) (by decide +kernel) (Nat.le_of_ble_eq_true rfl) (fun B hB hR hE0 hN => ?_)
  have hE := BE.of hE0
  refine a_iconstN (v := 0) hB dX3_firstLoad_0 (by decide) ?_
  refine a_istore hB dX3_firstLoad_1 (by decide) ?_
  have lp3 : ∀ (j3 i : Nat), i + j3 = r → aW G sX3_firstLoad B 3 [(0, .ref k), (1, .ref (pa 0)), (2, .int (nI p)), (3, .int (nI n)), (4, .int (nI i))] [] (wI G k a m ++ wQ G pa P) 0 0 := by
    intro j3
    induction j3 with
    | zero =>
      intro i hi
      refine a_iload hB dX3_firstLoad_3 rfl ?_
      refine a_bipushN (v := 6) hB dX3_firstLoad_5 (by decide) ?_
      refine a_icmp_geN_f (tgt := 37) hB dX3_firstLoad_7 (by decide) (by omega) (by omega) (by omega) ?_
      refine a_aload_n hB dX3_firstLoad_10 rfl ?_
      refine a_aload_n hB dX3_firstLoad_11 rfl ?_
      refine a_iload_n hB dX3_firstLoad_12 rfl ?_
      refine a_iload hB dX3_firstLoad_13 rfl ?_
      refine a_iload_n hB dX3_firstLoad_15 rfl ?_
      refine a_callVr (q0 := 0) hB (c_X3_waysWith (P := P) (by omega) (by omega) (by omega)) mk_X3_waysWith ml_X3_48 dX3_firstLoad_16 rfl rfl [0, 1, 2, 3, 4] rfl (by decide) rfl rfl (fit_of hR (by decide)) (Nat.le_of_ble_eq_true rfl) ?_
      refine a_aload_n hB dX3_firstLoad_19 rfl ?_
      refine a_iload_n hB dX3_firstLoad_20 rfl ?_
      refine a_iload_n hB dX3_firstLoad_21 rfl ?_
      refine a_callVr (q0 := 0) hB (c_X3_getMost (by omega) (by omega)) mk_X3_getMost ml_X3_29 dX3_firstLoad_22 rfl rfl [0, 1] rfl (by decide) rfl rfl (fit_of hR (by decide)) (Nat.le_of_ble_eq_true rfl) ?_
      refine a_icmp_neN_f (tgt := 31) hB dX3_firstLoad_25 (by decide) (Nat.lt_of_le_of_lt (hb i) (by decide)) hg (by rw [show i = r by omega]; exact h1) ?_
      refine a_iload hB dX3_firstLoad_28 rfl ?_
      exact a_iret hB hE rfl dX3_firstLoad_30 (Nat.le_of_ble_eq_true rfl) (Nat.le_of_ble_eq_true rfl) (AKeep.of rfl) ⟨by rw [show i = r by omega], rfl⟩
    | succ j3 ih3 =>
      intro i hi
      refine a_iload hB dX3_firstLoad_3 rfl ?_
      refine a_bipushN (v := 6) hB dX3_firstLoad_5 (by decide) ?_
      refine a_icmp_geN_f (tgt := 37) hB dX3_firstLoad_7 (by decide) (by omega) (by omega) (by omega) ?_
      refine a_aload_n hB dX3_firstLoad_10 rfl ?_
      refine a_aload_n hB dX3_firstLoad_11 rfl ?_
      refine a_iload_n hB dX3_firstLoad_12 rfl ?_
      refine a_iload hB dX3_firstLoad_13 rfl ?_
      refine a_iload_n hB dX3_firstLoad_15 rfl ?_
      refine a_callVr (q0 := 0) hB (c_X3_waysWith (P := P) (by omega) (by omega) (by omega)) mk_X3_waysWith ml_X3_48 dX3_firstLoad_16 rfl rfl [0, 1, 2, 3, 4] rfl (by decide) rfl rfl (fit_of hR (by decide)) (Nat.le_of_ble_eq_true rfl) ?_
      refine a_aload_n hB dX3_firstLoad_19 rfl ?_
      refine a_iload_n hB dX3_firstLoad_20 rfl ?_
      refine a_iload_n hB dX3_firstLoad_21 rfl ?_
      refine a_callVr (q0 := 0) hB (c_X3_getMost (by omega) (by omega)) mk_X3_getMost ml_X3_29 dX3_firstLoad_22 rfl rfl [0, 1] rfl (by decide) rfl rfl (fit_of hR (by decide)) (Nat.le_of_ble_eq_true rfl) ?_
      refine a_icmp_neN_t (tgt := 31) hB dX3_firstLoad_25 (by decide) (Nat.lt_of_le_of_lt (hb i) (by decide)) hg (h0 i (by omega)) ?_
      refine a_iincN (b := 1) hB dX3_firstLoad_31 rfl (by decide) (by decide) ?_
      refine a_goto (tgt := 3) hB dX3_firstLoad_34 (by decide) ?_
      exact aW_at [0, 1, 2, 3, 4] rfl rfl rfl (ih3 (i + 1) (by omega))
  exact aW_at [0, 1, 2, 3, 4] rfl rfl rfl (lp3 (r) 0 (by omega))
theorem lim1 (n : Nat) : nI n - nI 1 = nI n + (-1) := by
  have : nI 1 = 1 := rfl
  rw [this, Int32.sub_eq_add_neg]
theorem wwi_small {wt m : Nat → Nat} {parts p q u n l : Nat} (hw : ∀ j, wt j ≤ 9) (h6 : parts ≤ 6) (hp : p < parts) (_ : n < 2 ^ 31) (hq : q ≤ p + 1) : wwi wt (lk wt m parts q u) p n l ≤ 1073741824 := by
  rw [wwi_lk hp hq]
  have h1 := gt_lt hw p l
  have h2 : (if n - l < 31 then bs wt parts (parts - (p + 1)) (n - l) else 0) ≤ 531441 := by
    split
    · exact bs_small hw (by omega) _
    · exact Nat.zero_le _
  calc gt wt p l * _ ≤ 9 * 531441 := Nat.mul_le_mul h1 h2
    _ ≤ 1073741824 := by decide
set_option maxHeartbeats 4000000 in
set_option maxRecDepth 100000 in
theorem c_X3_fill {G : GP} {k a : Nat} {m : Nat → Nat} {pa : Nat → Nat} {P : PV} (hp : P.parts ≤ 6) (hw : ∀ j, P.wt j ≤ 9) : AMd G sX3_fill [.ref k, .ref (pa 0)] (wI G k a m ++ wQ G pa P) none (wI G k a (lkF P m) ++ wQ G pa P) := by
  refine AM.of (σ := sX3_fill) (by decide +kernel) (by decide +kernel) (Nat.le_of_ble_eq_true rfl) (fun B hB hR hE0 hN => ?_)
  have hE := BE.of hE0
  refine a_iconstN (v := 0) hB dX3_fill_0 (by decide) ?_
  refine a_istore_n hB dX3_fill_1 (by decide) ?_
  have lp2 : ∀ (j2 i : Nat), i + j2 = 31 → aW G sX3_fill B 2 [(0, .ref k), (1, .ref (pa 0)), (2, .int (nI i))] [] (wI G k a (lk P.wt m P.parts (P.parts + 1) i) ++ wQ G pa P) 0 0 := by
    intro j2
    induction j2 with
    | zero =>
      intro i hi
      refine a_iload_n hB dX3_fill_2 rfl ?_
      refine a_bipushN (v := 31) hB dX3_fill_3 (by decide) ?_
      refine a_icmp_geN_t (tgt := 32) hB dX3_fill_5 (by decide) (by omega) (by omega) (by omega) ?_
      refine a_aload_n hB dX3_fill_32 rfl ?_
      refine a_get (T := TX4) (ci := 4) hB dX3_fill_33 3 fl_X3_15 lay_X4 rfl (by decide) rfl 2 rfl rfl ?_
      refine a_iconstN (v := 1) hB dX3_fill_36 (by decide) ?_
      refine a_isub hB dX3_fill_37 ?_
      refine a_istore_n hB dX3_fill_38 (by decide) ?_
      have lp39 : ∀ (j39 i : Nat), i = j39 ∧ i ≤ P.parts → aW G sX3_fill B 39 [(0, .ref k), (1, .ref (pa 0)), (2, .int (nI i + (-1)))] [] (wI G k a (lk P.wt m P.parts i 0) ++ wQ G pa P) 0 0 := by
        intro j39
        induction j39 with
        | zero =>
          intro i hi
          obtain ⟨rfl, hb⟩ := hi
          refine a_iload_n hB dX3_fill_39 rfl ?_
          refine a_if_lt_t (tgt := 76) hB dX3_fill_40 (by decide) (by decide) ?_
          exact a_vret hB hE rfl dX3_fill_76 (Nat.le_of_ble_eq_true rfl) (Nat.le_of_ble_eq_true rfl) (AKeep.of rfl) ⟨rfl, rfl⟩
        | succ j39 ih39 =>
          intro i hi
          obtain ⟨rfl, hb⟩ := hi
          rw [pk_m1]
          refine a_iload_n hB dX3_fill_39 rfl ?_
          refine a_if_ltN_f (tgt := 76) hB dX3_fill_40 (by decide) (by omega) ?_
          refine a_iconstN (v := 0) hB dX3_fill_43 (by decide) ?_
          refine a_istore_n hB dX3_fill_44 (by decide) ?_
          have lp45 : ∀ (j45 u : Nat), u + j45 = 31 → aW G sX3_fill B 45 [(0, .ref k), (1, .ref (pa 0)), (2, .int (nI j39)), (3, .int (nI u))] [] (wI G k a (lk P.wt m P.parts (j39 + 1) u) ++ wQ G pa P) 0 0 := by
            intro j45
            induction j45 with
            | zero =>
              intro u hi
              refine a_iload_n hB dX3_fill_45 rfl ?_
              refine a_bipushN (v := 31) hB dX3_fill_46 (by decide) ?_
              refine a_icmp_geN_t (tgt := 70) hB dX3_fill_48 (by decide) (by omega) (by omega) (by omega) ?_
              refine a_iinc (v := -1) hB dX3_fill_70 rfl (by decide) (by decide) ?_
              refine a_goto (tgt := 39) hB dX3_fill_73 (by decide) ?_
              exact aW_at [0, 1, 2] rfl rfl (by rw [show u = 31 by omega, lk_row]) (ih39 j39 ⟨rfl, by omega⟩)
            | succ j45 ih45 =>
              intro u hi
              have e8 := bs_eq (wt := P.wt) (m := m) (parts := P.parts) (p := j39) (q := j39 + 1) (u := u) (n := u) (by omega) (Nat.le_refl _)
              have e9 := lk_step (wt := P.wt) (m := m) (parts := P.parts) (q := j39) (u := u) (by omega) (by omega) e8
              have hwb : ∀ l, wwi P.wt (lk P.wt m P.parts (j39 + 1) u) j39 u l ≤ 1073741824 := fun l => wwi_small hw (by omega) (by omega) (by omega) (Nat.le_refl _)
              refine a_iload_n hB dX3_fill_45 rfl ?_
              refine a_bipushN (v := 31) hB dX3_fill_46 (by decide) ?_
              refine a_icmp_geN_f (tgt := 70) hB dX3_fill_48 (by decide) (by omega) (by omega) (by omega) ?_
              refine a_aload_n hB dX3_fill_51 rfl ?_
              refine a_iload_n hB dX3_fill_52 rfl ?_
              refine a_iload_n hB dX3_fill_53 rfl ?_
              refine a_aload_n hB dX3_fill_54 rfl ?_
              refine a_aload_n hB dX3_fill_55 rfl ?_
              refine a_iload_n hB dX3_fill_56 rfl ?_
              refine a_iload_n hB dX3_fill_57 rfl ?_
              refine a_callVr (q0 := 0) hB (c_X3_mostOfLoads (P := P) (by omega) (by omega) hwb) mk_X3_mostOfLoads ml_X3_25 dX3_fill_58 rfl rfl [0, 1, 2, 3, 4] rfl (by decide) rfl rfl (fit_of hR (by decide)) (Nat.le_of_ble_eq_true rfl) ?_
              refine a_callVd (q0 := 0) hB (c_X3_setMost (by omega) (by omega)) mk_X3_setMost ml_X3_21 dX3_fill_61 rfl rfl [0, 1] rfl (by decide) rfl rfl (fit_of hR (by decide)) (Nat.le_of_ble_eq_true rfl) rfl ?_
              refine a_iincN (b := 1) hB dX3_fill_64 rfl (by decide) (by decide) ?_
              refine a_goto (tgt := 45) hB dX3_fill_67 (by decide) ?_
              exact aW_at [0, 1, 2, 3] rfl rfl (by rw [← e9]; rfl) (ih45 (u + 1) (by omega))
          exact aW_at [0, 1, 2, 3] rfl rfl rfl (lp45 (31) 0 (by omega))
      exact aW_at [0, 1, 2] (by rw [lim1 P.parts]; rfl) rfl (by rw [show i = 31 by omega, lk_row]) (lp39 (P.parts) P.parts ⟨rfl, Nat.le_refl _⟩)
    | succ j2 ih2 =>
      intro i hi
      refine a_iload_n hB dX3_fill_2 rfl ?_
      refine a_bipushN (v := 31) hB dX3_fill_3 (by decide) ?_
      refine a_icmp_geN_f (tgt := 32) hB dX3_fill_5 (by decide) (by omega) (by omega) (by omega) ?_
      refine a_aload_n hB dX3_fill_8 rfl ?_
      refine a_aload_n hB dX3_fill_9 rfl ?_
      refine a_get (T := TX4) (ci := 4) hB dX3_fill_10 3 fl_X3_15 lay_X4 rfl (by decide) rfl 2 rfl rfl ?_
      refine a_iload_n hB dX3_fill_13 rfl ?_
      refine a_iload_n hB dX3_fill_14 rfl ?_
      refine a_if_neN (tgt := 22) hB dX3_fill_15 (by decide) (by omega) (fun c15 => ?_) (fun c15 => ?_)
      · refine a_iconstN (v := 0) hB dX3_fill_22 (by decide) ?_
        refine a_callVd (q0 := 0) hB (c_X3_setMost (by omega) (by omega)) mk_X3_setMost ml_X3_21 dX3_fill_23 rfl rfl [0, 1] rfl (by decide) rfl rfl (fit_of hR (by decide)) (Nat.le_of_ble_eq_true rfl) rfl ?_
        refine a_iincN (b := 1) hB dX3_fill_26 rfl (by decide) (by decide) ?_
        refine a_goto (tgt := 2) hB dX3_fill_29 (by decide) ?_
        have e9 := lk_step (wt := P.wt) (m := m) (u := i) (Nat.le_refl P.parts) (by omega) (show (if i = 0 then 1 else 0) = bs P.wt P.parts (P.parts - P.parts) i by rw [Nat.sub_self]; rfl)
        first | rw [if_pos c15] at e9 | rw [if_neg c15] at e9
        exact aW_at [0, 1, 2] rfl rfl (by rw [← e9]; rfl) (ih2 (i + 1) (by omega))
      · refine a_iconstN (v := 1) hB dX3_fill_18 (by decide) ?_
        refine a_goto (tgt := 23) hB dX3_fill_19 (by decide) ?_
        refine a_callVd (q0 := 0) hB (c_X3_setMost (by omega) (by omega)) mk_X3_setMost ml_X3_21 dX3_fill_23 rfl rfl [0, 1] rfl (by decide) rfl rfl (fit_of hR (by decide)) (Nat.le_of_ble_eq_true rfl) rfl ?_
        refine a_iincN (b := 1) hB dX3_fill_26 rfl (by decide) (by decide) ?_
        refine a_goto (tgt := 2) hB dX3_fill_29 (by decide) ?_
        have e9 := lk_step (wt := P.wt) (m := m) (u := i) (Nat.le_refl P.parts) (by omega) (show (if i = 0 then 1 else 0) = bs P.wt P.parts (P.parts - P.parts) i by rw [Nat.sub_self]; rfl)
        first | rw [if_pos c15] at e9 | rw [if_neg c15] at e9
        exact aW_at [0, 1, 2] rfl rfl (by rw [← e9]; rfl) (ih2 (i + 1) (by omega))
  exact aW_at [0, 1, 2] rfl rfl (by rw [lk_0]) (lp2 (31) 0 (by omega))
theorem gm_small {P : PV} {m : Nat → Nat} {q n : Nat} (hw : ∀ j, P.wt j ≤ 9) (hp : P.parts ≤ 6) (hq : q ≤ P.parts) : gm (lkF P m) q n ≤ 531441 := by
  unfold lkF
  rw [gm_lk hq (Nat.zero_le _)]
  split
  · exact bs_small hw (by omega) _
  · exact Nat.zero_le _
theorem nee_le (wt m : Nat → Nat) (lim : Nat) : ∀ p, nee wt m lim p ≤ lim
  | 0 => Nat.le_refl _
  | p + 1 => Nat.le_trans (Nat.sub_le _ _) (nee_le wt m lim p)
theorem fe6_lk {P : PV} {m : Nat → Nat} {p n : Nat} (hw : ∀ j, P.wt j ≤ 9) (hp : P.parts ≤ 6) (h : p < P.parts) : flo P.wt (lkF P m) p n < 6 ∧ wwi P.wt (lkF P m) p n (flo P.wt (lkF P m) p n) = gm (lkF P m) p n ∧ ∀ l, l < flo P.wt (lkF P m) p n → ¬ wwi P.wt (lkF P m) p n l = gm (lkF P m) p n := by
  refine fe6_spec ?_
  by_cases h31 : n < 31
  · obtain ⟨l, hl, e⟩ := mxN_ex (wwi P.wt (lkF P m) p n)
    refine ⟨l, hl, e.trans ?_⟩
    unfold lkF
    rw [bs_eq h (Nat.zero_le _), gm_lk (by omega) (Nat.zero_le _), if_pos h31]
  · refine ⟨0, by decide, ?_⟩
    unfold lkF
    rw [wwi_lk h (Nat.zero_le _), gm_lk (by omega) (Nat.zero_le _), if_neg h31, if_neg (by omega), Nat.mul_zero]
set_option maxHeartbeats 4000000 in
set_option maxRecDepth 100000 in
theorem c_X3_loadOf {G : GP} {k a p : Nat} {m : Nat → Nat} {pa : Nat → Nat} {P : PV} (hp : P.parts ≤ 6) (hl : P.limit ≤ 99) (hw : ∀ j, P.wt j ≤ 9) (hpp : p < P.parts) : AMd G sX3_loadOf [.ref k, .ref (pa 0), .int (nI p)] (wI G k a (lkF P m) ++ wQ G pa P) (some (.int (lik P.wt (lkF P m) P.limit p))) (wI G k a (lkF P m) ++ wQ G pa P) := by
  refine AM.of (σ := sX3_loadOf) (by decide +kernel) (by decide +kernel) (Nat.le_of_ble_eq_true rfl) (fun B hB hR hE0 hN => ?_)
  have hE := BE.of hE0
  have hg : ∀ q n, q ≤ P.parts → gm (lkF P m) q n ≤ 531441 := fun q n hq => gm_small hw hp hq
  have hg0 := hg 0 P.limit (Nat.zero_le _)
  refine a_aload_n hB dX3_loadOf_0 rfl ?_
  refine a_aload_n hB dX3_loadOf_1 rfl ?_
  refine a_get (T := TX4) (ci := 4) hB dX3_loadOf_2 4 fl_X3_33 lay_X4 rfl (by decide) rfl 2 rfl rfl ?_
  refine a_callVr (q0 := 0) hB (c_X3_waysFor (by omega)) mk_X3_waysFor ml_X3_36 dX3_loadOf_5 rfl rfl [0, 1] rfl (by decide) rfl rfl (fit_of hR (by decide)) (Nat.le_of_ble_eq_true rfl) ?_
  refine a_if_neN (tgt := 13) hB dX3_loadOf_8 (by decide) (by omega) (fun c8 => ?_) (fun c8 => ?_)
  · refine a_aload_n hB dX3_loadOf_13 rfl ?_
    refine a_get (T := TX4) (ci := 4) hB dX3_loadOf_14 4 fl_X3_33 lay_X4 rfl (by decide) rfl 2 rfl rfl ?_
    refine a_istore_n hB dX3_loadOf_17 (by decide) ?_
    refine a_iconstN (v := 0) hB dX3_loadOf_18 (by decide) ?_
    refine a_istore hB dX3_loadOf_19 (by decide) ?_
    have lp21 : ∀ (j21 i : Nat), i + j21 = p → aW G sX3_loadOf B 21 [(0, .ref k), (1, .ref (pa 0)), (2, .int (nI p)), (3, .int (nI (nee P.wt (lkF P m) P.limit i))), (4, .int (nI i))] [] (wI G k a (lkF P m) ++ wQ G pa P) 0 0 := by
      intro j21
      induction j21 with
      | zero =>
        intro i hi
        refine a_iload hB dX3_loadOf_21 rfl ?_
        refine a_iload_n hB dX3_loadOf_23 rfl ?_
        refine a_icmp_geN_t (tgt := 48) hB dX3_loadOf_24 (by decide) (by omega) (by omega) (by omega) ?_
        have hs := fe6_lk (m := m) (n := nee P.wt (lkF P m) P.limit i) hw hp (show i < P.parts by omega)
        have hn9 := nee_le P.wt (lkF P m) P.limit i
        have hgi := hg i (nee P.wt (lkF P m) P.limit i) (by omega)
        obtain rfl : i = p := by omega
        refine a_aload_n hB dX3_loadOf_48 rfl ?_
        refine a_aload_n hB dX3_loadOf_49 rfl ?_
        refine a_iload_n hB dX3_loadOf_50 rfl ?_
        refine a_iload_n hB dX3_loadOf_51 rfl ?_
        refine a_callVr (q0 := 0) hB (c_X3_firstLoad (P := P) (by omega) (by omega) (fun l => wwi_small hw hp (by omega) (by omega) (Nat.zero_le _)) (Nat.lt_of_le_of_lt hgi (by decide)) hs.1 hs.2.1 hs.2.2) mk_X3_firstLoad ml_X3_40 dX3_loadOf_52 rfl rfl [0, 1, 2, 3, 4] rfl (by decide) rfl rfl (fit_of hR (by decide)) (Nat.le_of_ble_eq_true rfl) ?_
        exact a_iret hB hE rfl dX3_loadOf_55 (Nat.le_of_ble_eq_true rfl) (Nat.le_of_ble_eq_true rfl) (AKeep.of rfl) ⟨by unfold lik; rw [if_neg c8], rfl⟩
      | succ j21 ih21 =>
        intro i hi
        refine a_iload hB dX3_loadOf_21 rfl ?_
        refine a_iload_n hB dX3_loadOf_23 rfl ?_
        refine a_icmp_geN_f (tgt := 48) hB dX3_loadOf_24 (by decide) (by omega) (by omega) (by omega) ?_
        have hs := fe6_lk (m := m) (n := nee P.wt (lkF P m) P.limit i) hw hp (show i < P.parts by omega)
        have hn9 := nee_le P.wt (lkF P m) P.limit i
        have hgi := hg i (nee P.wt (lkF P m) P.limit i) (by omega)
        refine a_iload_n hB dX3_loadOf_27 rfl ?_
        refine a_aload_n hB dX3_loadOf_28 rfl ?_
        refine a_aload_n hB dX3_loadOf_29 rfl ?_
        refine a_iload hB dX3_loadOf_30 rfl ?_
        refine a_iload_n hB dX3_loadOf_32 rfl ?_
        refine a_callVr (q0 := 0) hB (c_X3_firstLoad (P := P) (by omega) (by omega) (fun l => wwi_small hw hp (by omega) (by omega) (Nat.zero_le _)) (Nat.lt_of_le_of_lt hgi (by decide)) hs.1 hs.2.1 hs.2.2) mk_X3_firstLoad ml_X3_40 dX3_loadOf_33 rfl rfl [0, 1, 2, 3, 4] rfl (by decide) rfl rfl (fit_of hR (by decide)) (Nat.le_of_ble_eq_true rfl) ?_
        refine a_isub hB dX3_loadOf_36 ?_
        refine a_iconstN (v := 0) hB dX3_loadOf_37 (by decide) ?_
        refine a_maxSub hB ml_X3_43 dX3_loadOf_38 (by omega) (by omega) (roomF hR (Nat.le_of_ble_eq_true rfl)) (room13 hR (Nat.le_of_ble_eq_true rfl)) (roomc hR (Nat.le_of_ble_eq_true rfl)) (rooms hR (Nat.le_of_ble_eq_true rfl)) ?_
        refine a_istore_n hB dX3_loadOf_41 (by decide) ?_
        refine a_iincN (b := 1) hB dX3_loadOf_42 rfl (by decide) (by decide) ?_
        refine a_goto (tgt := 21) hB dX3_loadOf_45 (by decide) ?_
        exact aW_at [0, 1, 2, 3, 4] rfl rfl rfl (ih21 (i + 1) (by omega))
    exact aW_at [0, 1, 2, 3, 4] rfl rfl rfl (lp21 (p) 0 (by omega))
  · refine a_iconst (v := -1) hB dX3_loadOf_11 (by decide) ?_
    exact a_iret hB hE rfl dX3_loadOf_12 (Nat.le_of_ble_eq_true rfl) (Nat.le_of_ble_eq_true rfl) (AKeep.of rfl) ⟨by unfold lik; rw [if_pos c8], rfl⟩

