def sX0_init : MS := (yX0_init, cX0_init, 1, none, RX0, 1)
def sX3_fill : MS := (yX3_fill, cX3_fill, 4, none, RX3, 3)
def sX3_firstLoad : MS := (yX3_firstLoad, cX3_firstLoad, 5, (some .int), RX3, 2)
def sX3_getMost : MS := (yX3_getMost, cX3_getMost, 4, (some .int), RX3, 0)
def sX3_init : MS := (yX3_init, cX3_init, 1, none, RX3, 1)
def sX3_loadOf : MS := (yX3_loadOf, cX3_loadOf, 5, (some .int), RX3, 3)
def sX3_mostOfLoads : MS := (yX3_mostOfLoads, cX3_mostOfLoads, 6, (some .int), RX3, 2)
def sX3_setMost : MS := (yX3_setMost, cX3_setMost, 4, none, RX3, 0)
def sX3_waysFor : MS := (yX3_waysFor, cX3_waysFor, 2, (some .int), RX3, 1)
def sX3_waysWith : MS := (yX3_waysWith, cX3_waysWith, 5, (some .int), RX3, 1)
abbrev wK (G : GP) (k a : Nat) (f : Nat → Nat) : va_W := [(k, ob 1 [.ref a]), (a, aL G 31 f)]
/-- the plant's own cell, one table, its cells -/
abbrev wQ (G : GP) (pa : Nat → Nat) (P : PV) : va_W := [(pa 0, ob 4 [.ref (pa 1), .ref (pa 3), .ref (pa 5), .int (nI P.parts), .int (nI P.limit), .int (nI P.seed)]), (pa 1, ob 7 [.ref (pa 2)]), (pa 2, aN G 36 P.wt)]
/-- the ways of sum s - l -/
def wv (f : Nat → Nat) (s l : Nat) : Nat := if l ≤ s then f (s - l) else 0
def apS (wt : Nat → Nat) (p : Nat) (f : Nat → Nat) (s : Nat) : Nat := sumN (fun l => gt wt p l * wv f s l) 6
/-- from i on done -/
def apI (wt : Nat → Nat) (p : Nat) (f : Nat → Nat) (i j : Nat) : Nat := if j < i ∨ 31 ≤ j then f j else apS wt p f j
def apP (wt : Nat → Nat) (p : Nat) (f : Nat → Nat) : Nat → Nat := apI wt p f 0
theorem apI_31 (wt : Nat → Nat) (p : Nat) (f : Nat → Nat) : apI wt p f 31 = f := by
  funext j
  unfold apI
  rw [if_pos (by omega)]
theorem wv_apI {wt : Nat → Nat} {p : Nat} {f : Nat → Nat} {m : Nat} (hm : m < 31) (l : Nat) : wv (apI wt p f (m + 1)) m l = wv f m l := by
  unfold wv
  split
  · unfold apI
    rw [if_pos (by omega)]
  · rfl
theorem apI_step {wt : Nat → Nat} {p : Nat} {f : Nat → Nat} {m : Nat} (hm : m < 31) : uN (apI wt p f (m + 1)) m (sumN (fun l => gt wt p l * wv (apI wt p f (m + 1)) m l) 6) = apI wt p f m := by
  have e : (fun l => gt wt p l * wv (apI wt p f (m + 1)) m l) = fun l => gt wt p l * wv f m l := funext fun l => by rw [wv_apI hm]
  rw [e]
  funext j
  unfold uN
  by_cases h : j = m
  · subst h
    rw [if_pos rfl]
    unfold apI
    rw [if_neg (by omega)]
    rfl
  · rw [if_neg h]
    unfold apI
    by_cases h2 : j < m ∨ 31 ≤ j
    · rw [if_pos h2, if_pos (by omega)]
    · rw [if_neg h2, if_neg (by omega)]
def oneF (f : Nat → Nat) (i j : Nat) : Nat := if j < i then (if j = 0 then 1 else 0) else f j
theorem oneF_0 (f : Nat → Nat) : oneF f 0 = f := funext fun j => if_neg (Nat.not_lt_zero j)
theorem oneF_step (f : Nat → Nat) (i : Nat) : uN (oneF f i) i (if i = 0 then 1 else 0) = oneF f (i + 1) := by
  funext j
  unfold uN oneF
  by_cases h : j = i
  · subst h
    rw [if_pos rfl]
    exact (if_pos (Nat.lt_succ_self j)).symm
  · rw [if_neg h]
    by_cases h2 : j < i
    · exact (if_pos h2).trans (if_pos (Nat.lt_succ_of_lt h2)).symm
    · exact (if_neg h2).trans (if_neg (by omega)).symm
/-- the counts with the first parts but one -/
def cnF (wt : Nat → Nat) (wo : Int32) (f : Nat → Nat) : Nat → Nat → Nat
  | 0 => oneF f 31
  | p + 1 => if nI p = wo then cnF wt wo f p else apP wt p (cnF wt wo f p)
theorem cnF_y {wt : Nat → Nat} {wo : Int32} {f : Nat → Nat} {p : Nat} (h : nI p = wo) : cnF wt wo f (p + 1) = cnF wt wo f p := if_pos h
theorem cnF_n {wt : Nat → Nat} {wo : Int32} {f : Nat → Nat} {p : Nat} (h : ¬ nI p = wo) : cnF wt wo f (p + 1) = apP wt p (cnF wt wo f p) := if_neg h
def wfr (f : Nat → Nat) (s : Nat) : Nat → Nat := sumN (fun t => f (s + t))
def wfrom (f : Nat → Nat) (s : Nat) : Nat := wfr f s (31 - s)
def odds (f : Nat → Nat) (lim : Nat) : UInt64 := if wfrom f 0 = 0 then FP.dconst0 else FP.ddiv (FP.l2d (lN (wfrom f lim))) (FP.l2d (lN (wfrom f 0)))
theorem sub_pm {s l : Nat} (hs : s < 31) (hl : l < 6) (f : Nat → Nat) : (∃ m, m < 31 ∧ nI s - nI l = nI m ∧ wv f s l = f m) ∨ (nI s - nI l < 0 ∧ wv f s l = 0) := by
  by_cases h : l ≤ s
  · exact Or.inl ⟨s - l, by omega, pk_sub h, if_pos h⟩
  · exact Or.inr ⟨pk_sneg (by omega) (by omega), if_neg h⟩
set_option maxHeartbeats 4000000 in
set_option maxRecDepth 100000 in
theorem c_X1_init {G : GP} {k : Nat} : AM G sX1_init 1 31 [.ref k] [(k, ob 1 [.null])] (fun v w => v = none ∧ ∃ a, w = wK G k a (fun _ => 0)) := by
  refine AM.of (σ := sX1_init) (by decide +kernel) (by decide +kernel) (Nat.le_of_ble_eq_true rfl) (fun B hB hR hE0 hN => ?_)
  have hE := BE.of hE0
  have hN : B.meth.name = "<init>" := hN
  refine a_aload_n hB dX1_init_0 rfl ?_
  refine a_objInit hB ml_X1_3 dX1_init_1 (roomF hR (Nat.le_of_ble_eq_true rfl)) (room12 hR (Nat.le_of_ble_eq_true rfl)) ?_
  refine a_aload_n hB dX1_init_4 rfl ?_
  refine a_bipushN (v := 31) hB dX1_init_5 (by decide) ?_
  refine a_newJ (N := 31) hB dX1_init_7 (nI_pos (by decide)) (nI_clamp (by decide)) (by decide) (roomc hR (Nat.le_of_ble_eq_true rfl)) (rooms hR (Nat.le_of_ble_eq_true rfl)) (fun q1 => ?_)
  refine a_putF (T := TX1) (ci := 1) hB hN dX1_init_9 0 fl_X1_9 lay_X1 tyX1 tyX1_ok nmX1 rfl (by decide) rfl rfl rfl 0 rfl rfl rfl rfl (Nat.le_of_ble_eq_true rfl) ?_
  exact a_vret hB hE rfl dX1_init_12 (Nat.le_of_ble_eq_true rfl) (Nat.le_of_ble_eq_true rfl) (AKeep.of rfl) ⟨rfl, q1, rfl⟩
set_option maxHeartbeats 4000000 in
set_option maxRecDepth 100000 in
theorem c_X1_waysOf_in {G : GP} {k a m : Nat} {f : Nat → Nat} (hm : m < 31) : AMd G sX1_waysOf [.ref k, .int (nI m)] (wK G k a f) (some (.long (lN (f m)))) (wK G k a f) := by
  refine AM.of (σ := sX1_waysOf) (by decide +kernel) (by decide +kernel) (Nat.le_of_ble_eq_true rfl) (fun B hB hR hE0 hN => ?_)
  have hE := BE.of hE0
  refine a_iload_n hB dX1_waysOf_0 rfl ?_
  refine a_if_ltN_f (tgt := 22) hB dX1_waysOf_1 (by decide) (by omega) ?_
  refine a_iload_n hB dX1_waysOf_4 rfl ?_
  refine a_aload_n hB dX1_waysOf_5 rfl ?_
  refine a_get (T := TX1) (ci := 1) hB dX1_waysOf_6 0 fl_X1_9 lay_X1 rfl (by decide) rfl 0 rfl rfl ?_
  refine a_alen (v := nI 31) hB dX1_waysOf_9 1 2 rfl rfl rfl ?_
  refine a_icmp_geN_f (tgt := 22) hB dX1_waysOf_10 (by decide) (by omega) (by omega) (by omega) ?_
  refine a_aload_n hB dX1_waysOf_13 rfl ?_
  refine a_get (T := TX1) (ci := 1) hB dX1_waysOf_14 0 fl_X1_9 lay_X1 rfl (by decide) rfl 0 rfl rfl ?_
  refine a_iload_n hB dX1_waysOf_17 rfl ?_
  refine a_laloadN hB dX1_waysOf_18 1 rfl (by omega) (by decide) ?_
  refine a_goto (tgt := 23) hB dX1_waysOf_19 (by decide) ?_
  exact a_lret hB hE rfl dX1_waysOf_23 (Nat.le_of_ble_eq_true rfl) (Nat.le_of_ble_eq_true rfl) (AKeep.of rfl) ⟨rfl, rfl⟩
set_option maxHeartbeats 4000000 in
set_option maxRecDepth 100000 in
theorem c_X1_waysOf_lo {G : GP} {k a : Nat} {x : Int32} {f : Nat → Nat} (hx : x < 0) : AMd G sX1_waysOf [.ref k, .int x] (wK G k a f) (some (.long (lN 0))) (wK G k a f) := by
  refine AM.of (σ := sX1_waysOf) (by decide +kernel) (by decide +kernel) (Nat.le_of_ble_eq_true rfl) (fun B hB hR hE0 hN => ?_)
  have hE := BE.of hE0
  refine a_iload_n hB dX1_waysOf_0 rfl ?_
  refine a_if_lt_t (tgt := 22) hB dX1_waysOf_1 (by decide) hx ?_
  refine a_lconstN (v := 0) hB dX1_waysOf_22 (by decide) ?_
  exact a_lret hB hE rfl dX1_waysOf_23 (Nat.le_of_ble_eq_true rfl) (Nat.le_of_ble_eq_true rfl) (AKeep.of rfl) ⟨rfl, rfl⟩
set_option maxHeartbeats 4000000 in
set_option maxRecDepth 100000 in
theorem c_X1_waysOf_hi {G : GP} {k a m : Nat} {f : Nat → Nat} (hm : 31 ≤ m) (h2 : m < 2 ^ 31) : AMd G sX1_waysOf [.ref k, .int (nI m)] (wK G k a f) (some (.long (lN 0))) (wK G k a f) := by
  refine AM.of (σ := sX1_waysOf) (by decide +kernel) (by decide +kernel) (Nat.le_of_ble_eq_true rfl) (fun B hB hR hE0 hN => ?_)
  have hE := BE.of hE0
  refine a_iload_n hB dX1_waysOf_0 rfl ?_
  refine a_if_ltN_f (tgt := 22) hB dX1_waysOf_1 (by decide) (by omega) ?_
  refine a_iload_n hB dX1_waysOf_4 rfl ?_
  refine a_aload_n hB dX1_waysOf_5 rfl ?_
  refine a_get (T := TX1) (ci := 1) hB dX1_waysOf_6 0 fl_X1_9 lay_X1 rfl (by decide) rfl 0 rfl rfl ?_
  refine a_alen (v := nI 31) hB dX1_waysOf_9 1 2 rfl rfl rfl ?_
  refine a_icmp_geN_t (tgt := 22) hB dX1_waysOf_10 (by decide) (by omega) (by omega) (by omega) ?_
  refine a_lconstN (v := 0) hB dX1_waysOf_22 (by decide) ?_
  exact a_lret hB hE rfl dX1_waysOf_23 (Nat.le_of_ble_eq_true rfl) (Nat.le_of_ble_eq_true rfl) (AKeep.of rfl) ⟨rfl, rfl⟩
theorem c_X1_waysOf {G : GP} {k a v : Nat} {x : Int32} {f : Nat → Nat} (h : (∃ m, m < 31 ∧ x = nI m ∧ v = f m) ∨ (x < 0 ∧ v = 0)) : AMd G sX1_waysOf [.ref k, .int x] (wK G k a f) (some (.long (lN v))) (wK G k a f) := by
  rcases h with ⟨m, hm, rfl, rfl⟩ | ⟨h, rfl⟩
  · exact c_X1_waysOf_in hm
  · exact c_X1_waysOf_lo h
set_option maxHeartbeats 4000000 in
set_option maxRecDepth 100000 in
theorem c_X1_addPartOf {G : GP} {k a p : Nat} {f : Nat → Nat} {pa : Nat → Nat} {P : PV} (hp : p < 6) (hw : ∀ j, P.wt j ≤ 9) : AMd G sX1_addPartOf [.ref k, .ref (pa 0), .int (nI p)] (wK G k a f ++ wQ G pa P) none (wK G k a (apP P.wt p f) ++ wQ G pa P) := by
  refine AM.of (σ := sX1_addPartOf) (by decide +kernel) (by decide +kernel) (Nat.le_of_ble_eq_true rfl) (fun B hB hR hE0 hN => ?_)
  have hE := BE.of hE0
  refine a_aload_n hB dX1_addPartOf_0 rfl ?_
  refine a_get (T := TX1) (ci := 1) hB dX1_addPartOf_1 0 fl_X1_9 lay_X1 rfl (by decide) rfl 0 rfl rfl ?_
  refine a_alen (v := nI 31) hB dX1_addPartOf_4 1 2 rfl rfl rfl ?_
  refine a_iconstN (v := 1) hB dX1_addPartOf_5 (by decide) ?_
  refine a_isubN hB dX1_addPartOf_6 (by omega) ?_
  refine a_istore_n hB dX1_addPartOf_7 (by decide) ?_
  have lp8 : ∀ (j8 i : Nat), i = j8 ∧ i ≤ 31 → aW G sX1_addPartOf B 8 [(0, .ref k), (1, .ref (pa 0)), (2, .int (nI p)), (3, .int (nI i + (-1)))] [] (wK G k a (apI P.wt p f i) ++ wQ G pa P) 0 0 := by
    intro j8
    induction j8 with
    | zero =>
      intro i hi
      obtain ⟨rfl, hb⟩ := hi
      refine a_iload_n hB dX1_addPartOf_8 rfl ?_
      refine a_if_lt_t (tgt := 70) hB dX1_addPartOf_9 (by decide) (by decide) ?_
      exact a_vret hB hE rfl dX1_addPartOf_70 (Nat.le_of_ble_eq_true rfl) (Nat.le_of_ble_eq_true rfl) (AKeep.of rfl) ⟨rfl, rfl⟩
    | succ j8 ih8 =>
      intro i hi
      obtain ⟨rfl, hb⟩ := hi
      rw [pk_m1]
      refine a_iload_n hB dX1_addPartOf_8 rfl ?_
      refine a_if_ltN_f (tgt := 70) hB dX1_addPartOf_9 (by decide) (by omega) ?_
      refine a_lconstN (v := 0) hB dX1_addPartOf_12 (by decide) ?_
      refine a_lstore hB dX1_addPartOf_13 (by decide) ?_
      refine a_iconstN (v := 0) hB dX1_addPartOf_15 (by decide) ?_
      refine a_istore hB dX1_addPartOf_16 (by decide) ?_
      have lp18 : ∀ (j18 u : Nat), u + j18 = 6 → aW G sX1_addPartOf B 18 [(0, .ref k), (1, .ref (pa 0)), (2, .int (nI p)), (3, .int (nI j8)), (4, .long (lN (sumN (fun l => gt P.wt p l * wv (apI P.wt p f (j8 + 1)) j8 l) u))), (6, .int (nI u))] [] (wK G k a (apI P.wt p f (j8 + 1)) ++ wQ G pa P) 0 0 := by
        intro j18
        induction j18 with
        | zero =>
          intro u hi
          refine a_iload hB dX1_addPartOf_18 rfl ?_
          refine a_bipushN (v := 6) hB dX1_addPartOf_20 (by decide) ?_
          refine a_icmp_geN_t (tgt := 56) hB dX1_addPartOf_22 (by decide) (by omega) (by omega) (by omega) ?_
          refine a_aload_n hB dX1_addPartOf_56 rfl ?_
          refine a_get (T := TX1) (ci := 1) hB dX1_addPartOf_57 0 fl_X1_9 lay_X1 rfl (by decide) rfl 0 rfl rfl ?_
          refine a_iload_n hB dX1_addPartOf_60 rfl ?_
          refine a_lload hB dX1_addPartOf_61 rfl ?_
          refine a_lastoreN hB dX1_addPartOf_63 1 rfl (by omega) (by decide) ?_
          refine a_iinc (v := -1) hB dX1_addPartOf_64 rfl (by decide) (by decide) ?_
          refine a_goto (tgt := 8) hB dX1_addPartOf_67 (by decide) ?_
          exact aW_at [0, 1, 2, 3] rfl rfl (by rw [show u = 6 by omega]; exact congrArg (fun z => wK G k a z ++ wQ G pa P) (apI_step (by omega))) (ih8 j8 ⟨rfl, by omega⟩)
        | succ j18 ih18 =>
          intro u hi
          refine a_iload hB dX1_addPartOf_18 rfl ?_
          refine a_bipushN (v := 6) hB dX1_addPartOf_20 (by decide) ?_
          refine a_icmp_geN_f (tgt := 56) hB dX1_addPartOf_22 (by decide) (by omega) (by omega) (by omega) ?_
          refine a_lload hB dX1_addPartOf_25 rfl ?_
          refine a_aload_n hB dX1_addPartOf_27 rfl ?_
          refine a_get (T := TX4) (ci := 4) hB dX1_addPartOf_28 0 fl_X1_25 lay_X4 rfl (by decide) rfl 2 rfl rfl ?_
          refine a_iload_n hB dX1_addPartOf_31 rfl ?_
          refine a_iload hB dX1_addPartOf_32 rfl ?_
          refine a_callVr (q0 := 3) hB (c_X7_get (by omega) (by omega)) mk_X7_get ml_X1_29 dX1_addPartOf_34 rfl rfl [3, 4] rfl (by decide) rfl rfl (fit_of hR (by decide)) (Nat.le_of_ble_eq_true rfl) ?_
          refine a_i2lN hB dX1_addPartOf_37 (Nat.lt_of_le_of_lt (gt_lt hw p u) (by decide)) ?_
          refine a_aload_n hB dX1_addPartOf_38 rfl ?_
          refine a_iload_n hB dX1_addPartOf_39 rfl ?_
          refine a_iload hB dX1_addPartOf_40 rfl ?_
          refine a_isub hB dX1_addPartOf_42 ?_
          refine a_callVr (q0 := 0) hB (c_X1_waysOf (sub_pm (by omega) (by omega) _)) mk_X1_waysOf ml_X1_35 dX1_addPartOf_43 rfl rfl [0, 1] rfl (by decide) rfl rfl (fit_of hR (by decide)) (Nat.le_of_ble_eq_true rfl) ?_
          refine a_lmulN hB dX1_addPartOf_46 ?_
          refine a_laddN hB dX1_addPartOf_47 ?_
          refine a_lstore hB dX1_addPartOf_48 (by decide) ?_
          refine a_iincN (b := 1) hB dX1_addPartOf_50 rfl (by decide) (by decide) ?_
          refine a_goto (tgt := 18) hB dX1_addPartOf_53 (by decide) ?_
          exact aW_at [0, 1, 2, 3, 4, 5] rfl rfl rfl (ih18 (u + 1) (by omega))
      exact aW_at [0, 1, 2, 3, 4, 5] rfl rfl rfl (lp18 (6) 0 (by omega))
  exact aW_at [0, 1, 2, 3] rfl rfl (by rw [apI_31]) (lp8 31 31 ⟨rfl, Nat.le_refl _⟩)
set_option maxHeartbeats 4000000 in
set_option maxRecDepth 100000 in
theorem c_X1_fill {G : GP} {k a : Nat} {wo : Int32} {f : Nat → Nat} {pa : Nat → Nat} {P : PV} (hp : P.parts ≤ 6) (hw : ∀ j, P.wt j ≤ 9) : AMd G sX1_fill [.ref k, .ref (pa 0), .int wo] (wK G k a f ++ wQ G pa P) none (wK G k a (cnF P.wt wo f P.parts) ++ wQ G pa P) := by
  refine AM.of (σ := sX1_fill) (by decide +kernel) (by decide +kernel) (Nat.le_of_ble_eq_true rfl) (fun B hB hR hE0 hN => ?_)
  have hE := BE.of hE0
  refine a_iconstN (v := 0) hB dX1_fill_0 (by decide) ?_
  refine a_istore_n hB dX1_fill_1 (by decide) ?_
  have lp2 : ∀ (j2 i : Nat), i + j2 = 31 → aW G sX1_fill B 2 [(0, .ref k), (1, .ref (pa 0)), (2, .int wo), (3, .int (nI i))] [] (wK G k a (oneF f i) ++ wQ G pa P) 0 0 := by
    intro j2
    induction j2 with
    | zero =>
      intro i hi
      refine a_iload_n hB dX1_fill_2 rfl ?_
      refine a_aload_n hB dX1_fill_3 rfl ?_
      refine a_get (T := TX1) (ci := 1) hB dX1_fill_4 0 fl_X1_9 lay_X1 rfl (by decide) rfl 0 rfl rfl ?_
      refine a_alen (v := nI 31) hB dX1_fill_7 1 2 rfl rfl rfl ?_
      refine a_icmp_geN_t (tgt := 32) hB dX1_fill_8 (by decide) (by omega) (by omega) (by omega) ?_
      refine a_iconstN (v := 0) hB dX1_fill_32 (by decide) ?_
      refine a_istore_n hB dX1_fill_33 (by decide) ?_
      have lp34 : ∀ (j34 i : Nat), i + j34 = P.parts → aW G sX1_fill B 34 [(0, .ref k), (1, .ref (pa 0)), (2, .int wo), (3, .int (nI i))] [] (wK G k a (cnF P.wt wo f i) ++ wQ G pa P) 0 0 := by
        intro j34
        induction j34 with
        | zero =>
          intro i hi
          refine a_iload_n hB dX1_fill_34 rfl ?_
          refine a_aload_n hB dX1_fill_35 rfl ?_
          refine a_get (T := TX4) (ci := 4) hB dX1_fill_36 3 fl_X1_15 lay_X4 rfl (by decide) rfl 2 rfl rfl ?_
          refine a_icmp_geN_t (tgt := 59) hB dX1_fill_39 (by decide) (by omega) (by omega) (by omega) ?_
          exact a_vret hB hE rfl dX1_fill_59 (Nat.le_of_ble_eq_true rfl) (Nat.le_of_ble_eq_true rfl) (AKeep.of rfl) ⟨rfl, by rw [show i = P.parts by omega]⟩
        | succ j34 ih34 =>
          intro i hi
          refine a_iload_n hB dX1_fill_34 rfl ?_
          refine a_aload_n hB dX1_fill_35 rfl ?_
          refine a_get (T := TX4) (ci := 4) hB dX1_fill_36 3 fl_X1_15 lay_X4 rfl (by decide) rfl 2 rfl rfl ?_
          refine a_icmp_geN_f (tgt := 59) hB dX1_fill_39 (by decide) (by omega) (by omega) (by omega) ?_
          refine a_iload_n hB dX1_fill_42 rfl ?_
          refine a_iload_n hB dX1_fill_43 rfl ?_
          refine a_icmp_eq (tgt := 53) hB dX1_fill_44 (by decide) (fun c44 => ?_) (fun c44 => ?_)
          · refine a_iincN (b := 1) hB dX1_fill_53 rfl (by decide) (by decide) ?_
            refine a_goto (tgt := 34) hB dX1_fill_56 (by decide) ?_
            first | (have e9 := cnF_y (wt := P.wt) (f := f) c44) | (have e9 := cnF_n (wt := P.wt) (f := f) c44)
            exact aW_at [0, 1, 2, 3] rfl rfl (by rw [e9]) (ih34 (i + 1) (by omega))
          · refine a_aload_n hB dX1_fill_47 rfl ?_
            refine a_aload_n hB dX1_fill_48 rfl ?_
            refine a_iload_n hB dX1_fill_49 rfl ?_
            refine a_callVd (w2 := wK G k a (apP P.wt i (cnF P.wt wo f i)) ++ wQ G pa P) (q0 := 0) hB (c_X1_addPartOf (k := k) (a := a) (p := i) (f := cnF P.wt wo f i) (pa := pa) (P := P) (by omega) hw) mk_X1_addPartOf ml_X1_21 dX1_fill_50 rfl rfl [0, 1, 2, 3, 4] rfl (by decide) rfl rfl (fit_of hR (by decide)) (Nat.le_of_ble_eq_true rfl) rfl ?_
            refine a_iincN (b := 1) hB dX1_fill_53 rfl (by decide) (by decide) ?_
            refine a_goto (tgt := 34) hB dX1_fill_56 (by decide) ?_
            first | (have e9 := cnF_y (wt := P.wt) (f := f) c44) | (have e9 := cnF_n (wt := P.wt) (f := f) c44)
            exact aW_at [0, 1, 2, 3] rfl rfl (by rw [e9]) (ih34 (i + 1) (by omega))
      exact aW_at [0, 1, 2, 3] rfl rfl (by rw [show i = 31 by omega]; rfl) (lp34 (P.parts) 0 (by omega))
    | succ j2 ih2 =>
      intro i hi
      refine a_iload_n hB dX1_fill_2 rfl ?_
      refine a_aload_n hB dX1_fill_3 rfl ?_
      refine a_get (T := TX1) (ci := 1) hB dX1_fill_4 0 fl_X1_9 lay_X1 rfl (by decide) rfl 0 rfl rfl ?_
      refine a_alen (v := nI 31) hB dX1_fill_7 1 2 rfl rfl rfl ?_
      refine a_icmp_geN_f (tgt := 32) hB dX1_fill_8 (by decide) (by omega) (by omega) (by omega) ?_
      refine a_aload_n hB dX1_fill_11 rfl ?_
      refine a_get (T := TX1) (ci := 1) hB dX1_fill_12 0 fl_X1_9 lay_X1 rfl (by decide) rfl 0 rfl rfl ?_
      refine a_iload_n hB dX1_fill_15 rfl ?_
      refine a_iload_n hB dX1_fill_16 rfl ?_
      refine a_if_neN (tgt := 24) hB dX1_fill_17 (by decide) (by omega) (fun c17 => ?_) (fun c17 => ?_)
      · refine a_lconstN (v := 0) hB dX1_fill_24 (by decide) ?_
        refine a_lastoreN hB dX1_fill_25 1 rfl (by omega) (by decide) ?_
        refine a_iincN (b := 1) hB dX1_fill_26 rfl (by decide) (by decide) ?_
        refine a_goto (tgt := 2) hB dX1_fill_29 (by decide) ?_
        first | (have e9 := oneF_step f i; rw [if_pos c17] at e9) | (have e9 := oneF_step f i; rw [if_neg c17] at e9)
        exact aW_at [0, 1, 2, 3] rfl rfl (by rw [← e9]; rfl) (ih2 (i + 1) (by omega))
      · refine a_lconstN (v := 1) hB dX1_fill_20 (by decide) ?_
        refine a_goto (tgt := 25) hB dX1_fill_21 (by decide) ?_
        refine a_lastoreN hB dX1_fill_25 1 rfl (by omega) (by decide) ?_
        refine a_iincN (b := 1) hB dX1_fill_26 rfl (by decide) (by decide) ?_
        refine a_goto (tgt := 2) hB dX1_fill_29 (by decide) ?_
        first | (have e9 := oneF_step f i; rw [if_pos c17] at e9) | (have e9 := oneF_step f i; rw [if_neg c17] at e9)
        exact aW_at [0, 1, 2, 3] rfl rfl (by rw [← e9]; rfl) (ih2 (i + 1) (by omega))
  exact aW_at [0, 1, 2, 3] rfl rfl (by rw [oneF_0]) (lp2 (31) 0 (by omega))
set_option maxHeartbeats 4000000 in
set_option maxRecDepth 100000 in
theorem c_X1_waysFrom {G : GP} {k a s : Nat} {f : Nat → Nat} (hs : s < 2 ^ 30) : AMd G sX1_waysFrom [.ref k, .int (nI s)] (wK G k a f) (some (.long (lN (wfrom f s)))) (wK G k a f) := by
  refine AM.of (σ := sX1_waysFrom) (by decide +kernel) (by decide +kernel) (Nat.le_of_ble_eq_true rfl) (fun B hB hR hE0 hN => ?_)
  have hE := BE.of hE0
  refine a_lconstN (v := 0) hB dX1_waysFrom_0 (by decide) ?_
  refine a_lstore_n hB dX1_waysFrom_1 (by decide) ?_
  refine a_iload_n hB dX1_waysFrom_2 rfl ?_
  refine a_iconstN (v := 0) hB dX1_waysFrom_3 (by decide) ?_
  refine a_maxN hB ml_X1_39 dX1_waysFrom_4 (by omega) (by omega) (roomF hR (Nat.le_of_ble_eq_true rfl)) (room13 hR (Nat.le_of_ble_eq_true rfl)) (roomc hR (Nat.le_of_ble_eq_true rfl)) (rooms hR (Nat.le_of_ble_eq_true rfl)) ?_
  refine a_istore hB dX1_waysFrom_7 (by decide) ?_
  have lp9 : ∀ (j9 i : Nat), i + j9 = 31 - s → aW G sX1_waysFrom B 9 [(0, .ref k), (1, .int (nI s)), (2, .long (lN (wfr f s i))), (4, .int (nI (s + i)))] [] (wK G k a f) 0 0 := by
    intro j9
    induction j9 with
    | zero =>
      intro i hi
      refine a_iload hB dX1_waysFrom_9 rfl ?_
      refine a_aload_n hB dX1_waysFrom_11 rfl ?_
      refine a_get (T := TX1) (ci := 1) hB dX1_waysFrom_12 0 fl_X1_9 lay_X1 rfl (by decide) rfl 0 rfl rfl ?_
      refine a_alen (v := nI 31) hB dX1_waysFrom_15 1 2 rfl rfl rfl ?_
      refine a_icmp_geN_t (tgt := 35) hB dX1_waysFrom_16 (by decide) (by omega) (by omega) (by omega) ?_
      refine a_lload_n hB dX1_waysFrom_35 rfl ?_
      exact a_lret hB hE rfl dX1_waysFrom_36 (Nat.le_of_ble_eq_true rfl) (Nat.le_of_ble_eq_true rfl) (AKeep.of rfl) ⟨by rw [show i = 31 - s by omega]; rfl, rfl⟩
    | succ j9 ih9 =>
      intro i hi
      refine a_iload hB dX1_waysFrom_9 rfl ?_
      refine a_aload_n hB dX1_waysFrom_11 rfl ?_
      refine a_get (T := TX1) (ci := 1) hB dX1_waysFrom_12 0 fl_X1_9 lay_X1 rfl (by decide) rfl 0 rfl rfl ?_
      refine a_alen (v := nI 31) hB dX1_waysFrom_15 1 2 rfl rfl rfl ?_
      refine a_icmp_geN_f (tgt := 35) hB dX1_waysFrom_16 (by decide) (by omega) (by omega) (by omega) ?_
      refine a_lload_n hB dX1_waysFrom_19 rfl ?_
      refine a_aload_n hB dX1_waysFrom_20 rfl ?_
      refine a_get (T := TX1) (ci := 1) hB dX1_waysFrom_21 0 fl_X1_9 lay_X1 rfl (by decide) rfl 0 rfl rfl ?_
      refine a_iload hB dX1_waysFrom_24 rfl ?_
      refine a_laloadN hB dX1_waysFrom_26 1 rfl (by omega) (by decide) ?_
      refine a_laddN hB dX1_waysFrom_27 ?_
      refine a_lstore_n hB dX1_waysFrom_28 (by decide) ?_
      refine a_iincN (b := 1) hB dX1_waysFrom_29 rfl (by decide) (by decide) ?_
      refine a_goto (tgt := 9) hB dX1_waysFrom_32 (by decide) ?_
      exact aW_at [0, 1, 2, 3] rfl rfl rfl (ih9 (i + 1) (by omega))
  exact aW_at [0, 1, 2, 3] (by rw [Nat.max_eq_left (Nat.zero_le _)]; rfl) rfl rfl (lp9 (31 - s) 0 (by omega))
set_option maxHeartbeats 4000000 in
set_option maxRecDepth 100000 in
theorem c_X1_oddsFrom {G : GP} {k a s : Nat} {f : Nat → Nat} (hs : s < 2 ^ 30) (hb : wfrom f 0 < 2 ^ 63) (hv : ¬ wfrom f 0 = 0 → vf_n64 (FP.ddiv (FP.l2d (lN (wfrom f s))) (FP.l2d (lN (wfrom f 0))))) : AMd G sX1_oddsFrom [.ref k, .int (nI s)] (wK G k a f) (some (.double (odds f s))) (wK G k a f) := by
  refine AM.of (σ := sX1_oddsFrom) (by decide +kernel) (by decide +kernel) (Nat.le_of_ble_eq_true rfl) (fun B hB hR hE0 hN => ?_)
  have hE := BE.of hE0
  refine a_aload_n hB dX1_oddsFrom_0 rfl ?_
  refine a_iconstN (v := 0) hB dX1_oddsFrom_1 (by decide) ?_
  refine a_callVr (q0 := 0) hB (c_X1_waysFrom (by omega)) mk_X1_waysFrom ml_X1_44 dX1_oddsFrom_2 rfl rfl [0, 1] rfl (by decide) rfl rfl (fit_of hR (by decide)) (Nat.le_of_ble_eq_true rfl) ?_
  refine a_lstore_n hB dX1_oddsFrom_5 (by decide) ?_
  refine a_lload_n hB dX1_oddsFrom_6 rfl ?_
  refine a_lconstN (v := 0) hB dX1_oddsFrom_7 (by decide) ?_
  refine a_lcmp hB dX1_oddsFrom_8 ?_
  refine a_if_leL (tgt := 24) hB dX1_oddsFrom_9 (by decide) hb (by omega) (fun c9 => ?_) (fun c9 => ?_)
  · refine a_dconst0 hB dX1_oddsFrom_24 ?_
    exact a_dret hB hE rfl dX1_oddsFrom_25 (Nat.le_of_ble_eq_true rfl) (Nat.le_of_ble_eq_true rfl) (AKeep.of rfl) ⟨by unfold odds; first | rw [if_pos (by omega)] | rw [if_neg (by omega)], rfl⟩
  · refine a_aload_n hB dX1_oddsFrom_12 rfl ?_
    refine a_iload_n hB dX1_oddsFrom_13 rfl ?_
    refine a_callVr (q0 := 0) hB (c_X1_waysFrom (by omega)) mk_X1_waysFrom ml_X1_44 dX1_oddsFrom_14 rfl rfl [0, 1] rfl (by decide) rfl rfl (fit_of hR (by decide)) (Nat.le_of_ble_eq_true rfl) ?_
    refine a_l2d hB dX1_oddsFrom_17 ?_
    refine a_lload_n hB dX1_oddsFrom_18 rfl ?_
    refine a_l2d hB dX1_oddsFrom_19 ?_
    refine a_ddiv hB dX1_oddsFrom_20 (hv (by omega)) ?_
    refine a_goto (tgt := 25) hB dX1_oddsFrom_21 (by decide) ?_
    exact a_dret hB hE rfl dX1_oddsFrom_25 (Nat.le_of_ble_eq_true rfl) (Nat.le_of_ble_eq_true rfl) (AKeep.of rfl) ⟨by unfold odds; first | rw [if_pos (by omega)] | rw [if_neg (by omega)], rfl⟩

