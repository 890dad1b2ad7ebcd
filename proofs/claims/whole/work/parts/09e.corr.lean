abbrev wC (G : GP) (k a : Nat) (g : Nat → UInt64) : va_W := [(k, ob 0 [.ref a]), (a, aD G 31 g)]
def rd (g : Nat → UInt64) (s l : Nat) : UInt64 := if l ≤ s then g (s - l) else FP.dconst0
/-- the greater one, the first where dcmpl doesn't tell the second as greater -/
def dmx (x y : UInt64) : UInt64 := if Op.cmpValue (FP.dcmp y x) .l ≤ 0 then x else y
theorem dmx_l {x y : UInt64} (h : Op.cmpValue (FP.dcmp y x) .l ≤ 0) : dmx x y = x := if_pos h
theorem dmx_r {x y : UInt64} (h : ¬ Op.cmpValue (FP.dcmp y x) .l ≤ 0) : dmx x y = y := if_neg h
def mxD (f : Nat → UInt64) : Nat → UInt64
  | 0 => FP.dconst0
  | n + 1 => dmx (mxD f n) (f n)
def caS (P : PV) (p : Nat) (g : Nat → UInt64) (s : Nat) : UInt64 := mxD (fun l => P.cor (rd g s l) p l) 6
def caI (P : PV) (p : Nat) (g : Nat → UInt64) (i j : Nat) : UInt64 := if j < i ∨ 31 ≤ j then g j else caS P p g j
def caP (P : PV) (p : Nat) (g : Nat → UInt64) : Nat → UInt64 := caI P p g 0
theorem caI_31 (P : PV) (p : Nat) (g : Nat → UInt64) : caI P p g 31 = g := by
  funext j
  unfold caI
  rw [if_pos (by omega)]
theorem rd_caI {P : PV} {p : Nat} {g : Nat → UInt64} {m : Nat} (hm : m < 31) (l : Nat) : rd (caI P p g (m + 1)) m l = rd g m l := by
  unfold rd
  split
  · unfold caI
    rw [if_pos (by omega)]
  · rfl
theorem caI_step {P : PV} {p : Nat} {g : Nat → UInt64} {m : Nat} (hm : m < 31) : uN (caI P p g (m + 1)) m (mxD (fun l => P.cor (rd (caI P p g (m + 1)) m l) p l) 6) = caI P p g m := by
  have e : (fun l => P.cor (rd (caI P p g (m + 1)) m l) p l) = fun l => P.cor (rd g m l) p l := funext fun l => by rw [rd_caI hm]
  rw [e]
  funext j
  unfold uN
  by_cases h : j = m
  · subst h
    rw [if_pos rfl]
    unfold caI
    rw [if_neg (by omega)]
    rfl
  · rw [if_neg h]
    unfold caI
    by_cases h2 : j < m ∨ 31 ≤ j
    · rw [if_pos h2, if_pos (by omega)]
    · rw [if_neg h2, if_neg (by omega)]
def oneD (f : Nat → UInt64) (i j : Nat) : UInt64 := if j < i then (if j = 0 then FP.dconst1 else FP.dconst0) else f j
theorem oneD_0 (f : Nat → UInt64) : oneD f 0 = f := funext fun j => if_neg (Nat.not_lt_zero j)
theorem oneD_step (f : Nat → UInt64) (i : Nat) : uN (oneD f i) i (if i = 0 then FP.dconst1 else FP.dconst0) = oneD f (i + 1) := by
  funext j
  unfold uN oneD
  by_cases h : j = i
  · subst h
    rw [if_pos rfl]
    exact (if_pos (Nat.lt_succ_self j)).symm
  · rw [if_neg h]
    by_cases h2 : j < i
    · exact (if_pos h2).trans (if_pos (Nat.lt_succ_of_lt h2)).symm
    · exact (if_neg h2).trans (if_neg (by omega)).symm
def cfF (P : PV) (g : Nat → UInt64) : Nat → Nat → UInt64
  | 0 => oneD g 31
  | p + 1 => caP P p (cfF P g p)
def gfr (g : Nat → UInt64) (s : Nat) : Nat → UInt64 := mxD (fun t => g (s + t))
def gfrom (g : Nat → UInt64) (s : Nat) : UInt64 := gfr g s (31 - s)
theorem sub_pmD {s l : Nat} (hs : s < 31) (hl : l < 6) (f : Nat → UInt64) : (∃ m, m < 31 ∧ nI s - nI l = nI m ∧ rd f s l = f m) ∨ (nI s - nI l < 0 ∧ rd f s l = FP.dconst0) := by
  by_cases h : l ≤ s
  · exact Or.inl ⟨s - l, by omega, pk_sub h, if_pos h⟩
  · exact Or.inr ⟨pk_sneg (by omega) (by omega), if_neg h⟩
set_option maxHeartbeats 4000000 in
set_option maxRecDepth 100000 in
theorem c_X0_init {G : GP} {k : Nat} : AM G sX0_init 1 31 [.ref k] [(k, ob 0 [.null])] (fun v w => v = none ∧ ∃ a, w = wC G k a (fun _ => FP.dconst0)) := by
  refine AM.of (σ := sX0_init) (by decide +kernel) (by decide +kernel) (Nat.le_of_ble_eq_true rfl) (fun B hB hR hE0 hN => ?_)
  have hE := BE.of hE0
  have hN : B.meth.name = "<init>" := hN
  refine a_aload_n hB dX0_init_0 rfl ?_
  refine a_objInit hB ml_X0_3 dX0_init_1 (roomF hR (Nat.le_of_ble_eq_true rfl)) (room12 hR (Nat.le_of_ble_eq_true rfl)) ?_
  refine a_aload_n hB dX0_init_4 rfl ?_
  refine a_bipushN (v := 31) hB dX0_init_5 (by decide) ?_
  refine a_newD (N := 31) hB dX0_init_7 (nI_pos (by decide)) (nI_clamp (by decide)) (by decide) (roomc hR (Nat.le_of_ble_eq_true rfl)) (rooms hR (Nat.le_of_ble_eq_true rfl)) (fun q1 => ?_)
  refine a_putF (T := TX0) (ci := 0) hB hN dX0_init_9 0 fl_X0_9 lay_X0 tyX0 tyX0_ok nmX0 rfl (by decide) rfl rfl rfl 0 rfl rfl rfl rfl (Nat.le_of_ble_eq_true rfl) ?_
  exact a_vret hB hE rfl dX0_init_12 (Nat.le_of_ble_eq_true rfl) (Nat.le_of_ble_eq_true rfl) (AKeep.of rfl) ⟨rfl, q1, rfl⟩
set_option maxHeartbeats 4000000 in
set_option maxRecDepth 100000 in
theorem c_X0_correctionOf_in {G : GP} {k a m : Nat} {g : Nat → UInt64} (hm : m < 31) : AMd G sX0_correctionOf [.ref k, .int (nI m)] (wC G k a g) (some (.double (g m))) (wC G k a g) := by
  refine AM.of (σ := sX0_correctionOf) (by decide +kernel) (by decide +kernel) (Nat.le_of_ble_eq_true rfl) (fun B hB hR hE0 hN => ?_)
  have hE := BE.of hE0
  refine a_iload_n hB dX0_correctionOf_0 rfl ?_
  refine a_if_ltN_f (tgt := 22) hB dX0_correctionOf_1 (by decide) (by omega) ?_
  refine a_iload_n hB dX0_correctionOf_4 rfl ?_
  refine a_aload_n hB dX0_correctionOf_5 rfl ?_
  refine a_get (T := TX0) (ci := 0) hB dX0_correctionOf_6 0 fl_X0_9 lay_X0 rfl (by decide) rfl 0 rfl rfl ?_
  refine a_alen (v := nI 31) hB dX0_correctionOf_9 1 0 rfl rfl rfl ?_
  refine a_icmp_geN_f (tgt := 22) hB dX0_correctionOf_10 (by decide) (by omega) (by omega) (by omega) ?_
  refine a_aload_n hB dX0_correctionOf_13 rfl ?_
  refine a_get (T := TX0) (ci := 0) hB dX0_correctionOf_14 0 fl_X0_9 lay_X0 rfl (by decide) rfl 0 rfl rfl ?_
  refine a_iload_n hB dX0_correctionOf_17 rfl ?_
  refine a_daloadN hB dX0_correctionOf_18 1 rfl (by omega) (by decide) ?_
  refine a_goto (tgt := 23) hB dX0_correctionOf_19 (by decide) ?_
  exact a_dret hB hE rfl dX0_correctionOf_23 (Nat.le_of_ble_eq_true rfl) (Nat.le_of_ble_eq_true rfl) (AKeep.of rfl) ⟨rfl, rfl⟩
set_option maxHeartbeats 4000000 in
set_option maxRecDepth 100000 in
theorem c_X0_correctionOf_lo {G : GP} {k a : Nat} {x : Int32} {g : Nat → UInt64} (hx : x < 0) : AMd G sX0_correctionOf [.ref k, .int x] (wC G k a g) (some (.double FP.dconst0)) (wC G k a g) := by
  refine AM.of (σ := sX0_correctionOf) (by decide +kernel) (by decide +kernel) (Nat.le_of_ble_eq_true rfl) (fun B hB hR hE0 hN => ?_)
  have hE := BE.of hE0
  refine a_iload_n hB dX0_correctionOf_0 rfl ?_
  refine a_if_lt_t (tgt := 22) hB dX0_correctionOf_1 (by decide) hx ?_
  refine a_dconst0 hB dX0_correctionOf_22 ?_
  exact a_dret hB hE rfl dX0_correctionOf_23 (Nat.le_of_ble_eq_true rfl) (Nat.le_of_ble_eq_true rfl) (AKeep.of rfl) ⟨rfl, rfl⟩
theorem c_X0_correctionOf {G : GP} {k a : Nat} {v : UInt64} {x : Int32} {g : Nat → UInt64} (h : (∃ m, m < 31 ∧ x = nI m ∧ v = g m) ∨ (x < 0 ∧ v = FP.dconst0)) : AMd G sX0_correctionOf [.ref k, .int x] (wC G k a g) (some (.double v)) (wC G k a g) := by
  rcases h with ⟨m, hm, rfl, rfl⟩ | ⟨h, rfl⟩
  · exact c_X0_correctionOf_in hm
  · exact c_X0_correctionOf_lo h
set_option maxHeartbeats 4000000 in
set_option maxRecDepth 100000 in
theorem c_X0_addPartOf {G : GP} {k a p : Nat} {g : Nat → UInt64} {pa : Nat → Nat} {P : PV} (hp : p < 6) (hw : ∀ j, P.wt j ≤ 9) (ht99 : ∀ j, P.tl j ≤ 99) (hc : ∀ s l, s < 31 → l < 6 → P.corOK (rd g s l) p l) : AMd G sX0_addPartOf [.ref k, .ref (pa 0), .int (nI p)] (wC G k a g ++ wP G pa P) none (wC G k a (caP P p g) ++ wP G pa P) := by
  refine AM.of (σ := sX0_addPartOf) (by decide +kernel) (by decide +kernel) (Nat.le_of_ble_eq_true rfl) (fun B hB hR hE0 hN => ?_)
  have hE := BE.of hE0
  refine a_aload_n hB dX0_addPartOf_0 rfl ?_
  refine a_get (T := TX0) (ci := 0) hB dX0_addPartOf_1 0 fl_X0_9 lay_X0 rfl (by decide) rfl 0 rfl rfl ?_
  refine a_alen (v := nI 31) hB dX0_addPartOf_4 1 0 rfl rfl rfl ?_
  refine a_iconstN (v := 1) hB dX0_addPartOf_5 (by decide) ?_
  refine a_isubN hB dX0_addPartOf_6 (by omega) ?_
  refine a_istore_n hB dX0_addPartOf_7 (by decide) ?_
  have lp8 : ∀ (j8 i : Nat), i = j8 ∧ i ≤ 31 → aW G sX0_addPartOf B 8 [(0, .ref k), (1, .ref (pa 0)), (2, .int (nI p)), (3, .int (nI i + (-1)))] [] (wC G k a (caI P p g i) ++ wP G pa P) 0 0 := by
    intro j8
    induction j8 with
    | zero =>
      intro i hi
      obtain ⟨rfl, hb⟩ := hi
      refine a_iload_n hB dX0_addPartOf_8 rfl ?_
      refine a_if_lt_t (tgt := 79) hB dX0_addPartOf_9 (by decide) (by decide) ?_
      exact a_vret hB hE rfl dX0_addPartOf_79 (Nat.le_of_ble_eq_true rfl) (Nat.le_of_ble_eq_true rfl) (AKeep.of rfl) ⟨rfl, rfl⟩
    | succ j8 ih8 =>
      intro i hi
      obtain ⟨rfl, hb⟩ := hi
      rw [pk_m1]
      refine a_iload_n hB dX0_addPartOf_8 rfl ?_
      refine a_if_ltN_f (tgt := 79) hB dX0_addPartOf_9 (by decide) (by omega) ?_
      refine a_dconst0 hB dX0_addPartOf_12 ?_
      refine a_dstore hB dX0_addPartOf_13 (by decide) ?_
      refine a_iconstN (v := 0) hB dX0_addPartOf_15 (by decide) ?_
      refine a_istore hB dX0_addPartOf_16 (by decide) ?_
      have lp18 : ∀ (j18 u : Nat), u + j18 = 6 → aW G sX0_addPartOf B 18 [(0, .ref k), (1, .ref (pa 0)), (2, .int (nI p)), (3, .int (nI j8)), (4, .double (mxD (fun l => P.cor (rd (caI P p g (j8 + 1)) j8 l) p l) u)), (6, .int (nI u))] [] (wC G k a (caI P p g (j8 + 1)) ++ wP G pa P) 0 0 := by
        intro j18
        induction j18 with
        | zero =>
          intro u hi
          refine a_iload hB dX0_addPartOf_18 rfl ?_
          refine a_bipushN (v := 6) hB dX0_addPartOf_20 (by decide) ?_
          refine a_icmp_geN_t (tgt := 65) hB dX0_addPartOf_22 (by decide) (by omega) (by omega) (by omega) ?_
          refine a_aload_n hB dX0_addPartOf_65 rfl ?_
          refine a_get (T := TX0) (ci := 0) hB dX0_addPartOf_66 0 fl_X0_9 lay_X0 rfl (by decide) rfl 0 rfl rfl ?_
          refine a_iload_n hB dX0_addPartOf_69 rfl ?_
          refine a_dload hB dX0_addPartOf_70 rfl ?_
          refine a_dastoreN hB dX0_addPartOf_72 1 rfl (by omega) (by decide) ?_
          refine a_iinc (v := -1) hB dX0_addPartOf_73 rfl (by decide) (by decide) ?_
          refine a_goto (tgt := 8) hB dX0_addPartOf_76 (by decide) ?_
          exact aW_at [0, 1, 2, 3] rfl rfl (by rw [show u = 6 by omega]; exact congrArg (fun z => wC G k a z ++ wP G pa P) (caI_step (by omega))) (ih8 j8 ⟨rfl, by omega⟩)
        | succ j18 ih18 =>
          intro u hi
          refine a_iload hB dX0_addPartOf_18 rfl ?_
          refine a_bipushN (v := 6) hB dX0_addPartOf_20 (by decide) ?_
          refine a_icmp_geN_f (tgt := 65) hB dX0_addPartOf_22 (by decide) (by omega) (by omega) (by omega) ?_
          refine a_aload_n hB dX0_addPartOf_25 rfl ?_
          refine a_aload_n hB dX0_addPartOf_26 rfl ?_
          refine a_iload_n hB dX0_addPartOf_27 rfl ?_
          refine a_iload hB dX0_addPartOf_28 rfl ?_
          refine a_isub hB dX0_addPartOf_30 ?_
          refine a_callVr (q0 := 0) hB (c_X0_correctionOf (sub_pmD (by omega) (by omega) _)) mk_X0_correctionOf ml_X0_25 dX0_addPartOf_31 rfl rfl [0, 1] rfl (by decide) rfl rfl (fit_of hR (by decide)) (Nat.le_of_ble_eq_true rfl) ?_
          refine a_iload_n hB dX0_addPartOf_34 rfl ?_
          refine a_iload hB dX0_addPartOf_35 rfl ?_
          refine a_callVr (q0 := 2) hB (c_X4_corrected (P := P) (c := rd (caI P p g (j8 + 1)) j8 u) (p := p) (l := u) (by omega) (by omega) hw ht99 (by rw [rd_caI (by omega)]; exact hc j8 u (by omega) (by omega))) mk_X4_corrected ml_X0_29 dX0_addPartOf_37 rfl rfl [2, 3, 4, 5, 6, 7, 8] rfl (by decide) rfl rfl (fit_of hR (by decide)) (Nat.le_of_ble_eq_true rfl) ?_
          refine a_dstore hB dX0_addPartOf_40 (by decide) ?_
          refine a_dload hB dX0_addPartOf_42 rfl ?_
          refine a_dload hB dX0_addPartOf_44 rfl ?_
          refine a_dcmp hB dX0_addPartOf_46 ?_
          refine a_if_le (tgt := 55) hB dX0_addPartOf_47 (by decide) (fun c47 => ?_) (fun c47 => ?_)
          · refine a_dload hB dX0_addPartOf_55 rfl ?_
            refine a_dstore hB dX0_addPartOf_57 (by decide) ?_
            refine a_iincN (b := 1) hB dX0_addPartOf_59 rfl (by decide) (by decide) ?_
            refine a_goto (tgt := 18) hB dX0_addPartOf_62 (by decide) ?_
            first | (have e9 := dmx_l c47) | (have e9 := dmx_r c47)
            exact aW_at [0, 1, 2, 3, 4, 5] (by rw [show mxD (fun l => P.cor (rd (caI P p g (j8 + 1)) j8 l) p l) (u + 1) = _ from e9]; rfl) rfl rfl (ih18 (u + 1) (by omega))
          · refine a_dload hB dX0_addPartOf_50 rfl ?_
            refine a_goto (tgt := 57) hB dX0_addPartOf_52 (by decide) ?_
            refine a_dstore hB dX0_addPartOf_57 (by decide) ?_
            refine a_iincN (b := 1) hB dX0_addPartOf_59 rfl (by decide) (by decide) ?_
            refine a_goto (tgt := 18) hB dX0_addPartOf_62 (by decide) ?_
            first | (have e9 := dmx_l c47) | (have e9 := dmx_r c47)
            exact aW_at [0, 1, 2, 3, 4, 5] (by rw [show mxD (fun l => P.cor (rd (caI P p g (j8 + 1)) j8 l) p l) (u + 1) = _ from e9]; rfl) rfl rfl (ih18 (u + 1) (by omega))
      exact aW_at [0, 1, 2, 3, 4, 5] rfl rfl rfl (lp18 (6) 0 (by omega))
  exact aW_at [0, 1, 2, 3] rfl rfl (by rw [caI_31]) (lp8 31 31 ⟨rfl, Nat.le_refl _⟩)
set_option maxHeartbeats 4000000 in
set_option maxRecDepth 100000 in
theorem c_X0_fill {G : GP} {k a : Nat} {g : Nat → UInt64} {pa : Nat → Nat} {P : PV} (hp : P.parts ≤ 6) (hw : ∀ j, P.wt j ≤ 9) (ht99 : ∀ j, P.tl j ≤ 99) (hc : ∀ p s l, p < P.parts → s < 31 → l < 6 → P.corOK (rd (cfF P g p) s l) p l) : AMd G sX0_fill [.ref k, .ref (pa 0)] (wC G k a g ++ wP G pa P) none (wC G k a (cfF P g P.parts) ++ wP G pa P) := by
  refine AM.of (σ := sX0_fill) (by decide +kernel) (by decide +kernel) (Nat.le_of_ble_eq_true rfl) (fun B hB hR hE0 hN => ?_)
  have hE := BE.of hE0
  refine a_iconstN (v := 0) hB dX0_fill_0 (by decide) ?_
  refine a_istore_n hB dX0_fill_1 (by decide) ?_
  have lp2 : ∀ (j2 i : Nat), i + j2 = 31 → aW G sX0_fill B 2 [(0, .ref k), (1, .ref (pa 0)), (2, .int (nI i))] [] (wC G k a (oneD g i) ++ wP G pa P) 0 0 := by
    intro j2
    induction j2 with
    | zero =>
      intro i hi
      refine a_iload_n hB dX0_fill_2 rfl ?_
      refine a_aload_n hB dX0_fill_3 rfl ?_
      refine a_get (T := TX0) (ci := 0) hB dX0_fill_4 0 fl_X0_9 lay_X0 rfl (by decide) rfl 0 rfl rfl ?_
      refine a_alen (v := nI 31) hB dX0_fill_7 1 0 rfl rfl rfl ?_
      refine a_icmp_geN_t (tgt := 32) hB dX0_fill_8 (by decide) (by omega) (by omega) (by omega) ?_
      refine a_iconstN (v := 0) hB dX0_fill_32 (by decide) ?_
      refine a_istore_n hB dX0_fill_33 (by decide) ?_
      have lp34 : ∀ (j34 i : Nat), i + j34 = P.parts → aW G sX0_fill B 34 [(0, .ref k), (1, .ref (pa 0)), (2, .int (nI i))] [] (wC G k a (cfF P g i) ++ wP G pa P) 0 0 := by
        intro j34
        induction j34 with
        | zero =>
          intro i hi
          refine a_iload_n hB dX0_fill_34 rfl ?_
          refine a_aload_n hB dX0_fill_35 rfl ?_
          refine a_get (T := TX4) (ci := 4) hB dX0_fill_36 3 fl_X0_15 lay_X4 rfl (by decide) rfl 2 rfl rfl ?_
          refine a_icmp_geN_t (tgt := 54) hB dX0_fill_39 (by decide) (by omega) (by omega) (by omega) ?_
          exact a_vret hB hE rfl dX0_fill_54 (Nat.le_of_ble_eq_true rfl) (Nat.le_of_ble_eq_true rfl) (AKeep.of rfl) ⟨rfl, by rw [show i = P.parts by omega]⟩
        | succ j34 ih34 =>
          intro i hi
          refine a_iload_n hB dX0_fill_34 rfl ?_
          refine a_aload_n hB dX0_fill_35 rfl ?_
          refine a_get (T := TX4) (ci := 4) hB dX0_fill_36 3 fl_X0_15 lay_X4 rfl (by decide) rfl 2 rfl rfl ?_
          refine a_icmp_geN_f (tgt := 54) hB dX0_fill_39 (by decide) (by omega) (by omega) (by omega) ?_
          refine a_aload_n hB dX0_fill_42 rfl ?_
          refine a_aload_n hB dX0_fill_43 rfl ?_
          refine a_iload_n hB dX0_fill_44 rfl ?_
          refine a_callVd (w2 := wC G k a (cfF P g (i + 1)) ++ wP G pa P) (q0 := 0) hB (c_X0_addPartOf (k := k) (a := a) (p := i) (g := cfF P g i) (pa := pa) (P := P) (by omega) hw ht99 (fun s l => hc i s l (by omega))) mk_X0_addPartOf ml_X0_21 dX0_fill_45 rfl rfl [0, 1, 2, 3, 4, 5, 6, 7, 8] rfl (by decide) rfl rfl (fit_of hR (by decide)) (Nat.le_of_ble_eq_true rfl) (wput_seg (w1 := ([] : va_W)) (wc := wC G k a (cfF P g i) ++ wP G pa P) (w3 := []) rfl rfl rfl rfl) ?_
          refine a_iincN (b := 1) hB dX0_fill_48 rfl (by decide) (by decide) ?_
          refine a_goto (tgt := 34) hB dX0_fill_51 (by decide) ?_
          exact aW_at [0, 1, 2] rfl rfl rfl (ih34 (i + 1) (by omega))
      exact aW_at [0, 1, 2] rfl rfl (by rw [show i = 31 by omega]; rfl) (lp34 (P.parts) 0 (by omega))
    | succ j2 ih2 =>
      intro i hi
      refine a_iload_n hB dX0_fill_2 rfl ?_
      refine a_aload_n hB dX0_fill_3 rfl ?_
      refine a_get (T := TX0) (ci := 0) hB dX0_fill_4 0 fl_X0_9 lay_X0 rfl (by decide) rfl 0 rfl rfl ?_
      refine a_alen (v := nI 31) hB dX0_fill_7 1 0 rfl rfl rfl ?_
      refine a_icmp_geN_f (tgt := 32) hB dX0_fill_8 (by decide) (by omega) (by omega) (by omega) ?_
      refine a_aload_n hB dX0_fill_11 rfl ?_
      refine a_get (T := TX0) (ci := 0) hB dX0_fill_12 0 fl_X0_9 lay_X0 rfl (by decide) rfl 0 rfl rfl ?_
      refine a_iload_n hB dX0_fill_15 rfl ?_
      refine a_iload_n hB dX0_fill_16 rfl ?_
      refine a_if_neN (tgt := 24) hB dX0_fill_17 (by decide) (by omega) (fun c17 => ?_) (fun c17 => ?_)
      · refine a_dconst0 hB dX0_fill_24 ?_
        refine a_dastoreN hB dX0_fill_25 1 rfl (by omega) (by decide) ?_
        refine a_iincN (b := 1) hB dX0_fill_26 rfl (by decide) (by decide) ?_
        refine a_goto (tgt := 2) hB dX0_fill_29 (by decide) ?_
        first | (have e9 := oneD_step g i; rw [if_pos c17] at e9) | (have e9 := oneD_step g i; rw [if_neg c17] at e9)
        exact aW_at [0, 1, 2] rfl rfl (by rw [← e9]; rfl) (ih2 (i + 1) (by omega))
      · refine a_dconst1 hB dX0_fill_20 ?_
        refine a_goto (tgt := 25) hB dX0_fill_21 (by decide) ?_
        refine a_dastoreN hB dX0_fill_25 1 rfl (by omega) (by decide) ?_
        refine a_iincN (b := 1) hB dX0_fill_26 rfl (by decide) (by decide) ?_
        refine a_goto (tgt := 2) hB dX0_fill_29 (by decide) ?_
        first | (have e9 := oneD_step g i; rw [if_pos c17] at e9) | (have e9 := oneD_step g i; rw [if_neg c17] at e9)
        exact aW_at [0, 1, 2] rfl rfl (by rw [← e9]; rfl) (ih2 (i + 1) (by omega))
  exact aW_at [0, 1, 2] rfl rfl (by rw [oneD_0]) (lp2 (31) 0 (by omega))
set_option maxHeartbeats 4000000 in
set_option maxRecDepth 100000 in
theorem c_X0_greatestFrom {G : GP} {k a s : Nat} {g : Nat → UInt64} (hs : s < 2 ^ 30) : AMd G sX0_greatestFrom [.ref k, .int (nI s)] (wC G k a g) (some (.double (gfrom g s))) (wC G k a g) := by
  refine AM.of (σ := sX0_greatestFrom) (by decide +kernel) (by decide +kernel) (Nat.le_of_ble_eq_true rfl) (fun B hB hR hE0 hN => ?_)
  have hE := BE.of hE0
  refine a_dconst0 hB dX0_greatestFrom_0 ?_
  refine a_dstore_n hB dX0_greatestFrom_1 (by decide) ?_
  refine a_iload_n hB dX0_greatestFrom_2 rfl ?_
  refine a_iconstN (v := 0) hB dX0_greatestFrom_3 (by decide) ?_
  refine a_maxN hB ml_X0_33 dX0_greatestFrom_4 (by omega) (by omega) (roomF hR (Nat.le_of_ble_eq_true rfl)) (room13 hR (Nat.le_of_ble_eq_true rfl)) (roomc hR (Nat.le_of_ble_eq_true rfl)) (rooms hR (Nat.le_of_ble_eq_true rfl)) ?_
  refine a_istore hB dX0_greatestFrom_7 (by decide) ?_
  have lp9 : ∀ (j9 i : Nat), i + j9 = 31 - s → aW G sX0_greatestFrom B 9 [(0, .ref k), (1, .int (nI s)), (2, .double (gfr g s i)), (4, .int (nI (s + i)))] [] (wC G k a g) 0 0 := by
    intro j9
    induction j9 with
    | zero =>
      intro i hi
      refine a_iload hB dX0_greatestFrom_9 rfl ?_
      refine a_aload_n hB dX0_greatestFrom_11 rfl ?_
      refine a_get (T := TX0) (ci := 0) hB dX0_greatestFrom_12 0 fl_X0_9 lay_X0 rfl (by decide) rfl 0 rfl rfl ?_
      refine a_alen (v := nI 31) hB dX0_greatestFrom_15 1 0 rfl rfl rfl ?_
      refine a_icmp_geN_t (tgt := 49) hB dX0_greatestFrom_16 (by decide) (by omega) (by omega) (by omega) ?_
      refine a_dload_n hB dX0_greatestFrom_49 rfl ?_
      exact a_dret hB hE rfl dX0_greatestFrom_50 (Nat.le_of_ble_eq_true rfl) (Nat.le_of_ble_eq_true rfl) (AKeep.of rfl) ⟨by rw [show i = 31 - s by omega]; rfl, rfl⟩
    | succ j9 ih9 =>
      intro i hi
      refine a_iload hB dX0_greatestFrom_9 rfl ?_
      refine a_aload_n hB dX0_greatestFrom_11 rfl ?_
      refine a_get (T := TX0) (ci := 0) hB dX0_greatestFrom_12 0 fl_X0_9 lay_X0 rfl (by decide) rfl 0 rfl rfl ?_
      refine a_alen (v := nI 31) hB dX0_greatestFrom_15 1 0 rfl rfl rfl ?_
      refine a_icmp_geN_f (tgt := 49) hB dX0_greatestFrom_16 (by decide) (by omega) (by omega) (by omega) ?_
      refine a_aload_n hB dX0_greatestFrom_19 rfl ?_
      refine a_get (T := TX0) (ci := 0) hB dX0_greatestFrom_20 0 fl_X0_9 lay_X0 rfl (by decide) rfl 0 rfl rfl ?_
      refine a_iload hB dX0_greatestFrom_23 rfl ?_
      refine a_daloadN hB dX0_greatestFrom_25 1 rfl (by omega) (by decide) ?_
      refine a_dload_n hB dX0_greatestFrom_26 rfl ?_
      refine a_dcmp hB dX0_greatestFrom_27 ?_
      refine a_if_le (tgt := 41) hB dX0_greatestFrom_28 (by decide) (fun c28 => ?_) (fun c28 => ?_)
      · refine a_dload_n hB dX0_greatestFrom_41 rfl ?_
        refine a_dstore_n hB dX0_greatestFrom_42 (by decide) ?_
        refine a_iincN (b := 1) hB dX0_greatestFrom_43 rfl (by decide) (by decide) ?_
        refine a_goto (tgt := 9) hB dX0_greatestFrom_46 (by decide) ?_
        first | (have e9 := dmx_l c28) | (have e9 := dmx_r c28)
        exact aW_at [0, 1, 2, 3] (by rw [show gfr g s (i + 1) = _ from e9]; rfl) rfl rfl (ih9 (i + 1) (by omega))
      · refine a_aload_n hB dX0_greatestFrom_31 rfl ?_
        refine a_get (T := TX0) (ci := 0) hB dX0_greatestFrom_32 0 fl_X0_9 lay_X0 rfl (by decide) rfl 0 rfl rfl ?_
        refine a_iload hB dX0_greatestFrom_35 rfl ?_
        refine a_daloadN hB dX0_greatestFrom_37 1 rfl (by omega) (by decide) ?_
        refine a_goto (tgt := 42) hB dX0_greatestFrom_38 (by decide) ?_
        refine a_dstore_n hB dX0_greatestFrom_42 (by decide) ?_
        refine a_iincN (b := 1) hB dX0_greatestFrom_43 rfl (by decide) (by decide) ?_
        refine a_goto (tgt := 9) hB dX0_greatestFrom_46 (by decide) ?_
        first | (have e9 := dmx_l c28) | (have e9 := dmx_r c28)
        exact aW_at [0, 1, 2, 3] (by rw [show gfr g s (i + 1) = _ from e9]; rfl) rfl rfl (ih9 (i + 1) (by omega))
  exact aW_at [0, 1, 2, 3] (by rw [Nat.max_eq_left (Nat.zero_le _)]; rfl) rfl rfl (lp9 (31 - s) 0 (by omega))
