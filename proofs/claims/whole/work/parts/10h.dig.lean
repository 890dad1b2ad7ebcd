def hvS (s : UInt64) : Nat → UInt64
  | 0 => s
  | i + 1 => FP.ddiv (hvS s i) 4611686018427387904
def upS (s : UInt64) : Nat → UInt64
  | 0 => s
  | i + 1 => FP.dmul (upS s i) 4611686018427387904
def exD (e : Int32) : Nat → Int32
  | 0 => e
  | i + 1 => exD e i + (-1)
/-- the bits that are put together behind a halvings, b doublings -/
def bVal (sgn : Int64) (s : UInt64) (a b : Nat) : Int64 := sgn ||| ((exD (nI a) b + nI 1023).toInt64 <<< ((nI 52).toInt64 &&& 63)) ||| FP.d2l (FP.dmul (FP.dsub (upS (hvS s a) b) FP.dconst1) 4841369599423283200)
def bOK (s : UInt64) (a b : Nat) : Prop := a < 1100 ∧ b < 1100 ∧ (∀ i, i < a → ¬ Op.cmpValue (FP.dcmp (hvS s i) 4611686018427387904) .l < 0 ∧ vf_n64 (FP.ddiv (hvS s i) 4611686018427387904)) ∧ Op.cmpValue (FP.dcmp (hvS s a) 4611686018427387904) .l < 0 ∧ (∀ i, i < b → ¬ 0 ≤ Op.cmpValue (FP.dcmp (upS (hvS s a) i) FP.dconst1) .g ∧ vf_n64 (FP.dmul (upS (hvS s a) i) 4611686018427387904)) ∧ 0 ≤ Op.cmpValue (FP.dcmp (upS (hvS s a) b) FP.dconst1) .g ∧ vf_n64 (FP.dsub (upS (hvS s a) b) FP.dconst1) ∧ vf_n64 (FP.dmul (FP.dsub (upS (hvS s a) b) FP.dconst1) 4841369599423283200)
/-- bitsOf answers v at x -/
def BO (x : UInt64) (v : Int64) : Prop := (Op.cmpValue (FP.dcmp x FP.dconst0) .l = 0 ∧ v = lN 0) ∨ (¬ Op.cmpValue (FP.dcmp x FP.dconst0) .l = 0 ∧ ∃ (s : UInt64) (a b : Nat) (sgn : Int64), ((0 ≤ Op.cmpValue (FP.dcmp x FP.dconst0) .g ∧ s = x ∧ sgn = lN 0) ∨ (¬ 0 ≤ Op.cmpValue (FP.dcmp x FP.dconst0) .g ∧ s = FP.dneg x ∧ sgn = (-9223372036854775808))) ∧ bOK s a b ∧ v = bVal sgn s a b)
set_option maxHeartbeats 4000000 in
set_option maxRecDepth 100000 in
theorem c_X9_bitsOf_z {G : GP} {x : UInt64} (h0 : Op.cmpValue (FP.dcmp x FP.dconst0) .l = 0) : AMd G sX9_bitsOf [.double x] [] (some (.long (lN 0))) [] := by
  refine AM.of (σ := sX9_bitsOf) (by decide +kernel) (by decide +kernel) (Nat.le_of_ble_eq_true rfl) (fun B hB hR hE0 hN => ?_)
  have hE := BE.of hE0
  refine a_dload_n hB dX9_bitsOf_0 rfl ?_
  refine a_dconst0 hB dX9_bitsOf_1 ?_
  refine a_dcmp hB dX9_bitsOf_2 ?_
  refine a_if_ne_f (tgt := 8) hB dX9_bitsOf_3 (by decide) h0 ?_
  refine a_lconstN (v := 0) hB dX9_bitsOf_6 (by decide) ?_
  exact a_lret hB hE rfl dX9_bitsOf_7 (Nat.le_of_ble_eq_true rfl) (Nat.le_of_ble_eq_true rfl) (AKeep.of rfl) ⟨rfl, rfl⟩
set_option maxHeartbeats 4000000 in
set_option maxRecDepth 100000 in
theorem c_X9_bitsOf_p {G : GP} {x : UInt64} {a b : Nat} (h0 : ¬ Op.cmpValue (FP.dcmp x FP.dconst0) .l = 0) (hg : 0 ≤ Op.cmpValue (FP.dcmp x FP.dconst0) .g) (hok : bOK x a b) : AMd G sX9_bitsOf [.double x] [] (some (.long (bVal (lN 0) x a b))) [] := by
  refine AM.of (σ := sX9_bitsOf) (by decide +kernel) (by decide +kernel) (Nat.le_of_ble_eq_true rfl) (fun B hB hR hE0 hN => ?_)
  have hE := BE.of hE0
  obtain ⟨ha, hb, h1, h2, h3, h4, h5, h6⟩ := hok
  refine a_dload_n hB dX9_bitsOf_0 rfl ?_
  refine a_dconst0 hB dX9_bitsOf_1 ?_
  refine a_dcmp hB dX9_bitsOf_2 ?_
  refine a_if_ne_t (tgt := 8) hB dX9_bitsOf_3 (by decide) h0 ?_
  refine a_dload_n hB dX9_bitsOf_8 rfl ?_
  refine a_dconst0 hB dX9_bitsOf_9 ?_
  refine a_dcmp hB dX9_bitsOf_10 ?_
  refine a_if_ge_t (tgt := 19) hB dX9_bitsOf_11 (by decide) hg ?_
  refine a_dload_n hB dX9_bitsOf_19 rfl ?_
  refine a_dstore_n hB dX9_bitsOf_20 (by decide) ?_
  refine a_iconstN (v := 0) hB dX9_bitsOf_21 (by decide) ?_
  refine a_istore hB dX9_bitsOf_22 (by decide) ?_
  refine a_iconstN (v := 0) hB dX9_bitsOf_24 (by decide) ?_
  refine a_istore hB dX9_bitsOf_25 (by decide) ?_
  have lp27 : ∀ (j27 i : Nat), i + j27 = a → aW G sX9_bitsOf B 27 [(0, .double x), (2, .double (hvS x i)), (4, .int (nI i)), (5, .int (nI i))] [] [] 0 0 := by
    intro j27
    induction j27 with
    | zero =>
      intro i hi
      refine a_iload hB dX9_bitsOf_27 rfl ?_
      refine a_sipushN (v := 1100) hB dX9_bitsOf_29 (by decide) ?_
      refine a_icmp_geN_f (tgt := 58) hB dX9_bitsOf_32 (by decide) (by omega) (by omega) (by omega) ?_
      refine a_dload_n hB dX9_bitsOf_35 rfl ?_
      refine a_ldc2d hB dX9_bitsOf_36 kk_X9_307 ?_
      refine a_dcmp hB dX9_bitsOf_39 ?_
      refine a_if_lt_t (tgt := 58) hB dX9_bitsOf_40 (by decide) (by rw [show i = a by omega]; exact h2) ?_
      refine a_iconstN (v := 0) hB dX9_bitsOf_58 (by decide) ?_
      refine a_istore hB dX9_bitsOf_59 (by decide) ?_
      have lp61 : ∀ (j61 i : Nat), i + j61 = b → aW G sX9_bitsOf B 61 [(0, .double x), (2, .double (upS (hvS x a) i)), (4, .int (exD (nI a) i)), (5, .int (nI i))] [] [] 0 0 := by
        intro j61
        induction j61 with
        | zero =>
          intro i hi
          refine a_iload hB dX9_bitsOf_61 rfl ?_
          refine a_sipushN (v := 1100) hB dX9_bitsOf_63 (by decide) ?_
          refine a_icmp_geN_f (tgt := 90) hB dX9_bitsOf_66 (by decide) (by omega) (by omega) (by omega) ?_
          refine a_dload_n hB dX9_bitsOf_69 rfl ?_
          refine a_dconst1 hB dX9_bitsOf_70 ?_
          refine a_dcmp hB dX9_bitsOf_71 ?_
          refine a_if_ge_t (tgt := 90) hB dX9_bitsOf_72 (by decide) (by rw [show i = b by omega]; exact h4) ?_
          refine a_dload_n hB dX9_bitsOf_90 rfl ?_
          refine a_dconst1 hB dX9_bitsOf_91 ?_
          refine a_dsub hB dX9_bitsOf_92 (by rw [show i = b by omega]; exact h5) ?_
          refine a_ldc2d hB dX9_bitsOf_93 kk_X9_309 ?_
          refine a_dmul hB dX9_bitsOf_96 (by rw [show i = b by omega]; exact h6) ?_
          refine a_d2l hB dX9_bitsOf_97 ?_
          refine a_lstore hB dX9_bitsOf_98 (by decide) ?_
          refine a_dload_n hB dX9_bitsOf_100 rfl ?_
          refine a_dconst0 hB dX9_bitsOf_101 ?_
          refine a_dcmp hB dX9_bitsOf_102 ?_
          refine a_if_ge_t (tgt := 112) hB dX9_bitsOf_103 (by decide) hg ?_
          refine a_lconstN (v := 0) hB dX9_bitsOf_112 (by decide) ?_
          refine a_lstore hB dX9_bitsOf_113 (by decide) ?_
          refine a_lload hB dX9_bitsOf_115 rfl ?_
          refine a_iload hB dX9_bitsOf_117 rfl ?_
          refine a_sipushN (v := 1023) hB dX9_bitsOf_119 (by decide) ?_
          refine a_iadd hB dX9_bitsOf_122 ?_
          refine a_i2l hB dX9_bitsOf_123 ?_
          refine a_bipushN (v := 52) hB dX9_bitsOf_124 (by decide) ?_
          refine a_lshl hB dX9_bitsOf_126 rfl ?_
          refine a_lor hB dX9_bitsOf_127 ?_
          refine a_lload hB dX9_bitsOf_128 rfl ?_
          refine a_lor hB dX9_bitsOf_130 ?_
          exact a_lret hB hE rfl dX9_bitsOf_131 (Nat.le_of_ble_eq_true rfl) (Nat.le_of_ble_eq_true rfl) (AKeep.of rfl) ⟨by rw [show i = b by omega]; rfl, rfl⟩
        | succ j61 ih61 =>
          intro i hi
          refine a_iload hB dX9_bitsOf_61 rfl ?_
          refine a_sipushN (v := 1100) hB dX9_bitsOf_63 (by decide) ?_
          refine a_icmp_geN_f (tgt := 90) hB dX9_bitsOf_66 (by decide) (by omega) (by omega) (by omega) ?_
          refine a_dload_n hB dX9_bitsOf_69 rfl ?_
          refine a_dconst1 hB dX9_bitsOf_70 ?_
          refine a_dcmp hB dX9_bitsOf_71 ?_
          refine a_if_ge_f (tgt := 90) hB dX9_bitsOf_72 (by decide) (h3 i (by omega)).1 ?_
          refine a_dload_n hB dX9_bitsOf_75 rfl ?_
          refine a_ldc2d hB dX9_bitsOf_76 kk_X9_307 ?_
          refine a_dmul hB dX9_bitsOf_79 (h3 i (by omega)).2 ?_
          refine a_dstore_n hB dX9_bitsOf_80 (by decide) ?_
          refine a_iinc (v := -1) hB dX9_bitsOf_81 rfl (by decide) (by decide) ?_
          refine a_iincN (b := 1) hB dX9_bitsOf_84 rfl (by decide) (by decide) ?_
          refine a_goto (tgt := 61) hB dX9_bitsOf_87 (by decide) ?_
          exact aW_at [0, 1, 2, 3] rfl rfl rfl (ih61 (i + 1) (by omega))
      exact aW_at [0, 1, 2, 3] (by rw [show i = a by omega]; rfl) rfl rfl (lp61 (b) 0 (by omega))
    | succ j27 ih27 =>
      intro i hi
      refine a_iload hB dX9_bitsOf_27 rfl ?_
      refine a_sipushN (v := 1100) hB dX9_bitsOf_29 (by decide) ?_
      refine a_icmp_geN_f (tgt := 58) hB dX9_bitsOf_32 (by decide) (by omega) (by omega) (by omega) ?_
      refine a_dload_n hB dX9_bitsOf_35 rfl ?_
      refine a_ldc2d hB dX9_bitsOf_36 kk_X9_307 ?_
      refine a_dcmp hB dX9_bitsOf_39 ?_
      refine a_if_lt_f (tgt := 58) hB dX9_bitsOf_40 (by decide) (h1 i (by omega)).1 ?_
      refine a_dload_n hB dX9_bitsOf_43 rfl ?_
      refine a_ldc2d hB dX9_bitsOf_44 kk_X9_307 ?_
      refine a_ddiv hB dX9_bitsOf_47 (h1 i (by omega)).2 ?_
      refine a_dstore_n hB dX9_bitsOf_48 (by decide) ?_
      refine a_iincN (b := 1) hB dX9_bitsOf_49 rfl (by decide) (by decide) ?_
      refine a_iincN (b := 1) hB dX9_bitsOf_52 rfl (by decide) (by decide) ?_
      refine a_goto (tgt := 27) hB dX9_bitsOf_55 (by decide) ?_
      exact aW_at [0, 1, 2, 3] rfl rfl rfl (ih27 (i + 1) (by omega))
  exact aW_at [0, 1, 2, 3] rfl rfl rfl (lp27 (a) 0 (by omega))
set_option maxHeartbeats 4000000 in
set_option maxRecDepth 100000 in
theorem c_X9_bitsOf_m {G : GP} {x : UInt64} {a b : Nat} (h0 : ¬ Op.cmpValue (FP.dcmp x FP.dconst0) .l = 0) (hg : ¬ 0 ≤ Op.cmpValue (FP.dcmp x FP.dconst0) .g) (hok : bOK (FP.dneg x) a b) : AMd G sX9_bitsOf [.double x] [] (some (.long (bVal (-9223372036854775808) (FP.dneg x) a b))) [] := by
  refine AM.of (σ := sX9_bitsOf) (by decide +kernel) (by decide +kernel) (Nat.le_of_ble_eq_true rfl) (fun B hB hR hE0 hN => ?_)
  have hE := BE.of hE0
  obtain ⟨ha, hb, h1, h2, h3, h4, h5, h6⟩ := hok
  refine a_dload_n hB dX9_bitsOf_0 rfl ?_
  refine a_dconst0 hB dX9_bitsOf_1 ?_
  refine a_dcmp hB dX9_bitsOf_2 ?_
  refine a_if_ne_t (tgt := 8) hB dX9_bitsOf_3 (by decide) h0 ?_
  refine a_dload_n hB dX9_bitsOf_8 rfl ?_
  refine a_dconst0 hB dX9_bitsOf_9 ?_
  refine a_dcmp hB dX9_bitsOf_10 ?_
  refine a_if_ge_f (tgt := 19) hB dX9_bitsOf_11 (by decide) hg ?_
  refine a_dload_n hB dX9_bitsOf_14 rfl ?_
  refine a_dneg hB dX9_bitsOf_15 ?_
  refine a_goto (tgt := 20) hB dX9_bitsOf_16 (by decide) ?_
  refine a_dstore_n hB dX9_bitsOf_20 (by decide) ?_
  refine a_iconstN (v := 0) hB dX9_bitsOf_21 (by decide) ?_
  refine a_istore hB dX9_bitsOf_22 (by decide) ?_
  refine a_iconstN (v := 0) hB dX9_bitsOf_24 (by decide) ?_
  refine a_istore hB dX9_bitsOf_25 (by decide) ?_
  have lp27 : ∀ (j27 i : Nat), i + j27 = a → aW G sX9_bitsOf B 27 [(0, .double x), (2, .double (hvS (FP.dneg x) i)), (4, .int (nI i)), (5, .int (nI i))] [] [] 0 0 := by
    intro j27
    induction j27 with
    | zero =>
      intro i hi
      refine a_iload hB dX9_bitsOf_27 rfl ?_
      refine a_sipushN (v := 1100) hB dX9_bitsOf_29 (by decide) ?_
      refine a_icmp_geN_f (tgt := 58) hB dX9_bitsOf_32 (by decide) (by omega) (by omega) (by omega) ?_
      refine a_dload_n hB dX9_bitsOf_35 rfl ?_
      refine a_ldc2d hB dX9_bitsOf_36 kk_X9_307 ?_
      refine a_dcmp hB dX9_bitsOf_39 ?_
      refine a_if_lt_t (tgt := 58) hB dX9_bitsOf_40 (by decide) (by rw [show i = a by omega]; exact h2) ?_
      refine a_iconstN (v := 0) hB dX9_bitsOf_58 (by decide) ?_
      refine a_istore hB dX9_bitsOf_59 (by decide) ?_
      have lp61 : ∀ (j61 i : Nat), i + j61 = b → aW G sX9_bitsOf B 61 [(0, .double x), (2, .double (upS (hvS (FP.dneg x) a) i)), (4, .int (exD (nI a) i)), (5, .int (nI i))] [] [] 0 0 := by
        intro j61
        induction j61 with
        | zero =>
          intro i hi
          refine a_iload hB dX9_bitsOf_61 rfl ?_
          refine a_sipushN (v := 1100) hB dX9_bitsOf_63 (by decide) ?_
          refine a_icmp_geN_f (tgt := 90) hB dX9_bitsOf_66 (by decide) (by omega) (by omega) (by omega) ?_
          refine a_dload_n hB dX9_bitsOf_69 rfl ?_
          refine a_dconst1 hB dX9_bitsOf_70 ?_
          refine a_dcmp hB dX9_bitsOf_71 ?_
          refine a_if_ge_t (tgt := 90) hB dX9_bitsOf_72 (by decide) (by rw [show i = b by omega]; exact h4) ?_
          refine a_dload_n hB dX9_bitsOf_90 rfl ?_
          refine a_dconst1 hB dX9_bitsOf_91 ?_
          refine a_dsub hB dX9_bitsOf_92 (by rw [show i = b by omega]; exact h5) ?_
          refine a_ldc2d hB dX9_bitsOf_93 kk_X9_309 ?_
          refine a_dmul hB dX9_bitsOf_96 (by rw [show i = b by omega]; exact h6) ?_
          refine a_d2l hB dX9_bitsOf_97 ?_
          refine a_lstore hB dX9_bitsOf_98 (by decide) ?_
          refine a_dload_n hB dX9_bitsOf_100 rfl ?_
          refine a_dconst0 hB dX9_bitsOf_101 ?_
          refine a_dcmp hB dX9_bitsOf_102 ?_
          refine a_if_ge_f (tgt := 112) hB dX9_bitsOf_103 (by decide) hg ?_
          refine a_ldc2 hB dX9_bitsOf_106 kk_X9_313 ?_
          refine a_goto (tgt := 113) hB dX9_bitsOf_109 (by decide) ?_
          refine a_lstore hB dX9_bitsOf_113 (by decide) ?_
          refine a_lload hB dX9_bitsOf_115 rfl ?_
          refine a_iload hB dX9_bitsOf_117 rfl ?_
          refine a_sipushN (v := 1023) hB dX9_bitsOf_119 (by decide) ?_
          refine a_iadd hB dX9_bitsOf_122 ?_
          refine a_i2l hB dX9_bitsOf_123 ?_
          refine a_bipushN (v := 52) hB dX9_bitsOf_124 (by decide) ?_
          refine a_lshl hB dX9_bitsOf_126 rfl ?_
          refine a_lor hB dX9_bitsOf_127 ?_
          refine a_lload hB dX9_bitsOf_128 rfl ?_
          refine a_lor hB dX9_bitsOf_130 ?_
          exact a_lret hB hE rfl dX9_bitsOf_131 (Nat.le_of_ble_eq_true rfl) (Nat.le_of_ble_eq_true rfl) (AKeep.of rfl) ⟨by rw [show i = b by omega]; rfl, rfl⟩
        | succ j61 ih61 =>
          intro i hi
          refine a_iload hB dX9_bitsOf_61 rfl ?_
          refine a_sipushN (v := 1100) hB dX9_bitsOf_63 (by decide) ?_
          refine a_icmp_geN_f (tgt := 90) hB dX9_bitsOf_66 (by decide) (by omega) (by omega) (by omega) ?_
          refine a_dload_n hB dX9_bitsOf_69 rfl ?_
          refine a_dconst1 hB dX9_bitsOf_70 ?_
          refine a_dcmp hB dX9_bitsOf_71 ?_
          refine a_if_ge_f (tgt := 90) hB dX9_bitsOf_72 (by decide) (h3 i (by omega)).1 ?_
          refine a_dload_n hB dX9_bitsOf_75 rfl ?_
          refine a_ldc2d hB dX9_bitsOf_76 kk_X9_307 ?_
          refine a_dmul hB dX9_bitsOf_79 (h3 i (by omega)).2 ?_
          refine a_dstore_n hB dX9_bitsOf_80 (by decide) ?_
          refine a_iinc (v := -1) hB dX9_bitsOf_81 rfl (by decide) (by decide) ?_
          refine a_iincN (b := 1) hB dX9_bitsOf_84 rfl (by decide) (by decide) ?_
          refine a_goto (tgt := 61) hB dX9_bitsOf_87 (by decide) ?_
          exact aW_at [0, 1, 2, 3] rfl rfl rfl (ih61 (i + 1) (by omega))
      exact aW_at [0, 1, 2, 3] (by rw [show i = a by omega]; rfl) rfl rfl (lp61 (b) 0 (by omega))
    | succ j27 ih27 =>
      intro i hi
      refine a_iload hB dX9_bitsOf_27 rfl ?_
      refine a_sipushN (v := 1100) hB dX9_bitsOf_29 (by decide) ?_
      refine a_icmp_geN_f (tgt := 58) hB dX9_bitsOf_32 (by decide) (by omega) (by omega) (by omega) ?_
      refine a_dload_n hB dX9_bitsOf_35 rfl ?_
      refine a_ldc2d hB dX9_bitsOf_36 kk_X9_307 ?_
      refine a_dcmp hB dX9_bitsOf_39 ?_
      refine a_if_lt_f (tgt := 58) hB dX9_bitsOf_40 (by decide) (h1 i (by omega)).1 ?_
      refine a_dload_n hB dX9_bitsOf_43 rfl ?_
      refine a_ldc2d hB dX9_bitsOf_44 kk_X9_307 ?_
      refine a_ddiv hB dX9_bitsOf_47 (h1 i (by omega)).2 ?_
      refine a_dstore_n hB dX9_bitsOf_48 (by decide) ?_
      refine a_iincN (b := 1) hB dX9_bitsOf_49 rfl (by decide) (by decide) ?_
      refine a_iincN (b := 1) hB dX9_bitsOf_52 rfl (by decide) (by decide) ?_
      refine a_goto (tgt := 27) hB dX9_bitsOf_55 (by decide) ?_
      exact aW_at [0, 1, 2, 3] rfl rfl rfl (ih27 (i + 1) (by omega))
  exact aW_at [0, 1, 2, 3] rfl rfl rfl (lp27 (a) 0 (by omega))
theorem c_X9_bitsOf {G : GP} {x : UInt64} {v : Int64} (h : BO x v) : AMd G sX9_bitsOf [.double x] [] (some (.long v)) [] := by
  rcases h with ⟨h0, rfl⟩ | ⟨h0, s, a, b, sgn, ⟨hg, rfl, rfl⟩ | ⟨hg, rfl, rfl⟩, hok, rfl⟩
  · exact c_X9_bitsOf_z h0
  · exact c_X9_bitsOf_p h0 hg hok
  · exact c_X9_bitsOf_m h0 hg hok
def dg1 (P : PV) (num : Nat) : Nat → Int64
  | 0 => lN 2657
  | k + 1 => hsh (dg1 P num k) (nI (vC P num k)).toInt64
def dg2 (P : PV) (h : Int64) : Nat → Int64
  | 0 => h
  | p + 1 => vHP P p (dg2 P h p)
def dg3 (P : PV) (h : Int64) : Nat → Int64
  | 0 => h
  | u + 1 => hsh (hsh (dg3 P h u) (lN (vW P (5 * u) 0))) (lN (vW P (5 * u) 1))
def dg4 (P : PV) (h : Int64) : Nat → Int64
  | 0 => h
  | k + 1 => hsh (dg4 P h k) (vM P k).toInt64
def dg5 (cs : Nat → Nat) (h : Int64) : Nat → Int64
  | 0 => h
  | i + 1 => hsh (dg5 cs h i) (lN (cs i))
def vSl (P : PV) : Int32 := (slS P 13830554455654793216 P.parts).1
def dg0 (P : PV) (num : Nat) : Int64 := dg4 P (dg3 P (dg2 P (dg1 P num 9) P.parts) 3) 7
def dgT (P : PV) (num : Nat) : Int64 := hsh (hsh (hsh (hsh (dg0 P num) (vO P (-1) 5).toInt64) (vG P 1).toInt64) (nI (vF P 100)).toInt64) (vSl P).toInt64
def vDig (P : PV) (num len : Nat) (cs : Nat → Nat) : Int64 := dg5 cs (hsh (dgT P num) (lN len)) len
/-- what a digest asks for -/
def PV.dOK (P : PV) : Prop := P.mOK ∧ P.cfOK ∧ (∀ i, i < P.parts → oddOK (cnt P (nI i)) P.limit) ∧ oddOK (cnt P (-1)) 5 ∧ (∀ s, wfrom (cnt P (-1)) s ≤ 24794911296) ∧ (∀ k, k ≤ 6 → BO (vM P k) (vM P k).toInt64) ∧ BO (vO P (-1) 5) (vO P (-1) 5).toInt64 ∧ BO (vG P 1) (vG P 1).toInt64
