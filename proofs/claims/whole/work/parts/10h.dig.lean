def hvS (s : UInt64) : Nat → UInt64
  | 0 => s
  | i + 1 => FP.ddiv (hvS s i) 4611686018427387904
def upS (s : UInt64) : Nat → UInt64
  | 0 => s
  | i + 1 => FP.dmul (upS s i) 4611686018427387904
def exD (e : Int32) : Nat → Int32
  | 0 => e
  | i + 1 => exD e i + (-1)
/-- the bits that are put together behind a halvings, b doublings -/
def bVal (sgn : Int64) (s : UInt64) (a b : Nat) : Int64 := sgn ||| ((exD (nI a) b + nI 1023).toInt64 <<< ((nI 52).toInt64 &&& 63)) ||| FP.d2l (FP.dmul (FP.dsub (upS (hvS s a) b) FP.dconst1) 4841369599423283200)
def bOK (s : UInt64) (a b : Nat) : Prop := a < 1100 ∧ b < 1100 ∧ (∀ i, i < a → ¬ Op.cmpValue (FP.dcmp (hvS s i) 4611686018427387904) .l < 0 ∧ vf_n64 (FP.ddiv (hvS s i) 4611686018427387904)) ∧ Op.cmpValue (FP.dcmp (hvS s a) 4611686018427387904) .l < 0 ∧ (∀ i, i < b → ¬ 0 ≤ Op.cmpValue (FP.dcmp (upS (hvS s a) i) FP.dconst1) .g ∧ vf_n64 (FP.dmul (upS (hvS s a) i) 4611686018427387904)) ∧ 0 ≤ Op.cmpValue (FP.dcmp (upS (hvS s a) b) FP.dconst1) .g ∧ vf_n64 (FP.dsub (upS (hvS s a) b) FP.dconst1) ∧ vf_n64 (FP.dmul (FP.dsub (upS (hvS s a) b) FP.dconst1) 4841369599423283200)
/-- bitsOf answers v at x -/
def BO (x : UInt64) (v : Int64) : Prop := (Op.cmpValue (FP.dcmp x FP.dconst0) .l = 0 ∧ v = lN 0) ∨ (¬ Op.cmpValue (FP.dcmp x FP.dconst0) .l = 0 ∧ ∃ (s : UInt64) (a b : Nat) (sgn : Int64), ((0 ≤ Op.cmpValue (FP.dcmp x FP.dconst0) .g ∧ s = x ∧ sgn = lN 0) ∨ (¬ 0 ≤ Op.cmpValue (FP.dcmp x FP.dconst0) .g ∧ s = FP.dneg x ∧ sgn = (-9223372036854775808))) ∧ bOK s a b ∧ v = bVal sgn s a b)
set_option maxHeartbeats 4000000 in
set_option maxRecDepth 100000 in
theorem c_X9_bitsOf_z {G : GP} {x : UInt64} (h0 : Op.cmpValue (FP.dcmp x FP.dconst0) .l = 0) : AMd G sX9_bitsOf [.double x] [] (some (.long (lN 0))) [] := by
  refine AM.of (σ := sX9_bitsOf) (by decide +kernel) (by decide +kernel) (Nat.le_of_ble_eq_true rfl) (fun B hB hR hE0 hN => ?_)
  have hE := BE.of hE0
  refine a_dload_n hB dX9_bitsOf_0 rfl ?_
  refine a_dconst0 hB dX9_bitsOf_1 ?_
  refine a_dcmp hB dX9_bitsOf_2 ?_
  refine a_if_ne_f (tgt := 8) hB dX9_bitsOf_3 (by decide) h0 ?_
  refine a_lconstN (v := 0) hB dX9_bitsOf_6 (by decide) ?_
  exact a_lret hB hE rfl dX9_bitsOf_7 (Nat.le_of_ble_eq_true rfl) (Nat.le_of_ble_eq_true rfl) (AKeep.of rfl) ⟨rfl, rfl⟩
set_option maxHeartbeats 4000000 in
set_option maxRecDepth 100000 in
theorem c_X9_bitsOf_p {G : GP} {x : UInt64} {a b : Nat} (h0 : ¬ Op.cmpValue (FP.dcmp x FP.dconst0) .l = 0) (hg : 0 ≤ Op.cmpValue (FP.dcmp x FP.dconst0) .g) (hok : bOK x a b) : AMd G sX9_bitsOf [.double x] [] (some (.long (bVal (lN 0) x a b))) [] := by
  refine AM.of (σ := sX9_bitsOf) (by decide +kernel) (by decide +kernel) (Nat.le_of_ble_eq_true rfl) (fun B hB hR hE0 hN => ?_)
  have hE := BE.of hE0
  obtain ⟨ha, hb, h1, h2, h3, h4, h5, h6⟩ := hok
  refine a_dload_n hB dX9_bitsOf_0 rfl ?_
  refine a_dconst0 hB dX9_bitsOf_1 ?_
  refine a_dcmp hB dX9_bitsOf_2 ?_
  refine a_if_ne_t (tgt := 8) hB dX9_bitsOf_3 (by decide) h0 ?_
  refine a_dload_n hB dX9_bitsOf_8 rfl ?_
  refine a_dconst0 hB dX9_bitsOf_9 ?_
  refine a_dcmp hB dX9_bitsOf_10 ?_
  refine a_if_ge_t (tgt := 19) hB dX9_bitsOf_11 (by decide) hg ?_
  refine a_dload_n hB dX9_bitsOf_19 rfl ?_
  refine a_dstore_n hB dX9_bitsOf_20 (by decide) ?_
  refine a_iconstN (v := 0) hB dX9_bitsOf_21 (by decide) ?_
  refine a_istore hB dX9_bitsOf_22 (by decide) ?_
  refine a_iconstN (v := 0) hB dX9_bitsOf_24 (by decide) ?_
  refine a_istore hB dX9_bitsOf_25 (by decide) ?_
  have lp27 : ∀ (j27 i : Nat), i + j27 = a → aW G sX9_bitsOf B 27 [(0, .double x), (2, .double (hvS x i)), (4, .int (nI i)), (5, .int (nI i))] [] [] 0 0 := by
    intro j27
    induction j27 with
    | zero =>
      intro i hi
      refine a_iload hB dX9_bitsOf_27 rfl ?_
      refine a_sipushN (v := 1100) hB dX9_bitsOf_29 (by decide) ?_
      refine a_icmp_geN_f (tgt := 58) hB dX9_bitsOf_32 (by decide) (by omega) (by omega) (by omega) ?_
      refine a_dload_n hB dX9_bitsOf_35 rfl ?_
      refine a_ldc2d hB dX9_bitsOf_36 kk_X9_307 ?_
      refine a_dcmp hB dX9_bitsOf_39 ?_
      refine a_if_lt_t (tgt := 58) hB dX9_bitsOf_40 (by decide) (by rw [show i = a by omega]; exact h2) ?_
      refine a_iconstN (v := 0) hB dX9_bitsOf_58 (by decide) ?_
      refine a_istore hB dX9_bitsOf_59 (by decide) ?_
      have lp61 : ∀ (j61 i : Nat), i + j61 = b → aW G sX9_bitsOf B 61 [(0, .double x), (2, .double (upS (hvS x a) i)), (4, .int (exD (nI a) i)), (5, .int (nI i))] [] [] 0 0 := by
        intro j61
        induction j61 with
        | zero =>
          intro i hi
          refine a_iload hB dX9_bitsOf_61 rfl ?_
          refine a_sipushN (v := 1100) hB dX9_bitsOf_63 (by decide) ?_
          refine a_icmp_geN_f (tgt := 90) hB dX9_bitsOf_66 (by decide) (by omega) (by omega) (by omega) ?_
          refine a_dload_n hB dX9_bitsOf_69 rfl ?_
          refine a_dconst1 hB dX9_bitsOf_70 ?_
          refine a_dcmp hB dX9_bitsOf_71 ?_
          refine a_if_ge_t (tgt := 90) hB dX9_bitsOf_72 (by decide) (by rw [show i = b by omega]; exact h4) ?_
          refine a_dload_n hB dX9_bitsOf_90 rfl ?_
          refine a_dconst1 hB dX9_bitsOf_91 ?_
          refine a_dsub hB dX9_bitsOf_92 (by rw [show i = b by omega]; exact h5) ?_
          refine a_ldc2d hB dX9_bitsOf_93 kk_X9_309 ?_
          refine a_dmul hB dX9_bitsOf_96 (by rw [show i = b by omega]; exact h6) ?_
          refine a_d2l hB dX9_bitsOf_97 ?_
          refine a_lstore hB dX9_bitsOf_98 (by decide) ?_
          refine a_dload_n hB dX9_bitsOf_100 rfl ?_
          refine a_dconst0 hB dX9_bitsOf_101 ?_
          refine a_dcmp hB dX9_bitsOf_102 ?_
          refine a_if_ge_t (tgt := 112) hB dX9_bitsOf_103 (by decide) hg ?_
          refine a_lconstN (v := 0) hB dX9_bitsOf_112 (by decide) ?_
          refine a_lstore hB dX9_bitsOf_113 (by decide) ?_
          refine a_lload hB dX9_bitsOf_115 rfl ?_
          refine a_iload hB dX9_bitsOf_117 rfl ?_
          refine a_sipushN (v := 1023) hB dX9_bitsOf_119 (by decide) ?_
          refine a_iadd hB dX9_bitsOf_122 ?_
          refine a_i2l hB dX9_bitsOf_123 ?_
          refine a_bipushN (v := 52) hB dX9_bitsOf_124 (by decide) ?_
          refine a_lshl hB dX9_bitsOf_126 rfl ?_
          refine a_lor hB dX9_bitsOf_127 ?_
          refine a_lload hB dX9_bitsOf_128 rfl ?_
          refine a_lor hB dX9_bitsOf_130 ?_
          exact a_lret hB hE rfl dX9_bitsOf_131 (Nat.le_of_ble_eq_true rfl) (Nat.le_of_ble_eq_true rfl) (AKeep.of rfl) ⟨by rw [show i = b by omega]; rfl, rfl⟩
        | succ j61 ih61 =>
          intro i hi
          refine a_iload hB dX9_bitsOf_61 rfl ?_
          refine a_sipushN (v := 1100) hB dX9_bitsOf_63 (by decide) ?_
          refine a_icmp_geN_f (tgt := 90) hB dX9_bitsOf_66 (by decide) (by omega) (by omega) (by omega) ?_
          refine a_dload_n hB dX9_bitsOf_69 rfl ?_
          refine a_dconst1 hB dX9_bitsOf_70 ?_
          refine a_dcmp hB dX9_bitsOf_71 ?_
          refine a_if_ge_f (tgt := 90) hB dX9_bitsOf_72 (by decide) (h3 i (by omega)).1 ?_
          refine a_dload_n hB dX9_bitsOf_75 rfl ?_
          refine a_ldc2d hB dX9_bitsOf_76 kk_X9_307 ?_
          refine a_dmul hB dX9_bitsOf_79 (h3 i (by omega)).2 ?_
          refine a_dstore_n hB dX9_bitsOf_80 (by decide) ?_
          refine a_iinc (v := -1) hB dX9_bitsOf_81 rfl (by decide) (by decide) ?_
          refine a_iincN (b := 1) hB dX9_bitsOf_84 rfl (by decide) (by decide) ?_
          refine a_goto (tgt := 61) hB dX9_bitsOf_87 (by decide) ?_
          exact aW_at [0, 1, 2, 3] rfl rfl rfl (ih61 (i + 1) (by omega))
      exact aW_at [0, 1, 2, 3] (by rw [show i = a by omega]; rfl) rfl rfl (lp61 (b) 0 (by omega))
    | succ j27 ih27 =>
      intro i hi
      refine a_iload hB dX9_bitsOf_27 rfl ?_
      refine a_sipushN (v := 1100) hB dX9_bitsOf_29 (by decide) ?_
      refine a_icmp_geN_f (tgt := 58) hB dX9_bitsOf_32 (by decide) (by omega) (by omega) (by omega) ?_
      refine a_dload_n hB dX9_bitsOf_35 rfl ?_
      refine a_ldc2d hB dX9_bitsOf_36 kk_X9_307 ?_
      refine a_dcmp hB dX9_bitsOf_39 ?_
      refine a_if_lt_f (tgt := 58) hB dX9_bitsOf_40 (by decide) (h1 i (by omega)).1 ?_
      refine a_dload_n hB dX9_bitsOf_43 rfl ?_
      refine a_ldc2d hB dX9_bitsOf_44 kk_X9_307 ?_
      refine a_ddiv hB dX9_bitsOf_47 (h1 i (by omega)).2 ?_
      refine a_dstore_n hB dX9_bitsOf_48 (by decide) ?_
      refine a_iincN (b := 1) hB dX9_bitsOf_49 rfl (by decide) (by decide) ?_
      refine a_iincN (b := 1) hB dX9_bitsOf_52 rfl (by decide) (by decide) ?_
      refine a_goto (tgt := 27) hB dX9_bitsOf_55 (by decide) ?_
      exact aW_at [0, 1, 2, 3] rfl rfl rfl (ih27 (i + 1) (by omega))
  exact aW_at [0, 1, 2, 3] rfl rfl rfl (lp27 (a) 0 (by omega))
set_option maxHeartbeats 4000000 in
set_option maxRecDepth 100000 in
theorem c_X9_bitsOf_m {G : GP} {x : UInt64} {a b : Nat} (h0 : ¬ Op.cmpValue (FP.dcmp x FP.dconst0) .l = 0) (hg : ¬ 0 ≤ Op.cmpValue (FP.dcmp x FP.dconst0) .g) (hok : bOK (FP.dneg x) a b) : AMd G sX9_bitsOf [.double x] [] (some (.long (bVal (-9223372036854775808) (FP.dneg x) a b))) [] := by
  refine AM.of (σ := sX9_bitsOf) (by decide +kernel) (by decide +kernel) (Nat.le_of_ble_eq_true rfl) (fun B hB hR hE0 hN => ?_)
  have hE := BE.of hE0
  obtain ⟨ha, hb, h1, h2, h3, h4, h5, h6⟩ := hok
  refine a_dload_n hB dX9_bitsOf_0 rfl ?_
  refine a_dconst0 hB dX9_bitsOf_1 ?_
  refine a_dcmp hB dX9_bitsOf_2 ?_
  refine a_if_ne_t (tgt := 8) hB dX9_bitsOf_3 (by decide) h0 ?_
  refine a_dload_n hB dX9_bitsOf_8 rfl ?_
  refine a_dconst0 hB dX9_bitsOf_9 ?_
  refine a_dcmp hB dX9_bitsOf_10 ?_
  refine a_if_ge_f (tgt := 19) hB dX9_bitsOf_11 (by decide) hg ?_
  refine a_dload_n hB dX9_bitsOf_14 rfl ?_
  refine a_dneg hB dX9_bitsOf_15 ?_
  refine a_goto (tgt := 20) hB dX9_bitsOf_16 (by decide) ?_
  refine a_dstore_n hB dX9_bitsOf_20 (by decide) ?_
  refine a_iconstN (v := 0) hB dX9_bitsOf_21 (by decide) ?_
  refine a_istore hB dX9_bitsOf_22 (by decide) ?_
  refine a_iconstN (v := 0) hB dX9_bitsOf_24 (by decide) ?_
  refine a_istore hB dX9_bitsOf_25 (by decide) ?_
  have lp27 : ∀ (j27 i : Nat), i + j27 = a → aW G sX9_bitsOf B 27 [(0, .double x), (2, .double (hvS (FP.dneg x) i)), (4, .int (nI i)), (5, .int (nI i))] [] [] 0 0 := by
    intro j27
    induction j27 with
    | zero =>
      intro i hi
      refine a_iload hB dX9_bitsOf_27 rfl ?_
      refine a_sipushN (v := 1100) hB dX9_bitsOf_29 (by decide) ?_
      refine a_icmp_geN_f (tgt := 58) hB dX9_bitsOf_32 (by decide) (by omega) (by omega) (by omega) ?_
      refine a_dload_n hB dX9_bitsOf_35 rfl ?_
      refine a_ldc2d hB dX9_bitsOf_36 kk_X9_307 ?_
      refine a_dcmp hB dX9_bitsOf_39 ?_
      refine a_if_lt_t (tgt := 58) hB dX9_bitsOf_40 (by decide) (by rw [show i = a by omega]; exact h2) ?_
      refine a_iconstN (v := 0) hB dX9_bitsOf_58 (by decide) ?_
      refine a_istore hB dX9_bitsOf_59 (by decide) ?_
      have lp61 : ∀ (j61 i : Nat), i + j61 = b → aW G sX9_bitsOf B 61 [(0, .double x), (2, .double (upS (hvS (FP.dneg x) a) i)), (4, .int (exD (nI a) i)), (5, .int (nI i))] [] [] 0 0 := by
        intro j61
        induction j61 with
        | zero =>
          intro i hi
          refine a_iload hB dX9_bitsOf_61 rfl ?_
          refine a_sipushN (v := 1100) hB dX9_bitsOf_63 (by decide) ?_
          refine a_icmp_geN_f (tgt := 90) hB dX9_bitsOf_66 (by decide) (by omega) (by omega) (by omega) ?_
          refine a_dload_n hB dX9_bitsOf_69 rfl ?_
          refine a_dconst1 hB dX9_bitsOf_70 ?_
          refine a_dcmp hB dX9_bitsOf_71 ?_
          refine a_if_ge_t (tgt := 90) hB dX9_bitsOf_72 (by decide) (by rw [show i = b by omega]; exact h4) ?_
          refine a_dload_n hB dX9_bitsOf_90 rfl ?_
          refine a_dconst1 hB dX9_bitsOf_91 ?_
          refine a_dsub hB dX9_bitsOf_92 (by rw [show i = b by omega]; exact h5) ?_
          refine a_ldc2d hB dX9_bitsOf_93 kk_X9_309 ?_
          refine a_dmul hB dX9_bitsOf_96 (by rw [show i = b by omega]; exact h6) ?_
          refine a_d2l hB dX9_bitsOf_97 ?_
          refine a_lstore hB dX9_bitsOf_98 (by decide) ?_
          refine a_dload_n hB dX9_bitsOf_100 rfl ?_
          refine a_dconst0 hB dX9_bitsOf_101 ?_
          refine a_dcmp hB dX9_bitsOf_102 ?_
          refine a_if_ge_f (tgt := 112) hB dX9_bitsOf_103 (by decide) hg ?_
          refine a_ldc2 hB dX9_bitsOf_106 kk_X9_313 ?_
          refine a_goto (tgt := 113) hB dX9_bitsOf_109 (by decide) ?_
          refine a_lstore hB dX9_bitsOf_113 (by decide) ?_
          refine a_lload hB dX9_bitsOf_115 rfl ?_
          refine a_iload hB dX9_bitsOf_117 rfl ?_
          refine a_sipushN (v := 1023) hB dX9_bitsOf_119 (by decide) ?_
          refine a_iadd hB dX9_bitsOf_122 ?_
          refine a_i2l hB dX9_bitsOf_123 ?_
          refine a_bipushN (v := 52) hB dX9_bitsOf_124 (by decide) ?_
          refine a_lshl hB dX9_bitsOf_126 rfl ?_
          refine a_lor hB dX9_bitsOf_127 ?_
          refine a_lload hB dX9_bitsOf_128 rfl ?_
          refine a_lor hB dX9_bitsOf_130 ?_
          exact a_lret hB hE rfl dX9_bitsOf_131 (Nat.le_of_ble_eq_true rfl) (Nat.le_of_ble_eq_true rfl) (AKeep.of rfl) ⟨by rw [show i = b by omega]; rfl, rfl⟩
        | succ j61 ih61 =>
          intro i hi
          refine a_iload hB dX9_bitsOf_61 rfl ?_
          refine a_sipushN (v := 1100) hB dX9_bitsOf_63 (by decide) ?_
          refine a_icmp_geN_f (tgt := 90) hB dX9_bitsOf_66 (by decide) (by omega) (by omega) (by omega) ?_
          refine a_dload_n hB dX9_bitsOf_69 rfl ?_
          refine a_dconst1 hB dX9_bitsOf_70 ?_
          refine a_dcmp hB dX9_bitsOf_71 ?_
          refine a_if_ge_f (tgt := 90) hB dX9_bitsOf_72 (by decide) (h3 i (by omega)).1 ?_
          refine a_dload_n hB dX9_bitsOf_75 rfl ?_
          refine a_ldc2d hB dX9_bitsOf_76 kk_X9_307 ?_
          refine a_dmul hB dX9_bitsOf_79 (h3 i (by omega)).2 ?_
          refine a_dstore_n hB dX9_bitsOf_80 (by decide) ?_
          refine a_iinc (v := -1) hB dX9_bitsOf_81 rfl (by decide) (by decide) ?_
          refine a_iincN (b := 1) hB dX9_bitsOf_84 rfl (by decide) (by decide) ?_
          refine a_goto (tgt := 61) hB dX9_bitsOf_87 (by decide) ?_
          exact aW_at [0, 1, 2, 3] rfl rfl rfl (ih61 (i + 1) (by omega))
      exact aW_at [0, 1, 2, 3] (by rw [show i = a by omega]; rfl) rfl rfl (lp61 (b) 0 (by omega))
    | succ j27 ih27 =>
      intro i hi
      refine a_iload hB dX9_bitsOf_27 rfl ?_
      refine a_sipushN (v := 1100) hB dX9_bitsOf_29 (by decide) ?_
      refine a_icmp_geN_f (tgt := 58) hB dX9_bitsOf_32 (by decide) (by omega) (by omega) (by omega) ?_
      refine a_dload_n hB dX9_bitsOf_35 rfl ?_
      refine a_ldc2d hB dX9_bitsOf_36 kk_X9_307 ?_
      refine a_dcmp hB dX9_bitsOf_39 ?_
      refine a_if_lt_f (tgt := 58) hB dX9_bitsOf_40 (by decide) (h1 i (by omega)).1 ?_
      refine a_dload_n hB dX9_bitsOf_43 rfl ?_
      refine a_ldc2d hB dX9_bitsOf_44 kk_X9_307 ?_
      refine a_ddiv hB dX9_bitsOf_47 (h1 i (by omega)).2 ?_
      refine a_dstore_n hB dX9_bitsOf_48 (by decide) ?_
      refine a_iincN (b := 1) hB dX9_bitsOf_49 rfl (by decide) (by decide) ?_
      refine a_iincN (b := 1) hB dX9_bitsOf_52 rfl (by decide) (by decide) ?_
      refine a_goto (tgt := 27) hB dX9_bitsOf_55 (by decide) ?_
      exact aW_at [0, 1, 2, 3] rfl rfl rfl (ih27 (i + 1) (by omega))
  exact aW_at [0, 1, 2, 3] rfl rfl rfl (lp27 (a) 0 (by omega))
theorem c_X9_bitsOf {G : GP} {x : UInt64} {v : Int64} (h : BO x v) : AMd G sX9_bitsOf [.double x] [] (some (.long v)) [] := by
  rcases h with ⟨h0, rfl⟩ | ⟨h0, s, a, b, sgn, ⟨hg, rfl, rfl⟩ | ⟨hg, rfl, rfl⟩, hok, rfl⟩
  · exact c_X9_bitsOf_z h0
  · exact c_X9_bitsOf_p h0 hg hok
  · exact c_X9_bitsOf_m h0 hg hok
def dg1 (P : PV) (num : Nat) : Nat → Int64
  | 0 => lN 2657
  | k + 1 => hsh (dg1 P num k) (nI (vC P num k)).toInt64
def dg2 (P : PV) (h : Int64) : Nat → Int64
  | 0 => h
  | p + 1 => vHP P p (dg2 P h p)
def dg3 (P : PV) (h : Int64) : Nat → Int64
  | 0 => h
  | u + 1 => hsh (hsh (dg3 P h u) (lN (vW P (5 * u) 0))) (lN (vW P (5 * u) 1))
def dg4 (P : PV) (h : Int64) : Nat → Int64
  | 0 => h
  | k + 1 => hsh (dg4 P h k) (vM P k).toInt64
def dg5 (cs : Nat → Nat) (h : Int64) : Nat → Int64
  | 0 => h
  | i + 1 => hsh (dg5 cs h i) (lN (cs i))
def vSl (P : PV) : Int32 := (slS P 13830554455654793216 P.parts).1
def dg0 (P : PV) (num : Nat) : Int64 := dg4 P (dg3 P (dg2 P (dg1 P num 9) P.parts) 3) 7
def dgT (P : PV) (num : Nat) : Int64 := hsh (hsh (hsh (hsh (dg0 P num) (vO P (-1) 5).toInt64) (vG P 1).toInt64) (nI (vF P 100)).toInt64) (vSl P).toInt64
def vDig (P : PV) (num len : Nat) (cs : Nat → Nat) : Int64 := dg5 cs (hsh (dgT P num) (lN len)) len
/-- what a digest asks for -/
def PV.dOK (P : PV) : Prop := P.mOK ∧ P.cfOK ∧ (∀ i, i < P.parts → oddOK (cnt P (nI i)) P.limit) ∧ oddOK (cnt P (-1)) 5 ∧ (∀ s, wfrom (cnt P (-1)) s ≤ 24794911296) ∧ (∀ k, k ≤ 6 → BO (vM P k) (vM P k).toInt64) ∧ BO (vO P (-1) 5) (vO P (-1) 5).toInt64 ∧ BO (vG P 1) (vG P 1).toInt64
set_option maxHeartbeats 4000000 in
set_option maxRecDepth 100000 in
theorem c_X9_digest {G : GP} {xa pa : Nat → Nat} {P : PV} {pl : Nat → Option Nat} {nx num len : Nat} {cs f m : Nat → Nat} {g : Nat → UInt64} (h6 : P.parts ≤ 6) (hw : ∀ j, P.wt j ≤ 9) (ht : ∀ j, P.tl j ≤ 99) (hlim : P.limit ≤ 99) (hpos : ∀ p, p < P.parts → ∃ l, l < 6 ∧ 0 < gt P.wt p l) (hn : P.sv.num < 2 ^ 31) (hl : len ≤ 60) (hcs : ∀ i, i < len → cs i < 2 ^ 31) (hd : P.dOK) : AM G sX9_digest 0 0 [.ref (xa 0)] (wR G xa pa P pl nx num [] len cs f m g) (fun rv w => rv = some (.long (vDig P num len cs)) ∧ ∃ (f m : Nat → Nat) (g : Nat → UInt64), w = wR G xa pa P pl nx num [] len cs f m g) := by
  refine AM.of (σ := sX9_digest) (by decide +kernel) (by decide +kernel) (Nat.le_of_ble_eq_true rfl) (fun B hB hR hE0 hN => ?_)
  have hE := BE.of hE0
  obtain ⟨hm, hcf, hoi, ho5, hb54, hbM, hb5, hbG⟩ := hd
  refine a_ldc2N (v := 2657) hB dX9_digest_0 kk_X9_259 (by decide) ?_
  refine a_lstore_n hB dX9_digest_3 (by decide) ?_
  refine a_iconstN (v := 0) hB dX9_digest_4 (by decide) ?_
  refine a_istore_n hB dX9_digest_5 (by decide) ?_
  have lp6 : ∀ (j6 i : Nat) (f m : Nat → Nat) (g : Nat → UInt64), i + j6 = 9 → aW G sX9_digest B 6 [(0, .ref (xa 0)), (1, .long (dg1 P num i)), (3, .int (nI (i)))] [] (wR G xa pa P pl nx num [] len cs f m g) 0 0 := by
    intro j6
    induction j6 with
    | zero =>
      intro i f m g hi
      refine a_iload_n hB dX9_digest_6 rfl ?_
      refine a_bipushN (v := 9) hB dX9_digest_7 (by decide) ?_
      refine a_icmp_geN_t (tgt := 29) hB dX9_digest_9 (by decide) (by omega) (by omega) (by omega) ?_
      refine a_iconstN (v := 0) hB dX9_digest_29 (by decide) ?_
      refine a_istore_n hB dX9_digest_30 (by decide) ?_
      have lp31 : ∀ (j31 i : Nat) (f m : Nat → Nat) (g : Nat → UInt64), i + j31 = P.parts → aW G sX9_digest B 31 [(0, .ref (xa 0)), (1, .long (dg2 P (dg1 P num 9) i)), (3, .int (nI (i)))] [] (wR G xa pa P pl nx num [] len cs f m g) 0 0 := by
        intro j31
        induction j31 with
        | zero =>
          intro i f m g hi
          refine a_iload_n hB dX9_digest_31 rfl ?_
          refine a_aload_n hB dX9_digest_32 rfl ?_
          refine a_get (T := TX9) (ci := 9) hB dX9_digest_33 0 fl_X9_12 lay_X9 rfl (by decide) rfl 0 rfl rfl ?_
          refine a_get (T := TX4) (ci := 4) hB dX9_digest_36 3 fl_X9_58 lay_X4 rfl (by decide) rfl 1 rfl rfl ?_
          refine a_icmp_geN_t (tgt := 55) hB dX9_digest_39 (by decide) (by omega) (by omega) (by omega) ?_
          refine a_iconstN (v := 0) hB dX9_digest_55 (by decide) ?_
          refine a_istore_n hB dX9_digest_56 (by decide) ?_
          have lp57 : ∀ (j57 i : Nat) (f m : Nat → Nat) (g : Nat → UInt64), i + j57 = 3 → aW G sX9_digest B 57 [(0, .ref (xa 0)), (1, .long (dg3 P (dg2 P (dg1 P num 9) P.parts) i)), (3, .int (nI (5 * i)))] [] (wR G xa pa P pl nx num [] len cs f m g) 0 0 := by
            intro j57
            induction j57 with
            | zero =>
              intro i f m g hi
              refine a_iload_n hB dX9_digest_57 rfl ?_
              refine a_bipushN (v := 10) hB dX9_digest_58 (by decide) ?_
              refine a_icmp_gtN_t (tgt := 91) hB dX9_digest_60 (by decide) (by omega) (by omega) (by omega) ?_
              refine a_iconstN (v := 0) hB dX9_digest_91 (by decide) ?_
              refine a_istore_n hB dX9_digest_92 (by decide) ?_
              have lp93 : ∀ (j93 i : Nat) (f m : Nat → Nat) (g : Nat → UInt64), i + j93 = 7 → aW G sX9_digest B 93 [(0, .ref (xa 0)), (1, .long (dg4 P (dg3 P (dg2 P (dg1 P num 9) P.parts) 3) i)), (3, .int (nI (i)))] [] (wR G xa pa P pl nx num [] len cs f m g) 0 0 := by
                intro j93
                induction j93 with
                | zero =>
                  intro i f m g hi
                  refine a_iload_n hB dX9_digest_93 rfl ?_
                  refine a_bipushN (v := 7) hB dX9_digest_94 (by decide) ?_
                  refine a_icmp_geN_t (tgt := 118) hB dX9_digest_96 (by decide) (by omega) (by omega) (by omega) ?_
                  refine a_lload_n hB dX9_digest_118 rfl ?_
                  refine a_aload_n hB dX9_digest_119 rfl ?_
                  refine a_iconstN (v := 5) hB dX9_digest_120 (by decide) ?_
                  refine a_callV (q0 := 0) hB (c_X9_ifLimit (P := P) h6 hw (by omega) ho5) mk_X9_ifLimit ml_X9_283 dX9_digest_121 rfl rfl [0, 1, 2, 3, 4, 5, 6, 7, 8, 9, 10, 11, 12, 13, 14, 15, 16, 17] rfl (by decide) rfl rfl (fit_of hR (by decide)) (Nat.le_of_ble_eq_true rfl) (fun v121 w121 hq121 hk121 => ?_)
                  obtain ⟨rfl, f, m, g, rfl⟩ := hq121
                  refine aW_w (ws' := wR G xa pa P pl nx num [] len cs f m g) (wput_all rfl rfl) ?_
                  refine a_callSr hB (c_X9_bitsOf hb5) mk_X9_bitsOf ml_X9_279 dX9_digest_124 rfl rfl [] rfl (by decide) (fit_of hR (by decide)) (Nat.le_of_ble_eq_true rfl) ?_
                  refine a_callSr hB (c_X9_hashWith) mk_X9_hashWith ml_X9_264 dX9_digest_127 rfl rfl [] rfl (by decide) (fit_of hR (by decide)) (Nat.le_of_ble_eq_true rfl) ?_
                  refine a_lstore_n hB dX9_digest_130 (by decide) ?_
                  refine a_lload_n hB dX9_digest_131 rfl ?_
                  refine a_aload_n hB dX9_digest_132 rfl ?_
                  refine a_iconstN (v := 1) hB dX9_digest_133 (by decide) ?_
                  refine a_callV (q0 := 0) hB (c_X9_greatest_1 (P := P) h6 hw ht hlim hcf) mk_X9_greatest ml_X9_286 dX9_digest_134 rfl rfl [0, 1, 2, 3, 4, 5, 6, 7, 8, 9, 10, 11, 12, 13, 14, 15, 16, 17] rfl (by decide) rfl rfl (fit_of hR (by decide)) (Nat.le_of_ble_eq_true rfl) (fun v134 w134 hq134 hk134 => ?_)
                  obtain ⟨rfl, f, m, g, rfl⟩ := hq134
                  refine aW_w (ws' := wR G xa pa P pl nx num [] len cs f m g) (wput_all rfl rfl) ?_
                  refine a_callSr hB (c_X9_bitsOf hbG) mk_X9_bitsOf ml_X9_279 dX9_digest_137 rfl rfl [] rfl (by decide) (fit_of hR (by decide)) (Nat.le_of_ble_eq_true rfl) ?_
                  refine a_callSr hB (c_X9_hashWith) mk_X9_hashWith ml_X9_264 dX9_digest_140 rfl rfl [] rfl (by decide) (fit_of hR (by decide)) (Nat.le_of_ble_eq_true rfl) ?_
                  refine a_lstore_n hB dX9_digest_143 (by decide) ?_
                  refine a_lload_n hB dX9_digest_144 rfl ?_
                  refine a_aload_n hB dX9_digest_145 rfl ?_
                  refine a_bipushN (v := 100) hB dX9_digest_146 (by decide) ?_
                  refine a_callV (q0 := 0) hB (c_X9_limitFor (P := P) h6 hw (by omega) hb54) mk_X9_limitFor ml_X9_290 dX9_digest_148 rfl rfl [0, 1, 2, 3, 4, 5, 6, 7, 8, 9, 10, 11, 12, 13, 14, 15, 16, 17] rfl (by decide) rfl rfl (fit_of hR (by decide)) (Nat.le_of_ble_eq_true rfl) (fun v148 w148 hq148 hk148 => ?_)
                  obtain ⟨rfl, f, m, g, rfl⟩ := hq148
                  refine aW_w (ws' := wR G xa pa P pl nx num [] len cs f m g) (wput_all rfl rfl) ?_
                  refine a_i2l hB dX9_digest_151 ?_
                  refine a_callSr hB (c_X9_hashWith) mk_X9_hashWith ml_X9_264 dX9_digest_152 rfl rfl [] rfl (by decide) (fit_of hR (by decide)) (Nat.le_of_ble_eq_true rfl) ?_
                  refine a_lstore_n hB dX9_digest_155 (by decide) ?_
                  refine a_lload_n hB dX9_digest_156 rfl ?_
                  refine a_aload_n hB dX9_digest_157 rfl ?_
                  refine a_callV (q0 := 0) hB (c_X9_slightest (P := P) h6 hw hlim hoi) mk_X9_slightest ml_X9_293 dX9_digest_158 rfl rfl [0, 1, 2, 3, 4, 5, 6, 7, 8, 9, 10, 11, 12, 13, 14, 15, 16, 17] rfl (by decide) rfl rfl (fit_of hR (by decide)) (Nat.le_of_ble_eq_true rfl) (fun v158 w158 hq158 hk158 => ?_)
                  obtain ⟨rfl, f, m, g, rfl⟩ := hq158
                  refine aW_w (ws' := wR G xa pa P pl nx num [] len cs f m g) (wput_all rfl rfl) ?_
                  refine a_i2l hB dX9_digest_161 ?_
                  refine a_callSr hB (c_X9_hashWith) mk_X9_hashWith ml_X9_264 dX9_digest_162 rfl rfl [] rfl (by decide) (fit_of hR (by decide)) (Nat.le_of_ble_eq_true rfl) ?_
                  refine a_lstore_n hB dX9_digest_165 (by decide) ?_
                  refine a_lload_n hB dX9_digest_166 rfl ?_
                  refine a_aload_n hB dX9_digest_167 rfl ?_
                  refine a_get (T := TX9) (ci := 9) hB dX9_digest_168 2 fl_X9_26 lay_X9 rfl (by decide) rfl 0 rfl rfl ?_
                  refine a_get (T := TX8) (ci := 8) hB dX9_digest_171 1 fl_X9_156 lay_X8 rfl (by decide) rfl 10 rfl rfl ?_
                  refine a_i2lN hB dX9_digest_174 (by omega) ?_
                  refine a_callSr hB (c_X9_hashWith) mk_X9_hashWith ml_X9_264 dX9_digest_175 rfl rfl [] rfl (by decide) (fit_of hR (by decide)) (Nat.le_of_ble_eq_true rfl) ?_
                  refine a_lstore_n hB dX9_digest_178 (by decide) ?_
                  refine a_iconstN (v := 0) hB dX9_digest_179 (by decide) ?_
                  refine a_istore_n hB dX9_digest_180 (by decide) ?_
                  have lp181 : ∀ (j181 i : Nat) (f m : Nat → Nat) (g : Nat → UInt64), i + j181 = len → aW G sX9_digest B 181 [(0, .ref (xa 0)), (1, .long (dg5 cs (hsh (dgT P num) (lN len)) i)), (3, .int (nI (i)))] [] (wR G xa pa P pl nx num [] len cs f m g) 0 0 := by
                    intro j181
                    induction j181 with
                    | zero =>
                      intro i f m g hi
                      refine a_iload_n hB dX9_digest_181 rfl ?_
                      refine a_aload_n hB dX9_digest_182 rfl ?_
                      refine a_get (T := TX9) (ci := 9) hB dX9_digest_183 2 fl_X9_26 lay_X9 rfl (by decide) rfl 0 rfl rfl ?_
                      refine a_get (T := TX8) (ci := 8) hB dX9_digest_186 1 fl_X9_156 lay_X8 rfl (by decide) rfl 10 rfl rfl ?_
                      refine a_icmp_geN_t (tgt := 212) hB dX9_digest_189 (by decide) (by omega) (by omega) (by omega) ?_
                      refine a_lload_n hB dX9_digest_212 rfl ?_
                      exact a_lret hB hE rfl dX9_digest_213 (Nat.le_of_ble_eq_true rfl) (Nat.le_of_ble_eq_true rfl) (AKeep.of rfl) ⟨by rw [show i = len by omega]; rfl, _, _, _, rfl⟩
                    | succ j181 ih181 =>
                      intro i f m g hi
                      refine a_iload_n hB dX9_digest_181 rfl ?_
                      refine a_aload_n hB dX9_digest_182 rfl ?_
                      refine a_get (T := TX9) (ci := 9) hB dX9_digest_183 2 fl_X9_26 lay_X9 rfl (by decide) rfl 0 rfl rfl ?_
                      refine a_get (T := TX8) (ci := 8) hB dX9_digest_186 1 fl_X9_156 lay_X8 rfl (by decide) rfl 10 rfl rfl ?_
                      refine a_icmp_geN_f (tgt := 212) hB dX9_digest_189 (by decide) (by omega) (by omega) (by omega) ?_
                      refine a_lload_n hB dX9_digest_192 rfl ?_
                      refine a_aload_n hB dX9_digest_193 rfl ?_
                      refine a_get (T := TX9) (ci := 9) hB dX9_digest_194 2 fl_X9_26 lay_X9 rfl (by decide) rfl 0 rfl rfl ?_
                      refine a_iload_n hB dX9_digest_197 rfl ?_
                      refine a_callVr (q0 := 10) hB (c_X8_codeAt (by omega) hl) mk_X8_codeAt ml_X9_296 dX9_digest_198 rfl rfl [10, 11] rfl (by decide) rfl rfl (fit_of hR (by decide)) (Nat.le_of_ble_eq_true rfl) ?_
                      refine a_i2lN hB dX9_digest_201 (hcs i (by omega)) ?_
                      refine a_callSr hB (c_X9_hashWith) mk_X9_hashWith ml_X9_264 dX9_digest_202 rfl rfl [] rfl (by decide) (fit_of hR (by decide)) (Nat.le_of_ble_eq_true rfl) ?_
                      refine a_lstore_n hB dX9_digest_205 (by decide) ?_
                      refine a_iincN (b := 1) hB dX9_digest_206 rfl (by decide) (by decide) ?_
                      refine a_goto (tgt := 181) hB dX9_digest_209 (by decide) ?_
                      exact aW_at [0, 1, 2] rfl rfl rfl (ih181 (i + 1) f m g (by omega))
                  exact aW_at [0, 1, 2] (by rw [show i = 7 by omega]; rfl) rfl rfl (lp181 (len) 0 f m g (by omega))
                | succ j93 ih93 =>
                  intro i f m g hi
                  refine a_iload_n hB dX9_digest_93 rfl ?_
                  refine a_bipushN (v := 7) hB dX9_digest_94 (by decide) ?_
                  refine a_icmp_geN_f (tgt := 118) hB dX9_digest_96 (by decide) (by omega) (by omega) (by omega) ?_
                  refine a_lload_n hB dX9_digest_99 rfl ?_
                  refine a_aload_n hB dX9_digest_100 rfl ?_
                  refine a_iload_n hB dX9_digest_101 rfl ?_
                  refine a_callV (q0 := 0) hB (c_X9_measure (P := P) h6 hw hlim hn hm (by omega)) mk_X9_measure ml_X9_276 dX9_digest_102 rfl rfl [0, 1, 2, 3, 4, 5, 6, 7, 8, 9, 10, 11, 12, 13, 14, 15, 16, 17] rfl (by decide) rfl rfl (fit_of hR (by decide)) (Nat.le_of_ble_eq_true rfl) (fun v102 w102 hq102 hk102 => ?_)
                  obtain ⟨rfl, f, m, g, rfl⟩ := hq102
                  refine aW_w (ws' := wR G xa pa P pl nx num [] len cs f m g) (wput_all rfl rfl) ?_
                  refine a_callSr hB (c_X9_bitsOf (hbM _ (by omega))) mk_X9_bitsOf ml_X9_279 dX9_digest_105 rfl rfl [] rfl (by decide) (fit_of hR (by decide)) (Nat.le_of_ble_eq_true rfl) ?_
                  refine a_callSr hB (c_X9_hashWith) mk_X9_hashWith ml_X9_264 dX9_digest_108 rfl rfl [] rfl (by decide) (fit_of hR (by decide)) (Nat.le_of_ble_eq_true rfl) ?_
                  refine a_lstore_n hB dX9_digest_111 (by decide) ?_
                  refine a_iincN (b := 1) hB dX9_digest_112 rfl (by decide) (by decide) ?_
                  refine a_goto (tgt := 93) hB dX9_digest_115 (by decide) ?_
                  exact aW_at [0, 1, 2] rfl rfl rfl (ih93 (i + 1) f m g (by omega))
              exact aW_at [0, 1, 2] (by rw [show i = 3 by omega]; rfl) rfl rfl (lp93 (7) 0 f m g (by omega))
            | succ j57 ih57 =>
              intro i f m g hi
              refine a_iload_n hB dX9_digest_57 rfl ?_
              refine a_bipushN (v := 10) hB dX9_digest_58 (by decide) ?_
              refine a_icmp_gtN_f (tgt := 91) hB dX9_digest_60 (by decide) (by omega) (by omega) (by omega) ?_
              refine a_lload_n hB dX9_digest_63 rfl ?_
              refine a_aload_n hB dX9_digest_64 rfl ?_
              refine a_iload_n hB dX9_digest_65 rfl ?_
              refine a_iconstN (v := 0) hB dX9_digest_66 (by decide) ?_
              refine a_callV (q0 := 0) hB (c_X9_ways (P := P) (b := 0) h6 hw (by omega) (by omega)) mk_X9_ways ml_X9_272 dX9_digest_67 rfl rfl [0, 1, 2, 3, 4, 5, 6, 7, 8, 9, 10, 11, 12, 13, 14, 15, 16, 17] rfl (by decide) rfl rfl (fit_of hR (by decide)) (Nat.le_of_ble_eq_true rfl) (fun v67 w67 hq67 hk67 => ?_)
              obtain ⟨rfl, f, m, g, rfl⟩ := hq67
              refine aW_w (ws' := wR G xa pa P pl nx num [] len cs f m g) (wput_all rfl rfl) ?_
              refine a_callSr hB (c_X9_hashWith) mk_X9_hashWith ml_X9_264 dX9_digest_70 rfl rfl [] rfl (by decide) (fit_of hR (by decide)) (Nat.le_of_ble_eq_true rfl) ?_
              refine a_lstore_n hB dX9_digest_73 (by decide) ?_
              refine a_lload_n hB dX9_digest_74 rfl ?_
              refine a_aload_n hB dX9_digest_75 rfl ?_
              refine a_iload_n hB dX9_digest_76 rfl ?_
              refine a_iconstN (v := 1) hB dX9_digest_77 (by decide) ?_
              refine a_callV (q0 := 0) hB (c_X9_ways (P := P) (b := 1) h6 hw (by omega) (by omega)) mk_X9_ways ml_X9_272 dX9_digest_78 rfl rfl [0, 1, 2, 3, 4, 5, 6, 7, 8, 9, 10, 11, 12, 13, 14, 15, 16, 17] rfl (by decide) rfl rfl (fit_of hR (by decide)) (Nat.le_of_ble_eq_true rfl) (fun v78 w78 hq78 hk78 => ?_)
              obtain ⟨rfl, f, m, g, rfl⟩ := hq78
              refine aW_w (ws' := wR G xa pa P pl nx num [] len cs f m g) (wput_all rfl rfl) ?_
              refine a_callSr hB (c_X9_hashWith) mk_X9_hashWith ml_X9_264 dX9_digest_81 rfl rfl [] rfl (by decide) (fit_of hR (by decide)) (Nat.le_of_ble_eq_true rfl) ?_
              refine a_lstore_n hB dX9_digest_84 (by decide) ?_
              refine a_iincN (b := 5) hB dX9_digest_85 rfl (by decide) (by decide) ?_
              refine a_goto (tgt := 57) hB dX9_digest_88 (by decide) ?_
              exact aW_at [0, 1, 2] rfl rfl rfl (ih57 (i + 1) f m g (by omega))
          exact aW_at [0, 1, 2] (by rw [show i = P.parts by omega]; rfl) rfl rfl (lp57 (3) 0 f m g (by omega))
        | succ j31 ih31 =>
          intro i f m g hi
          refine a_iload_n hB dX9_digest_31 rfl ?_
          refine a_aload_n hB dX9_digest_32 rfl ?_
          refine a_get (T := TX9) (ci := 9) hB dX9_digest_33 0 fl_X9_12 lay_X9 rfl (by decide) rfl 0 rfl rfl ?_
          refine a_get (T := TX4) (ci := 4) hB dX9_digest_36 3 fl_X9_58 lay_X4 rfl (by decide) rfl 1 rfl rfl ?_
          refine a_icmp_geN_f (tgt := 55) hB dX9_digest_39 (by decide) (by omega) (by omega) (by omega) ?_
          refine a_aload_n hB dX9_digest_42 rfl ?_
          refine a_lload_n hB dX9_digest_43 rfl ?_
          refine a_iload_n hB dX9_digest_44 rfl ?_
          refine a_callV (q0 := 0) hB (c_X9_hashWithPart (P := P) h6 hw ht hlim hpos hn (by omega)) mk_X9_hashWithPart ml_X9_268 dX9_digest_45 rfl rfl [0, 1, 2, 3, 4, 5, 6, 7, 8, 9, 10, 11, 12, 13, 14, 15, 16, 17] rfl (by decide) rfl rfl (fit_of hR (by decide)) (Nat.le_of_ble_eq_true rfl) (fun v45 w45 hq45 hk45 => ?_)
          obtain ⟨rfl, f, m, g, rfl⟩ := hq45
          refine aW_w (ws' := wR G xa pa P pl nx num [] len cs f m g) (wput_all rfl rfl) ?_
          refine a_lstore_n hB dX9_digest_48 (by decide) ?_
          refine a_iincN (b := 1) hB dX9_digest_49 rfl (by decide) (by decide) ?_
          refine a_goto (tgt := 31) hB dX9_digest_52 (by decide) ?_
          exact aW_at [0, 1, 2] rfl rfl rfl (ih31 (i + 1) f m g (by omega))
      exact aW_at [0, 1, 2] (by rw [show i = 9 by omega]; rfl) rfl rfl (lp31 (P.parts) 0 f m g (by omega))
    | succ j6 ih6 =>
      intro i f m g hi
      refine a_iload_n hB dX9_digest_6 rfl ?_
      refine a_bipushN (v := 9) hB dX9_digest_7 (by decide) ?_
      refine a_icmp_geN_f (tgt := 29) hB dX9_digest_9 (by decide) (by omega) (by omega) (by omega) ?_
      refine a_lload_n hB dX9_digest_12 rfl ?_
      refine a_aload_n hB dX9_digest_13 rfl ?_
      refine a_iload_n hB dX9_digest_14 rfl ?_
      refine a_callV (q0 := 0) hB (c_X9_count (P := P) h6 hw hlim hpos (by omega)) mk_X9_count ml_X9_261 dX9_digest_15 rfl rfl [0, 1, 2, 3, 4, 5, 6, 7, 8, 9, 10, 11, 12, 13, 14, 15, 16, 17] rfl (by decide) rfl rfl (fit_of hR (by decide)) (Nat.le_of_ble_eq_true rfl) (fun v15 w15 hq15 hk15 => ?_)
      obtain ⟨rfl, f, m, g, rfl⟩ := hq15
      refine aW_w (ws' := wR G xa pa P pl nx num [] len cs f m g) (wput_all rfl rfl) ?_
      refine a_i2l hB dX9_digest_18 ?_
      refine a_callSr hB (c_X9_hashWith) mk_X9_hashWith ml_X9_264 dX9_digest_19 rfl rfl [] rfl (by decide) (fit_of hR (by decide)) (Nat.le_of_ble_eq_true rfl) ?_
      refine a_lstore_n hB dX9_digest_22 (by decide) ?_
      refine a_iincN (b := 1) hB dX9_digest_23 rfl (by decide) (by decide) ?_
      refine a_goto (tgt := 6) hB dX9_digest_26 (by decide) ?_
      exact aW_at [0, 1, 2] rfl rfl rfl (ih6 (i + 1) f m g (by omega))
  exact aW_at [0, 1, 2] rfl rfl rfl (lp6 (9) 0 f m g (by omega))
