def sX5_add : MS := (yX5_add, cX5_add, 4, none, RX5, 0)
def sX5_clear : MS := (yX5_clear, cX5_clear, 1, none, RX5, 0)
def sX5_copyFrom : MS := (yX5_copyFrom, cX5_copyFrom, 3, none, RX5, 0)
def sX5_init : MS := (yX5_init, cX5_init, 1, none, RX5, 1)
def sX5_latestLoadOf : MS := (yX5_latestLoadOf, cX5_latestLoadOf, 3, (some .int), RX5, 0)
def sX5_setLatestLoad : MS := (yX5_setLatestLoad, cX5_setLatestLoad, 3, none, RX5, 0)
/-- what is kept of the samples: latest loads, how many, faults, sum of the faults' corrections, of all, of all squares, the latest -/
def SV : Type := (Nat → Nat) × Nat × Nat × UInt64 × UInt64 × UInt64 × UInt64
def mkS (ll : Nat → Nat) (num flt : Nat) (fs sm sq lc : UInt64) : SV := (ll, num, flt, fs, sm, sq, lc)
def SV.ll (S : SV) : Nat → Nat := S.1
def SV.num (S : SV) : Nat := S.2.1
def SV.flt (S : SV) : Nat := S.2.2.1
def SV.fs (S : SV) : UInt64 := S.2.2.2.1
def SV.sm (S : SV) : UInt64 := S.2.2.2.2.1
def SV.sq (S : SV) : UInt64 := S.2.2.2.2.2.1
def SV.lc (S : SV) : UInt64 := S.2.2.2.2.2.2
abbrev wS (G : GP) (q r : Nat) (S : SV) : va_W := [(q, ob 5 [.ref r, .int (nI S.num), .int (nI S.flt), .double S.fs, .double S.sm, .double S.sq, .double S.lc]), (r, aN G 6 S.ll)]
def SV.clr (S : SV) : SV := mkS S.ll 0 0 FP.dconst0 FP.dconst0 FP.dconst0 FP.dconst0
def SV.setL (S : SV) (p l : Nat) : SV := mkS (uN S.ll p l) S.num S.flt S.fs S.sm S.sq S.lc
def SV.add (S : SV) (c : UInt64) (b : Nat) : SV := mkS S.ll (S.num + 1) (if b = 0 then S.flt else S.flt + 1) (if b = 0 then S.fs else FP.dadd S.fs c) (FP.dadd S.sm c) (FP.dadd S.sq (FP.dmul c c)) c
def SV.cpy (S O : SV) : SV := mkS (cpN S.ll O.ll 6) O.num O.flt O.fs O.sm O.sq O.lc
def SV.latest (S : SV) (p : Nat) : Int32 := if S.num = 0 then -1 else nI (S.ll p)
def SV.share (S : SV) (x : UInt64) : UInt64 := if S.num = 0 then FP.dconst0 else FP.ddiv x (FP.i2d (nI S.num))
def SV.eff (S : SV) : UInt64 := if Op.cmpValue (FP.dcmp S.sq FP.dconst0) .l ≤ 0 then FP.dconst0 else FP.ddiv (FP.dmul S.sm S.sm) S.sq
set_option maxHeartbeats 4000000 in
set_option maxRecDepth 100000 in
theorem c_X5_init {G : GP} {q : Nat} : AM G sX5_init 1 6 [.ref q] [(q, ob 5 [.null, .int 0, .int 0, .double 0, .double 0, .double 0, .double 0])] (fun v w => v = none ∧ ∃ r, w = wS G q r (mkS (fun _ => 0) 0 0 FP.dconst0 FP.dconst0 FP.dconst0 FP.dconst0)) := by
  refine AM.of (σ := sX5_init) (by decide +kernel) (by decide +kernel) (Nat.le_of_ble_eq_true rfl) (fun B hB hR hE0 hN => ?_)
  have hE := BE.of hE0
  have hN : B.meth.name = "<init>" := hN
  refine a_aload_n hB dX5_init_0 rfl ?_
  refine a_objInit hB ml_X5_3 dX5_init_1 (roomF hR (Nat.le_of_ble_eq_true rfl)) (room12 hR (Nat.le_of_ble_eq_true rfl)) ?_
  refine a_aload_n hB dX5_init_4 rfl ?_
  refine a_bipushN (v := 6) hB dX5_init_5 (by decide) ?_
  refine a_newI (N := 6) hB dX5_init_7 (nI_pos (by decide)) (nI_clamp (by decide)) (by decide) (roomc hR (Nat.le_of_ble_eq_true rfl)) (rooms hR (Nat.le_of_ble_eq_true rfl)) (fun q1 => ?_)
  refine a_putF (T := TX5) (ci := 5) hB hN dX5_init_9 0 fl_X5_9 lay_X5 tyX5 tyX5_ok nmX5 rfl (by decide) rfl rfl rfl 0 rfl rfl rfl rfl (Nat.le_of_ble_eq_true rfl) ?_
  exact a_vret hB hE rfl dX5_init_12 (Nat.le_of_ble_eq_true rfl) (Nat.le_of_ble_eq_true rfl) (AKeep.of rfl) ⟨rfl, q1, rfl⟩
set_option maxHeartbeats 4000000 in
set_option maxRecDepth 100000 in
theorem c_X5_clear {G : GP} {q r : Nat} {S : SV} : AMd G sX5_clear [.ref q] (wS G q r S) none (wS G q r S.clr) := by
  refine AM.of (σ := sX5_clear) (by decide +kernel) (by decide +kernel) (Nat.le_of_ble_eq_true rfl) (fun B hB hR hE0 hN => ?_)
  have hE := BE.of hE0
  refine a_aload_n hB dX5_clear_0 rfl ?_
  refine a_iconstN (v := 0) hB dX5_clear_1 (by decide) ?_
  refine a_put (T := TX5) (ci := 5) hB dX5_clear_2 1 fl_X5_15 lay_X5 tyX5 tyX5_ok nmX5 rfl (by decide) rfl rfl 0 rfl rfl rfl rfl (Nat.le_of_ble_eq_true rfl) ?_
  refine a_aload_n hB dX5_clear_5 rfl ?_
  refine a_iconstN (v := 0) hB dX5_clear_6 (by decide) ?_
  refine a_put (T := TX5) (ci := 5) hB dX5_clear_7 2 fl_X5_19 lay_X5 tyX5 tyX5_ok nmX5 rfl (by decide) rfl rfl 0 rfl rfl rfl rfl (Nat.le_of_ble_eq_true rfl) ?_
  refine a_aload_n hB dX5_clear_10 rfl ?_
  refine a_dconst0 hB dX5_clear_11 ?_
  refine a_put (T := TX5) (ci := 5) hB dX5_clear_12 3 fl_X5_22 lay_X5 tyX5 tyX5_ok nmX5 rfl (by decide) rfl rfl 0 rfl rfl rfl rfl (Nat.le_of_ble_eq_true rfl) ?_
  refine a_aload_n hB dX5_clear_15 rfl ?_
  refine a_dconst0 hB dX5_clear_16 ?_
  refine a_put (T := TX5) (ci := 5) hB dX5_clear_17 4 fl_X5_26 lay_X5 tyX5 tyX5_ok nmX5 rfl (by decide) rfl rfl 0 rfl rfl rfl rfl (Nat.le_of_ble_eq_true rfl) ?_
  refine a_aload_n hB dX5_clear_20 rfl ?_
  refine a_dconst0 hB dX5_clear_21 ?_
  refine a_put (T := TX5) (ci := 5) hB dX5_clear_22 5 fl_X5_29 lay_X5 tyX5 tyX5_ok nmX5 rfl (by decide) rfl rfl 0 rfl rfl rfl rfl (Nat.le_of_ble_eq_true rfl) ?_
  refine a_aload_n hB dX5_clear_25 rfl ?_
  refine a_dconst0 hB dX5_clear_26 ?_
  refine a_put (T := TX5) (ci := 5) hB dX5_clear_27 6 fl_X5_32 lay_X5 tyX5 tyX5_ok nmX5 rfl (by decide) rfl rfl 0 rfl rfl rfl rfl (Nat.le_of_ble_eq_true rfl) ?_
  exact a_vret hB hE rfl dX5_clear_30 (Nat.le_of_ble_eq_true rfl) (Nat.le_of_ble_eq_true rfl) (AKeep.of rfl) ⟨rfl, rfl⟩
set_option maxHeartbeats 4000000 in
set_option maxRecDepth 100000 in
theorem c_X5_setLatestLoad {G : GP} {q r p l : Nat} {S : SV} (hp : p < 6) : AMd G sX5_setLatestLoad [.ref q, .int (nI p), .int (nI l)] (wS G q r S) none (wS G q r (S.setL p l)) := by
  refine AM.of (σ := sX5_setLatestLoad) (by decide +kernel) (by decide +kernel) (Nat.le_of_ble_eq_true rfl) (fun B hB hR hE0 hN => ?_)
  have hE := BE.of hE0
  refine a_iload_n hB dX5_setLatestLoad_0 rfl ?_
  refine a_if_ltN_f (tgt := 20) hB dX5_setLatestLoad_1 (by decide) (by omega) ?_
  refine a_iload_n hB dX5_setLatestLoad_4 rfl ?_
  refine a_aload_n hB dX5_setLatestLoad_5 rfl ?_
  refine a_get (T := TX5) (ci := 5) hB dX5_setLatestLoad_6 0 fl_X5_9 lay_X5 rfl (by decide) rfl 0 rfl rfl ?_
  refine a_alen (v := nI 6) hB dX5_setLatestLoad_9 1 1 rfl rfl rfl ?_
  refine a_icmp_geN_f (tgt := 20) hB dX5_setLatestLoad_10 (by decide) (by omega) (by omega) (by omega) ?_
  refine a_aload_n hB dX5_setLatestLoad_13 rfl ?_
  refine a_get (T := TX5) (ci := 5) hB dX5_setLatestLoad_14 0 fl_X5_9 lay_X5 rfl (by decide) rfl 0 rfl rfl ?_
  refine a_iload_n hB dX5_setLatestLoad_17 rfl ?_
  refine a_iload_n hB dX5_setLatestLoad_18 rfl ?_
  refine a_iastoreN hB dX5_setLatestLoad_19 1 rfl (by omega) (by decide) ?_
  exact a_vret hB hE rfl dX5_setLatestLoad_20 (Nat.le_of_ble_eq_true rfl) (Nat.le_of_ble_eq_true rfl) (AKeep.of rfl) ⟨rfl, rfl⟩
set_option maxHeartbeats 4000000 in
set_option maxRecDepth 100000 in
theorem c_X5_latestLoadOf {G : GP} {q r p : Nat} {S : SV} (hp : p < 6) (hn : S.num < 2 ^ 31) : AMd G sX5_latestLoadOf [.ref q, .int (nI p)] (wS G q r S) (some (.int (S.latest p))) (wS G q r S) := by
  refine AM.of (σ := sX5_latestLoadOf) (by decide +kernel) (by decide +kernel) (Nat.le_of_ble_eq_true rfl) (fun B hB hR hE0 hN => ?_)
  have hE := BE.of hE0
  refine a_aload_n hB dX5_latestLoadOf_0 rfl ?_
  refine a_get (T := TX5) (ci := 5) hB dX5_latestLoadOf_1 1 fl_X5_15 lay_X5 rfl (by decide) rfl 0 rfl rfl ?_
  refine a_if_leN (tgt := 24) hB dX5_latestLoadOf_4 (by decide) hn (fun c4 => ?_) (fun c4 => ?_)
  · refine a_iconstN (v := 0) hB dX5_latestLoadOf_24 (by decide) ?_
    refine a_istore_n hB dX5_latestLoadOf_25 (by decide) ?_
    refine a_iload_n hB dX5_latestLoadOf_26 rfl ?_
    refine a_if_eqN_t (tgt := 39) hB dX5_latestLoadOf_27 (by decide) (by omega) (by omega) ?_
    refine a_iconst (v := -1) hB dX5_latestLoadOf_39 (by decide) ?_
    exact a_iret hB hE rfl dX5_latestLoadOf_40 (Nat.le_of_ble_eq_true rfl) (Nat.le_of_ble_eq_true rfl) (AKeep.of rfl) ⟨by unfold SV.latest; first | rw [if_pos (by omega)] | rw [if_neg (by omega)], rfl⟩
  · refine a_iload_n hB dX5_latestLoadOf_7 rfl ?_
    refine a_if_ltN_f (tgt := 24) hB dX5_latestLoadOf_8 (by decide) (by omega) ?_
    refine a_iload_n hB dX5_latestLoadOf_11 rfl ?_
    refine a_aload_n hB dX5_latestLoadOf_12 rfl ?_
    refine a_get (T := TX5) (ci := 5) hB dX5_latestLoadOf_13 0 fl_X5_9 lay_X5 rfl (by decide) rfl 0 rfl rfl ?_
    refine a_alen (v := nI 6) hB dX5_latestLoadOf_16 1 1 rfl rfl rfl ?_
    refine a_icmp_geN_f (tgt := 24) hB dX5_latestLoadOf_17 (by decide) (by omega) (by omega) (by omega) ?_
    refine a_iconstN (v := 1) hB dX5_latestLoadOf_20 (by decide) ?_
    refine a_goto (tgt := 25) hB dX5_latestLoadOf_21 (by decide) ?_
    refine a_istore_n hB dX5_latestLoadOf_25 (by decide) ?_
    refine a_iload_n hB dX5_latestLoadOf_26 rfl ?_
    refine a_if_eqN_f (tgt := 39) hB dX5_latestLoadOf_27 (by decide) (by omega) (by omega) ?_
    refine a_aload_n hB dX5_latestLoadOf_30 rfl ?_
    refine a_get (T := TX5) (ci := 5) hB dX5_latestLoadOf_31 0 fl_X5_9 lay_X5 rfl (by decide) rfl 0 rfl rfl ?_
    refine a_iload_n hB dX5_latestLoadOf_34 rfl ?_
    refine a_ialoadN hB dX5_latestLoadOf_35 1 rfl (by omega) (by decide) ?_
    refine a_goto (tgt := 40) hB dX5_latestLoadOf_36 (by decide) ?_
    exact a_iret hB hE rfl dX5_latestLoadOf_40 (Nat.le_of_ble_eq_true rfl) (Nat.le_of_ble_eq_true rfl) (AKeep.of rfl) ⟨by unfold SV.latest; first | rw [if_pos (by omega)] | rw [if_neg (by omega)], rfl⟩
set_option maxHeartbeats 4000000 in
set_option maxRecDepth 100000 in
theorem c_X5_add {G : GP} {q r b : Nat} {S : SV} {x : UInt64} (hb : b < 2 ^ 31) (h1 : ¬ b = 0 → vf_n64 (FP.dadd S.fs x)) (h2 : vf_n64 (FP.dadd S.sm x)) (h3 : vf_n64 (FP.dmul x x)) (h4 : vf_n64 (FP.dadd S.sq (FP.dmul x x))) : AMd G sX5_add [.ref q, .double x, .int (nI b)] (wS G q r S) none (wS G q r (S.add x b)) := by
  refine AM.of (σ := sX5_add) (by decide +kernel) (by decide +kernel) (Nat.le_of_ble_eq_true rfl) (fun B hB hR hE0 hN => ?_)
  have hE := BE.of hE0
  refine a_aload_n hB dX5_add_0 rfl ?_
  refine a_dup hB dX5_add_1 rfl ?_
  refine a_get (T := TX5) (ci := 5) hB dX5_add_2 1 fl_X5_15 lay_X5 rfl (by decide) rfl 0 rfl rfl ?_
  refine a_iconstN (v := 1) hB dX5_add_5 (by decide) ?_
  refine a_iaddN hB dX5_add_6 ?_
  refine a_put (T := TX5) (ci := 5) hB dX5_add_7 1 fl_X5_15 lay_X5 tyX5 tyX5_ok nmX5 rfl (by decide) rfl rfl 0 rfl rfl rfl rfl (Nat.le_of_ble_eq_true rfl) ?_
  refine a_iload_n hB dX5_add_10 rfl ?_
  refine a_if_eqN (tgt := 34) hB dX5_add_11 (by decide) hb (fun c11 => ?_) (fun c11 => ?_)
  · refine a_aload_n hB dX5_add_34 rfl ?_
    refine a_dup hB dX5_add_35 rfl ?_
    refine a_get (T := TX5) (ci := 5) hB dX5_add_36 4 fl_X5_26 lay_X5 rfl (by decide) rfl 0 rfl rfl ?_
    refine a_dload_n hB dX5_add_39 rfl ?_
    refine a_dadd hB dX5_add_40 h2 ?_
    refine a_put (T := TX5) (ci := 5) hB dX5_add_41 4 fl_X5_26 lay_X5 tyX5 tyX5_ok nmX5 rfl (by decide) rfl rfl 0 rfl rfl rfl rfl (Nat.le_of_ble_eq_true rfl) ?_
    refine a_aload_n hB dX5_add_44 rfl ?_
    refine a_dup hB dX5_add_45 rfl ?_
    refine a_get (T := TX5) (ci := 5) hB dX5_add_46 5 fl_X5_29 lay_X5 rfl (by decide) rfl 0 rfl rfl ?_
    refine a_dload_n hB dX5_add_49 rfl ?_
    refine a_dload_n hB dX5_add_50 rfl ?_
    refine a_dmul hB dX5_add_51 h3 ?_
    refine a_dadd hB dX5_add_52 h4 ?_
    refine a_put (T := TX5) (ci := 5) hB dX5_add_53 5 fl_X5_29 lay_X5 tyX5 tyX5_ok nmX5 rfl (by decide) rfl rfl 0 rfl rfl rfl rfl (Nat.le_of_ble_eq_true rfl) ?_
    refine a_aload_n hB dX5_add_56 rfl ?_
    refine a_dload_n hB dX5_add_57 rfl ?_
    refine a_put (T := TX5) (ci := 5) hB dX5_add_58 6 fl_X5_32 lay_X5 tyX5 tyX5_ok nmX5 rfl (by decide) rfl rfl 0 rfl rfl rfl rfl (Nat.le_of_ble_eq_true rfl) ?_
    exact a_vret hB hE rfl dX5_add_61 (Nat.le_of_ble_eq_true rfl) (Nat.le_of_ble_eq_true rfl) (AKeep.of rfl) ⟨rfl, by first | (unfold SV.add; rw [if_pos c11, if_pos c11]; rfl) | (unfold SV.add; rw [if_neg c11, if_neg c11]; rfl)⟩
  · refine a_aload_n hB dX5_add_14 rfl ?_
    refine a_dup hB dX5_add_15 rfl ?_
    refine a_get (T := TX5) (ci := 5) hB dX5_add_16 2 fl_X5_19 lay_X5 rfl (by decide) rfl 0 rfl rfl ?_
    refine a_iconstN (v := 1) hB dX5_add_19 (by decide) ?_
    refine a_iaddN hB dX5_add_20 ?_
    refine a_put (T := TX5) (ci := 5) hB dX5_add_21 2 fl_X5_19 lay_X5 tyX5 tyX5_ok nmX5 rfl (by decide) rfl rfl 0 rfl rfl rfl rfl (Nat.le_of_ble_eq_true rfl) ?_
    refine a_aload_n hB dX5_add_24 rfl ?_
    refine a_dup hB dX5_add_25 rfl ?_
    refine a_get (T := TX5) (ci := 5) hB dX5_add_26 3 fl_X5_22 lay_X5 rfl (by decide) rfl 0 rfl rfl ?_
    refine a_dload_n hB dX5_add_29 rfl ?_
    refine a_dadd hB dX5_add_30 (h1 c11) ?_
    refine a_put (T := TX5) (ci := 5) hB dX5_add_31 3 fl_X5_22 lay_X5 tyX5 tyX5_ok nmX5 rfl (by decide) rfl rfl 0 rfl rfl rfl rfl (Nat.le_of_ble_eq_true rfl) ?_
    refine a_aload_n hB dX5_add_34 rfl ?_
    refine a_dup hB dX5_add_35 rfl ?_
    refine a_get (T := TX5) (ci := 5) hB dX5_add_36 4 fl_X5_26 lay_X5 rfl (by decide) rfl 0 rfl rfl ?_
    refine a_dload_n hB dX5_add_39 rfl ?_
    refine a_dadd hB dX5_add_40 h2 ?_
    refine a_put (T := TX5) (ci := 5) hB dX5_add_41 4 fl_X5_26 lay_X5 tyX5 tyX5_ok nmX5 rfl (by decide) rfl rfl 0 rfl rfl rfl rfl (Nat.le_of_ble_eq_true rfl) ?_
    refine a_aload_n hB dX5_add_44 rfl ?_
    refine a_dup hB dX5_add_45 rfl ?_
    refine a_get (T := TX5) (ci := 5) hB dX5_add_46 5 fl_X5_29 lay_X5 rfl (by decide) rfl 0 rfl rfl ?_
    refine a_dload_n hB dX5_add_49 rfl ?_
    refine a_dload_n hB dX5_add_50 rfl ?_
    refine a_dmul hB dX5_add_51 h3 ?_
    refine a_dadd hB dX5_add_52 h4 ?_
    refine a_put (T := TX5) (ci := 5) hB dX5_add_53 5 fl_X5_29 lay_X5 tyX5 tyX5_ok nmX5 rfl (by decide) rfl rfl 0 rfl rfl rfl rfl (Nat.le_of_ble_eq_true rfl) ?_
    refine a_aload_n hB dX5_add_56 rfl ?_
    refine a_dload_n hB dX5_add_57 rfl ?_
    refine a_put (T := TX5) (ci := 5) hB dX5_add_58 6 fl_X5_32 lay_X5 tyX5 tyX5_ok nmX5 rfl (by decide) rfl rfl 0 rfl rfl rfl rfl (Nat.le_of_ble_eq_true rfl) ?_
    exact a_vret hB hE rfl dX5_add_61 (Nat.le_of_ble_eq_true rfl) (Nat.le_of_ble_eq_true rfl) (AKeep.of rfl) ⟨rfl, by first | (unfold SV.add; rw [if_pos c11, if_pos c11]; rfl) | (unfold SV.add; rw [if_neg c11, if_neg c11]; rfl)⟩
set_option maxHeartbeats 4000000 in
set_option maxRecDepth 100000 in
theorem c_X5_copyFrom {G : GP} {q r q2 r2 : Nat} {S O : SV} : AMd G sX5_copyFrom [.ref q, .ref q2] (wS G q r S ++ wS G q2 r2 O) none (wS G q r (S.cpy O) ++ wS G q2 r2 O) := by
  refine AM.of (σ := sX5_copyFrom) (by decide +kernel) (by decide +kernel) (Nat.le_of_ble_eq_true rfl) (fun B hB hR hE0 hN => ?_)
  have hE := BE.of hE0
  refine a_iconstN (v := 0) hB dX5_copyFrom_0 (by decide) ?_
  refine a_istore_n hB dX5_copyFrom_1 (by decide) ?_
  have lp2 : ∀ (j2 i : Nat), i + j2 = 6 → aW G sX5_copyFrom B 2 [(0, .ref q), (1, .ref q2), (2, .int (nI i))] [] [(q, ob 5 [.ref r, .int (nI S.num), .int (nI S.flt), .double S.fs, .double S.sm, .double S.sq, .double S.lc]), (r, aN G 6 (cpN S.ll O.ll i)), (q2, ob 5 [.ref r2, .int (nI O.num), .int (nI O.flt), .double O.fs, .double O.sm, .double O.sq, .double O.lc]), (r2, aN G 6 O.ll)] 0 0 := by
    intro j2
    induction j2 with
    | zero =>
      intro i hi
      refine a_iload_n hB dX5_copyFrom_2 rfl ?_
      refine a_aload_n hB dX5_copyFrom_3 rfl ?_
      refine a_get (T := TX5) (ci := 5) hB dX5_copyFrom_4 0 fl_X5_9 lay_X5 rfl (by decide) rfl 0 rfl rfl ?_
      refine a_alen (v := nI 6) hB dX5_copyFrom_7 1 1 rfl rfl rfl ?_
      refine a_icmp_geN_t (tgt := 42) hB dX5_copyFrom_8 (by decide) (by omega) (by omega) (by omega) ?_
      refine a_aload_n hB dX5_copyFrom_42 rfl ?_
      refine a_aload_n hB dX5_copyFrom_43 rfl ?_
      refine a_get (T := TX5) (ci := 5) hB dX5_copyFrom_44 1 fl_X5_15 lay_X5 rfl (by decide) rfl 2 rfl rfl ?_
      refine a_put (T := TX5) (ci := 5) hB dX5_copyFrom_47 1 fl_X5_15 lay_X5 tyX5 tyX5_ok nmX5 rfl (by decide) rfl rfl 0 rfl rfl rfl rfl (Nat.le_of_ble_eq_true rfl) ?_
      refine a_aload_n hB dX5_copyFrom_50 rfl ?_
      refine a_aload_n hB dX5_copyFrom_51 rfl ?_
      refine a_get (T := TX5) (ci := 5) hB dX5_copyFrom_52 2 fl_X5_19 lay_X5 rfl (by decide) rfl 2 rfl rfl ?_
      refine a_put (T := TX5) (ci := 5) hB dX5_copyFrom_55 2 fl_X5_19 lay_X5 tyX5 tyX5_ok nmX5 rfl (by decide) rfl rfl 0 rfl rfl rfl rfl (Nat.le_of_ble_eq_true rfl) ?_
      refine a_aload_n hB dX5_copyFrom_58 rfl ?_
      refine a_aload_n hB dX5_copyFrom_59 rfl ?_
      refine a_get (T := TX5) (ci := 5) hB dX5_copyFrom_60 3 fl_X5_22 lay_X5 rfl (by decide) rfl 2 rfl rfl ?_
      refine a_put (T := TX5) (ci := 5) hB dX5_copyFrom_63 3 fl_X5_22 lay_X5 tyX5 tyX5_ok nmX5 rfl (by decide) rfl rfl 0 rfl rfl rfl rfl (Nat.le_of_ble_eq_true rfl) ?_
      refine a_aload_n hB dX5_copyFrom_66 rfl ?_
      refine a_aload_n hB dX5_copyFrom_67 rfl ?_
      refine a_get (T := TX5) (ci := 5) hB dX5_copyFrom_68 4 fl_X5_26 lay_X5 rfl (by decide) rfl 2 rfl rfl ?_
      refine a_put (T := TX5) (ci := 5) hB dX5_copyFrom_71 4 fl_X5_26 lay_X5 tyX5 tyX5_ok nmX5 rfl (by decide) rfl rfl 0 rfl rfl rfl rfl (Nat.le_of_ble_eq_true rfl) ?_
      refine a_aload_n hB dX5_copyFrom_74 rfl ?_
      refine a_aload_n hB dX5_copyFrom_75 rfl ?_
      refine a_get (T := TX5) (ci := 5) hB dX5_copyFrom_76 5 fl_X5_29 lay_X5 rfl (by decide) rfl 2 rfl rfl ?_
      refine a_put (T := TX5) (ci := 5) hB dX5_copyFrom_79 5 fl_X5_29 lay_X5 tyX5 tyX5_ok nmX5 rfl (by decide) rfl rfl 0 rfl rfl rfl rfl (Nat.le_of_ble_eq_true rfl) ?_
      refine a_aload_n hB dX5_copyFrom_82 rfl ?_
      refine a_aload_n hB dX5_copyFrom_83 rfl ?_
      refine a_get (T := TX5) (ci := 5) hB dX5_copyFrom_84 6 fl_X5_32 lay_X5 rfl (by decide) rfl 2 rfl rfl ?_
      refine a_put (T := TX5) (ci := 5) hB dX5_copyFrom_87 6 fl_X5_32 lay_X5 tyX5 tyX5_ok nmX5 rfl (by decide) rfl rfl 0 rfl rfl rfl rfl (Nat.le_of_ble_eq_true rfl) ?_
      exact a_vret hB hE rfl dX5_copyFrom_90 (Nat.le_of_ble_eq_true rfl) (Nat.le_of_ble_eq_true rfl) (AKeep.of rfl) ⟨rfl, by rw [show i = 6 by omega]; rfl⟩
    | succ j2 ih2 =>
      intro i hi
      refine a_iload_n hB dX5_copyFrom_2 rfl ?_
      refine a_aload_n hB dX5_copyFrom_3 rfl ?_
      refine a_get (T := TX5) (ci := 5) hB dX5_copyFrom_4 0 fl_X5_9 lay_X5 rfl (by decide) rfl 0 rfl rfl ?_
      refine a_alen (v := nI 6) hB dX5_copyFrom_7 1 1 rfl rfl rfl ?_
      refine a_icmp_geN_f (tgt := 42) hB dX5_copyFrom_8 (by decide) (by omega) (by omega) (by omega) ?_
      refine a_aload_n hB dX5_copyFrom_11 rfl ?_
      refine a_get (T := TX5) (ci := 5) hB dX5_copyFrom_12 0 fl_X5_9 lay_X5 rfl (by decide) rfl 0 rfl rfl ?_
      refine a_iload_n hB dX5_copyFrom_15 rfl ?_
      refine a_iload_n hB dX5_copyFrom_16 rfl ?_
      refine a_aload_n hB dX5_copyFrom_17 rfl ?_
      refine a_get (T := TX5) (ci := 5) hB dX5_copyFrom_18 0 fl_X5_9 lay_X5 rfl (by decide) rfl 2 rfl rfl ?_
      refine a_alen (v := nI 6) hB dX5_copyFrom_21 3 1 rfl rfl rfl ?_
      refine a_icmp_geN_f (tgt := 34) hB dX5_copyFrom_22 (by decide) (by omega) (by omega) (by omega) ?_
      refine a_aload_n hB dX5_copyFrom_25 rfl ?_
      refine a_get (T := TX5) (ci := 5) hB dX5_copyFrom_26 0 fl_X5_9 lay_X5 rfl (by decide) rfl 2 rfl rfl ?_
      refine a_iload_n hB dX5_copyFrom_29 rfl ?_
      refine a_ialoadN hB dX5_copyFrom_30 3 rfl (by omega) (by decide) ?_
      refine a_goto (tgt := 35) hB dX5_copyFrom_31 (by decide) ?_
      refine a_iastoreN hB dX5_copyFrom_35 1 rfl (by omega) (by decide) ?_
      refine a_iincN (b := 1) hB dX5_copyFrom_36 rfl (by decide) (by decide) ?_
      refine a_goto (tgt := 2) hB dX5_copyFrom_39 (by decide) ?_
      exact aW_at [0, 1, 2] rfl rfl rfl (ih2 (i + 1) (by omega))
  exact aW_at [0, 1, 2] rfl rfl rfl (lp2 (6) 0 (by omega))

