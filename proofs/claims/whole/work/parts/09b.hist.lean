set_option maxHeartbeats 4000000 in
set_option maxRecDepth 100000 in
theorem c_X6_accepts {G : GP} {s c : Nat} {S : Nat × Nat × Nat} (hc : c < 2 ^ 31) (h1 : S.2.2 ≤ 1) (h2 : S.2.1 < 2 ^ 30) : AMd G sX6_accepts [.ref s, .int (nI c)] (wY G s S) (some (.int (nI (syA S c)))) (wY G s (syS S c)) := by
  refine AM.of (σ := sX6_accepts) (by decide +kernel) (by decide +kernel) (Nat.le_of_ble_eq_true rfl) (fun B hB hR hE0 hN => ?_)
  have hE := BE.of hE0
  refine a_iload_n hB dX6_accepts_0 rfl ?_
  refine a_bipushN (v := 59) hB dX6_accepts_1 (by decide) ?_
  refine a_icmp_neN (tgt := 11) hB dX6_accepts_3 (by decide) (by omega) (by omega) (fun c3 => ?_) (fun c3 => ?_)
  · refine a_iload_n hB dX6_accepts_11 rfl ?_
    refine a_bipushN (v := 48) hB dX6_accepts_12 (by decide) ?_
    refine a_icmp_ltN (tgt := 38) hB dX6_accepts_14 (by decide) (by omega) (by omega) (fun c14 => ?_) (fun c14 => ?_)
    · refine a_iconstN (v := 0) hB dX6_accepts_38 (by decide) ?_
      exact a_zret hB hE rfl (by decide) dX6_accepts_39 (Nat.le_of_ble_eq_true rfl) (Nat.le_of_ble_eq_true rfl) (AKeep.of rfl) ⟨by first | (rw [syA, if_neg c3, if_pos (show 48 ≤ c ∧ c ≤ 57 by omega)]; first | rw [if_pos (by by_cases q : ((syD S (c - 48)).2.1 < 6 ∨ (syD S (c - 48)).2.1 = 6 ∧ ¬ (syD S (c - 48)).2.2 = 0); exact q; exact absurd (if_neg q) (by first | exact c31 | omega))] | rw [if_neg (by intro q; rw [if_pos q] at c31; first | exact c31 rfl | exact absurd c31 (by decide))]) | (rw [syA, if_neg c3, if_neg (show ¬ (48 ≤ c ∧ c ≤ 57) by omega)]), by first | (rw [syS, if_neg c3, if_pos (show 48 ≤ c ∧ c ≤ 57 by omega)]; rfl) | (rw [syS, if_neg c3, if_neg (show ¬ (48 ≤ c ∧ c ≤ 57) by omega)])⟩
    · 
      refine a_iload_n hB dX6_accepts_17 rfl ?_
      refine a_bipushN (v := 57) hB dX6_accepts_18 (by decide) ?_
      refine a_icmp_gtN (tgt := 38) hB dX6_accepts_20 (by decide) (by omega) (by omega) (fun c20 => ?_) (fun c20 => ?_)
      · refine a_iconstN (v := 0) hB dX6_accepts_38 (by decide) ?_
        exact a_zret hB hE rfl (by decide) dX6_accepts_39 (Nat.le_of_ble_eq_true rfl) (Nat.le_of_ble_eq_true rfl) (AKeep.of rfl) ⟨by first | (rw [syA, if_neg c3, if_pos (show 48 ≤ c ∧ c ≤ 57 by omega)]; first | rw [if_pos (by by_cases q : ((syD S (c - 48)).2.1 < 6 ∨ (syD S (c - 48)).2.1 = 6 ∧ ¬ (syD S (c - 48)).2.2 = 0); exact q; exact absurd (if_neg q) (by first | exact c31 | omega))] | rw [if_neg (by intro q; rw [if_pos q] at c31; first | exact c31 rfl | exact absurd c31 (by decide))]) | (rw [syA, if_neg c3, if_neg (show ¬ (48 ≤ c ∧ c ≤ 57) by omega)]), by first | (rw [syS, if_neg c3, if_pos (show 48 ≤ c ∧ c ≤ 57 by omega)]; rfl) | (rw [syS, if_neg c3, if_neg (show ¬ (48 ≤ c ∧ c ≤ 57) by omega)])⟩
      · refine a_aload_n hB dX6_accepts_23 rfl ?_
        refine a_iload_n hB dX6_accepts_24 rfl ?_
        refine a_bipushN (v := 48) hB dX6_accepts_25 (by decide) ?_
        refine a_isubN hB dX6_accepts_27 (by omega) ?_
        refine a_callVd (q0 := 0) hB (c_X6_acceptsDigit (S := S) (by omega) h1 h2) mk_X6_acceptsDigit ml_X6_39 dX6_accepts_28 rfl rfl [0] rfl (by decide) rfl rfl (fit_of hR (by decide)) (Nat.le_of_ble_eq_true rfl) rfl ?_
        refine a_if_eqN (tgt := 38) hB dX6_accepts_31 (by decide) (by split <;> omega) (fun c31 => ?_) (fun c31 => ?_)
        · refine a_iconstN (v := 0) hB dX6_accepts_38 (by decide) ?_
          exact a_zret hB hE rfl (by decide) dX6_accepts_39 (Nat.le_of_ble_eq_true rfl) (Nat.le_of_ble_eq_true rfl) (AKeep.of rfl) ⟨by first | (rw [syA, if_neg c3, if_pos (show 48 ≤ c ∧ c ≤ 57 by omega)]; first | rw [if_pos (by by_cases q : ((syD S (c - 48)).2.1 < 6 ∨ (syD S (c - 48)).2.1 = 6 ∧ ¬ (syD S (c - 48)).2.2 = 0); exact q; exact absurd (if_neg q) (by first | exact c31 | omega))] | rw [if_neg (by intro q; rw [if_pos q] at c31; first | exact c31 rfl | exact absurd c31 (by decide))]) | (rw [syA, if_neg c3, if_neg (show ¬ (48 ≤ c ∧ c ≤ 57) by omega)]), by first | (rw [syS, if_neg c3, if_pos (show 48 ≤ c ∧ c ≤ 57 by omega)]; rfl) | (rw [syS, if_neg c3, if_neg (show ¬ (48 ≤ c ∧ c ≤ 57) by omega)])⟩
        · refine a_iconstN (v := 1) hB dX6_accepts_34 (by decide) ?_
          refine a_goto (tgt := 39) hB dX6_accepts_35 (by decide) ?_
          exact a_zret hB hE rfl (by decide) dX6_accepts_39 (Nat.le_of_ble_eq_true rfl) (Nat.le_of_ble_eq_true rfl) (AKeep.of rfl) ⟨by first | (rw [syA, if_neg c3, if_pos (show 48 ≤ c ∧ c ≤ 57 by omega)]; first | rw [if_pos (by by_cases q : ((syD S (c - 48)).2.1 < 6 ∨ (syD S (c - 48)).2.1 = 6 ∧ ¬ (syD S (c - 48)).2.2 = 0); exact q; exact absurd (if_neg q) (by first | exact c31 | omega))] | rw [if_neg (by intro q; rw [if_pos q] at c31; first | exact c31 rfl | exact absurd c31 (by decide))]) | (rw [syA, if_neg c3, if_neg (show ¬ (48 ≤ c ∧ c ≤ 57) by omega)]), by first | (rw [syS, if_neg c3, if_pos (show 48 ≤ c ∧ c ≤ 57 by omega)]; rfl) | (rw [syS, if_neg c3, if_neg (show ¬ (48 ≤ c ∧ c ≤ 57) by omega)])⟩
  · refine a_aload_n hB dX6_accepts_6 rfl ?_
    refine a_callVd (q0 := 0) hB (c_X6_acceptsNextPart (S := S) h1) mk_X6_acceptsNextPart ml_X6_35 dX6_accepts_7 rfl rfl [0] rfl (by decide) rfl rfl (fit_of hR (by decide)) (Nat.le_of_ble_eq_true rfl) rfl ?_
    exact a_zret hB hE rfl (nar_bool h1) dX6_accepts_10 (Nat.le_of_ble_eq_true rfl) (Nat.le_of_ble_eq_true rfl) (AKeep.of rfl) ⟨by rw [syA, if_pos c3], by rw [syS, if_pos c3]; rfl⟩
/-- the reader's state behind i characters -/
def syN (cs : Nat → Nat) : Nat → Nat × Nat × Nat
  | 0 => (1, 0, 0)
  | i + 1 => syS (syN cs i) (cs i)
theorem syS_le {S : Nat × Nat × Nat} {c : Nat} (h : S.2.2 ≤ 1) : (syS S c).2.2 ≤ 1 := by
  unfold syS
  split
  · exact Nat.zero_le _
  · split
    · show (if S.2.2 = 0 ∧ c - 48 = 0 then 0 else 1) ≤ 1
      split <;> omega
    · exact h
theorem syN_le (cs : Nat → Nat) : ∀ i, (syN cs i).2.2 ≤ 1
  | 0 => Nat.zero_le _
  | i + 1 => syS_le (syN_le cs i)
theorem syS_dg {S : Nat × Nat × Nat} {c : Nat} : (syS S c).2.1 ≤ S.2.1 + 1 := by
  unfold syS
  split
  · exact Nat.zero_le _
  · split
    · exact Nat.le_refl _
    · exact Nat.le_succ _
theorem syN_dg (cs : Nat → Nat) : ∀ i, (syN cs i).2.1 ≤ i
  | 0 => Nat.le_refl _
  | i + 1 => Nat.le_trans syS_dg (Nat.succ_le_succ (syN_dg cs i))
theorem syA_le {S : Nat × Nat × Nat} {c : Nat} (h : S.2.2 ≤ 1) : syA S c ≤ 1 := by
  unfold syA
  split
  · exact h
  · split
    · split <;> omega
    · exact Nat.zero_le _
set_option maxHeartbeats 4000000 in
set_option maxRecDepth 100000 in
theorem c_X6_read {G : GP} {s b c len r : Nat} {cs : Nat → Nat} (hl : len ≤ 60) (hcs : ∀ i, i < len → cs i < 2 ^ 31) (hr : r ≤ len) (h0 : ∀ i, i < r → ¬ syA (syN cs i) (cs i) = 0) (hz : r < len → syA (syN cs r) (cs r) = 0) : AMd G sX6_read [.ref s, .ref b] (wY G s (1, 0, 0) ++ wX G b c len cs) (some (.int (nI r))) ((if r < len then wY G s (syN cs (r + 1)) else wY G s (syN cs r)) ++ wX G b c len cs) := by
  refine AM.of (σ := sX6_read) (by decide +kernel) (by decide +kernel) (Nat.le_of_ble_eq_true rfl) (fun B hB hR hE0 hN => ?_)
  have hE := BE.of hE0
  refine a_iconstN (v := 0) hB dX6_read_0 (by decide) ?_
  refine a_istore_n hB dX6_read_1 (by decide) ?_
  have lp2 : ∀ (j2 i : Nat), i + j2 = r → aW G sX6_read B 2 [(0, .ref s), (1, .ref b), (2, .int (nI i))] [] (wY G s (syN cs i) ++ wX G b c len cs) 0 0 := by
    intro j2
    induction j2 with
    | zero =>
      intro i hi
      have g1 := syN_le cs i
      have g2 := syN_dg cs i
      have g3 := syA_le (c := cs i) g1
      refine a_iload_n hB dX6_read_2 rfl ?_
      refine a_aload_n hB dX6_read_3 rfl ?_
      refine a_get (T := TX8) (ci := 8) hB dX6_read_4 1 fl_X6_22 lay_X8 rfl (by decide) rfl 1 rfl rfl ?_
      refine a_icmp_geN (tgt := 30) hB dX6_read_7 (by decide) (by omega) (by omega) (fun c7 => ?_) (fun c7 => ?_)
      · refine a_aload_n hB dX6_read_30 rfl ?_
        refine a_get (T := TX8) (ci := 8) hB dX6_read_31 1 fl_X6_22 lay_X8 rfl (by decide) rfl 1 rfl rfl ?_
        exact a_iret hB hE rfl dX6_read_34 (Nat.le_of_ble_eq_true rfl) (Nat.le_of_ble_eq_true rfl) (AKeep.of rfl) ⟨by rw [show r = len by omega], by rw [if_neg (by omega), show i = r by omega]⟩
      · refine a_aload_n hB dX6_read_10 rfl ?_
        refine a_aload_n hB dX6_read_11 rfl ?_
        refine a_iload_n hB dX6_read_12 rfl ?_
        refine a_callVr (q0 := 1) hB (c_X8_codeAt (by omega) (by omega)) mk_X8_codeAt ml_X6_27 dX6_read_13 rfl rfl [1, 2] rfl (by decide) rfl rfl (fit_of hR (by decide)) (Nat.le_of_ble_eq_true rfl) ?_
        refine a_callVd (w2 := wY G s (syN cs (i + 1)) ++ wX G b c len cs) (q0 := 0) hB (c_X6_accepts (S := syN cs i) (hcs i (by omega)) g1 (by omega)) mk_X6_accepts ml_X6_31 dX6_read_16 rfl rfl [0] rfl (by decide) rfl rfl (fit_of hR (by decide)) (Nat.le_of_ble_eq_true rfl) rfl ?_
        refine a_if_neN_f (tgt := 24) hB dX6_read_19 (by decide) (by omega) (by have z := hz (by omega); rw [← show i = r by omega] at z; exact z) ?_
        refine a_iload_n hB dX6_read_22 rfl ?_
        exact a_iret hB hE rfl dX6_read_23 (Nat.le_of_ble_eq_true rfl) (Nat.le_of_ble_eq_true rfl) (AKeep.of rfl) ⟨by rw [show i = r by omega], by rw [if_pos (by omega), show i = r by omega]⟩
    | succ j2 ih2 =>
      intro i hi
      have g1 := syN_le cs i
      have g2 := syN_dg cs i
      have g3 := syA_le (c := cs i) g1
      refine a_iload_n hB dX6_read_2 rfl ?_
      refine a_aload_n hB dX6_read_3 rfl ?_
      refine a_get (T := TX8) (ci := 8) hB dX6_read_4 1 fl_X6_22 lay_X8 rfl (by decide) rfl 1 rfl rfl ?_
      refine a_icmp_geN_f (tgt := 30) hB dX6_read_7 (by decide) (by omega) (by omega) (by omega) ?_
      refine a_aload_n hB dX6_read_10 rfl ?_
      refine a_aload_n hB dX6_read_11 rfl ?_
      refine a_iload_n hB dX6_read_12 rfl ?_
      refine a_callVr (q0 := 1) hB (c_X8_codeAt (by omega) (by omega)) mk_X8_codeAt ml_X6_27 dX6_read_13 rfl rfl [1, 2] rfl (by decide) rfl rfl (fit_of hR (by decide)) (Nat.le_of_ble_eq_true rfl) ?_
      refine a_callVd (w2 := wY G s (syN cs (i + 1)) ++ wX G b c len cs) (q0 := 0) hB (c_X6_accepts (S := syN cs i) (hcs i (by omega)) g1 (by omega)) mk_X6_accepts ml_X6_31 dX6_read_16 rfl rfl [0] rfl (by decide) rfl rfl (fit_of hR (by decide)) (Nat.le_of_ble_eq_true rfl) rfl ?_
      refine a_if_neN_t (tgt := 24) hB dX6_read_19 (by decide) (by omega) (h0 i (by omega)) ?_
      refine a_iincN (b := 1) hB dX6_read_24 rfl (by decide) (by decide) ?_
      refine a_goto (tgt := 2) hB dX6_read_27 (by decide) ?_
      exact aW_at [0, 1, 2] rfl rfl rfl (ih2 (i + 1) (by omega))
  exact aW_at [0, 1, 2] rfl rfl rfl (lp2 (r) 0 (by omega))
abbrev wH (G : GP) (h a : Nat) (pl : Nat → Option Nat) (nx num : Nat) : va_W := [(h, ob 2 [.ref a, .int (nI nx), .int (nI num)]), (a, aP G 6 pl)]
set_option maxHeartbeats 4000000 in
set_option maxRecDepth 100000 in
theorem c_X2_init {G : GP} {h : Nat} : AM G sX2_init 1 6 [.ref h] [(h, ob 2 [.null, .int 0, .int 0])] (fun v w => v = none ∧ ∃ a, w = wH G h a (fun _ => none) 0 0) := by
  refine AM.of (σ := sX2_init) (by decide +kernel) (by decide +kernel) (Nat.le_of_ble_eq_true rfl) (fun B hB hR hE0 hN => ?_)
  have hE := BE.of hE0
  have hN : B.meth.name = "<init>" := hN
  refine a_aload_n hB dX2_init_0 rfl ?_
  refine a_objInit hB ml_X2_3 dX2_init_1 (roomF hR (Nat.le_of_ble_eq_true rfl)) (room12 hR (Nat.le_of_ble_eq_true rfl)) ?_
  refine a_aload_n hB dX2_init_4 rfl ?_
  refine a_bipushN (v := 6) hB dX2_init_5 (by decide) ?_
  refine a_newP (N := 6) hB dX2_init_7 cl_X2_9 (nI_pos (by decide)) (nI_clamp (by decide)) (by decide) (roomc hR (Nat.le_of_ble_eq_true rfl)) (rooms hR (Nat.le_of_ble_eq_true rfl)) (fun q1 => ?_)
  refine a_putF (T := TX2) (ci := 2) hB hN dX2_init_10 0 fl_X2_11 lay_X2 tyX2 tyX2_ok nmX2 rfl (by decide) rfl rfl rfl 0 rfl rfl rfl rfl (Nat.le_of_ble_eq_true rfl) ?_
  refine a_aload_n hB dX2_init_13 rfl ?_
  refine a_iconstN (v := 0) hB dX2_init_14 (by decide) ?_
  refine a_put (T := TX2) (ci := 2) hB dX2_init_15 1 fl_X2_17 lay_X2 tyX2 tyX2_ok nmX2 rfl (by decide) rfl rfl 0 rfl rfl rfl rfl (Nat.le_of_ble_eq_true rfl) ?_
  refine a_aload_n hB dX2_init_18 rfl ?_
  refine a_iconstN (v := 0) hB dX2_init_19 (by decide) ?_
  refine a_put (T := TX2) (ci := 2) hB dX2_init_20 2 fl_X2_21 lay_X2 tyX2 tyX2_ok nmX2 rfl (by decide) rfl rfl 0 rfl rfl rfl rfl (Nat.le_of_ble_eq_true rfl) ?_
  exact a_vret hB hE rfl dX2_init_23 (Nat.le_of_ble_eq_true rfl) (Nat.le_of_ble_eq_true rfl) (AKeep.of rfl) ⟨rfl, q1, rfl⟩
set_option maxHeartbeats 4000000 in
set_option maxRecDepth 100000 in
theorem c_X4_copyFrom2 {G : GP} {pa qa : Nat → Nat} {P O : PV} : AMd G sX4_copyFrom [.ref (qa 0), .ref (pa 0)] (wP G pa P ++ wP G qa O) none (wP G pa P ++ wP G qa (O.cpy P)) := by
  refine AM.of (σ := sX4_copyFrom) (by decide +kernel) (by decide +kernel) (Nat.le_of_ble_eq_true rfl) (fun B hB hR hE0 hN => ?_)
  have hE := BE.of hE0
  refine a_aload_n hB dX4_copyFrom_0 rfl ?_
  refine a_get (T := TX4) (ci := 4) hB dX4_copyFrom_1 0 fl_X4_12 lay_X4 rfl (by decide) rfl 7 rfl rfl ?_
  refine a_aload_n hB dX4_copyFrom_4 rfl ?_
  refine a_get (T := TX4) (ci := 4) hB dX4_copyFrom_5 0 fl_X4_12 lay_X4 rfl (by decide) rfl 0 rfl rfl ?_
  refine a_callVd (w2 := wP G pa P ++ wP G qa (mkP (cpN O.wt P.wt 36) O.tl O.sv O.parts O.limit O.seed)) (q0 := 8) hB (c_X7_copyFrom (w := O.wt) (o := P.wt)) mk_X7_copyFrom ml_X4_90 dX4_copyFrom_8 rfl rfl [8, 9, 1, 2] rfl (by decide) rfl rfl (fit_of hR (by decide)) (Nat.le_of_ble_eq_true rfl) rfl ?_
  refine a_aload_n hB dX4_copyFrom_11 rfl ?_
  refine a_get (T := TX4) (ci := 4) hB dX4_copyFrom_12 1 fl_X4_18 lay_X4 rfl (by decide) rfl 7 rfl rfl ?_
  refine a_aload_n hB dX4_copyFrom_15 rfl ?_
  refine a_get (T := TX4) (ci := 4) hB dX4_copyFrom_16 1 fl_X4_18 lay_X4 rfl (by decide) rfl 0 rfl rfl ?_
  refine a_callVd (w2 := wP G pa P ++ wP G qa (mkP (cpN O.wt P.wt 36) (cpN O.tl P.tl 36) O.sv O.parts O.limit O.seed)) (q0 := 10) hB (c_X7_copyFrom (w := O.tl) (o := P.tl)) mk_X7_copyFrom ml_X4_90 dX4_copyFrom_19 rfl rfl [10, 11, 3, 4] rfl (by decide) rfl rfl (fit_of hR (by decide)) (Nat.le_of_ble_eq_true rfl) rfl ?_
  refine a_aload_n hB dX4_copyFrom_22 rfl ?_
  refine a_get (T := TX4) (ci := 4) hB dX4_copyFrom_23 2 fl_X4_24 lay_X4 rfl (by decide) rfl 7 rfl rfl ?_
  refine a_aload_n hB dX4_copyFrom_26 rfl ?_
  refine a_get (T := TX4) (ci := 4) hB dX4_copyFrom_27 2 fl_X4_24 lay_X4 rfl (by decide) rfl 0 rfl rfl ?_
  refine a_callVd (w2 := wP G pa P ++ wP G qa (mkP (cpN O.wt P.wt 36) (cpN O.tl P.tl 36) (O.sv.cpy P.sv) O.parts O.limit O.seed)) (q0 := 12) hB (c_X5_copyFrom (S := O.sv) (O := P.sv)) mk_X5_copyFrom ml_X4_94 dX4_copyFrom_30 rfl rfl [12, 13, 5, 6] rfl (by decide) rfl rfl (fit_of hR (by decide)) (Nat.le_of_ble_eq_true rfl) rfl ?_
  refine a_aload_n hB dX4_copyFrom_33 rfl ?_
  refine a_aload_n hB dX4_copyFrom_34 rfl ?_
  refine a_get (T := TX4) (ci := 4) hB dX4_copyFrom_35 3 fl_X4_28 lay_X4 rfl (by decide) rfl 0 rfl rfl ?_
  refine a_put (T := TX4) (ci := 4) hB dX4_copyFrom_38 3 fl_X4_28 lay_X4 tyX4 tyX4_ok nmX4 rfl (by decide) rfl rfl 7 rfl rfl rfl rfl (Nat.le_of_ble_eq_true rfl) ?_
  refine a_aload_n hB dX4_copyFrom_41 rfl ?_
  refine a_aload_n hB dX4_copyFrom_42 rfl ?_
  refine a_get (T := TX4) (ci := 4) hB dX4_copyFrom_43 4 fl_X4_32 lay_X4 rfl (by decide) rfl 0 rfl rfl ?_
  refine a_put (T := TX4) (ci := 4) hB dX4_copyFrom_46 4 fl_X4_32 lay_X4 tyX4 tyX4_ok nmX4 rfl (by decide) rfl rfl 7 rfl rfl rfl rfl (Nat.le_of_ble_eq_true rfl) ?_
  refine a_aload_n hB dX4_copyFrom_49 rfl ?_
  refine a_aload_n hB dX4_copyFrom_50 rfl ?_
  refine a_get (T := TX4) (ci := 4) hB dX4_copyFrom_51 5 fl_X4_35 lay_X4 rfl (by decide) rfl 0 rfl rfl ?_
  refine a_put (T := TX4) (ci := 4) hB dX4_copyFrom_54 5 fl_X4_35 lay_X4 tyX4 tyX4_ok nmX4 rfl (by decide) rfl rfl 7 rfl rfl rfl rfl (Nat.le_of_ble_eq_true rfl) ?_
  exact a_vret hB hE rfl dX4_copyFrom_57 (Nat.le_of_ble_eq_true rfl) (Nat.le_of_ble_eq_true rfl) (AKeep.of rfl) ⟨rfl, rfl⟩
set_option maxHeartbeats 4000000 in
set_option maxRecDepth 100000 in
theorem c_X2_save_new {G : GP} {h a nx num : Nat} {pl : Nat → Option Nat} {pa : Nat → Nat} {P : PV} (hx : nx < 6) (hn : num ≤ 6) (hpl : pl nx = none) : AM G sX2_save 7 93 [.ref h, .ref (pa 0)] (wH G h a pl nx num ++ wP G pa P) (fun v w => v = none ∧ ∃ qa : Nat → Nat, w = (wH G h a (va_up pl nx (some (qa 0))) ((nx + 1) % 6) (min (num + 1) 6) ++ wP G pa P ++ wP G qa (PV0.cpy P))) := by
  refine AM.of (σ := sX2_save) (by decide +kernel) (by decide +kernel) (Nat.le_of_ble_eq_true rfl) (fun B hB hR hE0 hN => ?_)
  have hE := BE.of hE0
  refine a_aload_n hB dX2_save_0 rfl ?_
  refine a_get (T := TX2) (ci := 2) hB dX2_save_1 1 fl_X2_17 lay_X2 rfl (by decide) rfl 0 rfl rfl ?_
  refine a_if_ltN_f (tgt := 19) hB dX2_save_4 (by decide) (by omega) ?_
  refine a_aload_n hB dX2_save_7 rfl ?_
  refine a_get (T := TX2) (ci := 2) hB dX2_save_8 1 fl_X2_17 lay_X2 rfl (by decide) rfl 0 rfl rfl ?_
  refine a_aload_n hB dX2_save_11 rfl ?_
  refine a_get (T := TX2) (ci := 2) hB dX2_save_12 0 fl_X2_11 lay_X2 rfl (by decide) rfl 0 rfl rfl ?_
  refine a_alen (v := nI 6) hB dX2_save_15 1 3 rfl rfl rfl ?_
  refine a_icmp_ltN_t (tgt := 20) hB dX2_save_16 (by decide) (by omega) (by omega) (by omega) ?_
  refine a_aload_n hB dX2_save_20 rfl ?_
  refine a_get (T := TX2) (ci := 2) hB dX2_save_21 0 fl_X2_11 lay_X2 rfl (by decide) rfl 0 rfl rfl ?_
  refine a_aload_n hB dX2_save_24 rfl ?_
  refine a_get (T := TX2) (ci := 2) hB dX2_save_25 1 fl_X2_17 lay_X2 rfl (by decide) rfl 0 rfl rfl ?_
  refine a_aaloadS hB dX2_save_28 1 rfl (by omega) (by decide) hpl ?_
  refine a_astore_nN hB dX2_save_29 (by decide) ?_
  refine a_aload_nN hB dX2_save_30 rfl ?_
  refine a_ifnonnullN hB dX2_save_31 ?_
  refine a_new (T := TX4) (ci := 4) (fs := [.null, .null, .null, .int 0, .int 0, .int 0]) hB dX2_save_34 cl_X2_9 lay_X4 tyX4 tyX4_ok is_X4 in_X4 rfl (fun j hj => by rcases (show j = 0 ∨ j = 1 ∨ j = 2 ∨ j = 3 ∨ j = 4 ∨ j = 5 by omega) with rfl | rfl | rfl | rfl | rfl | rfl <;> rfl) (roomc hR (Nat.le_of_ble_eq_true rfl)) (rooms hR (Nat.le_of_ble_eq_true rfl)) (fun q9 => ?_)
  refine a_dup hB dX2_save_37 rfl ?_
  refine a_callIN hB (c_X4_init) rfl mk_X4_init (by decide +kernel) dX2_save_38 rfl rfl [9] rfl (by decide) (fit_of hR (by decide)) (Nat.le_of_ble_eq_true rfl) (fun v38 w38 hq38 hk38 => ?_)
  obtain ⟨rfl, qa, hqa, rfl⟩ := hq38
  rw [← hqa]
  refine aW_w (ws' := wH G h a pl nx num ++ wP G pa P ++ wP G qa PV0) rfl ?_
  refine a_astore_n hB dX2_save_41 (by decide) ?_
  refine a_aload_n hB dX2_save_42 rfl ?_
  refine a_get (T := TX2) (ci := 2) hB dX2_save_43 0 fl_X2_11 lay_X2 rfl (by decide) rfl 0 rfl rfl ?_
  refine a_aload_n hB dX2_save_46 rfl ?_
  refine a_get (T := TX2) (ci := 2) hB dX2_save_47 1 fl_X2_17 lay_X2 rfl (by decide) rfl 0 rfl rfl ?_
  refine a_aload_n hB dX2_save_50 rfl ?_
  refine a_aastoreN hB dX2_save_51 1 9 rfl rfl (by omega) (by decide) ?_
  refine a_aload_n hB dX2_save_52 rfl ?_
  refine a_aload_n hB dX2_save_53 rfl ?_
  refine a_callVd (w2 := wH G h a (va_up pl nx (some (qa 0))) nx num ++ wP G pa P ++ wP G qa (PV0.cpy P)) (q0 := 9) hB (c_X4_copyFrom2 (pa := pa) (qa := qa) (P := P) (O := PV0)) mk_X4_copyFrom ml_X2_25 dX2_save_54 rfl rfl [2, 3, 4, 5, 6, 7, 8, 9, 10, 11, 12, 13, 14, 15] rfl (by decide) rfl rfl (fit_of hR (by decide)) (Nat.le_of_ble_eq_true rfl) (wput_seg (w1 := wH G h a (va_up pl nx (some (qa 0))) nx num) (wc := wP G pa P ++ wP G qa PV0) (w3 := []) rfl rfl rfl rfl) ?_
  refine a_aload_n hB dX2_save_57 rfl ?_
  refine a_aload_n hB dX2_save_58 rfl ?_
  refine a_get (T := TX2) (ci := 2) hB dX2_save_59 1 fl_X2_17 lay_X2 rfl (by decide) rfl 0 rfl rfl ?_
  refine a_iconstN (v := 1) hB dX2_save_62 (by decide) ?_
  refine a_iaddN hB dX2_save_63 ?_
  refine a_bipushN (v := 6) hB dX2_save_64 (by decide) ?_
  refine a_iremN hB dX2_save_66 (by omega) (by omega) (by omega) ?_
  refine a_put (T := TX2) (ci := 2) hB dX2_save_67 1 fl_X2_17 lay_X2 tyX2 tyX2_ok nmX2 rfl (by decide) rfl rfl 0 rfl rfl rfl rfl (Nat.le_of_ble_eq_true rfl) ?_
  refine a_aload_n hB dX2_save_70 rfl ?_
  refine a_aload_n hB dX2_save_71 rfl ?_
  refine a_get (T := TX2) (ci := 2) hB dX2_save_72 2 fl_X2_21 lay_X2 rfl (by decide) rfl 0 rfl rfl ?_
  refine a_iconstN (v := 1) hB dX2_save_75 (by decide) ?_
  refine a_iaddN hB dX2_save_76 ?_
  refine a_bipushN (v := 6) hB dX2_save_77 (by decide) ?_
  refine a_minN hB ml_X2_29 dX2_save_79 (by omega) (by omega) (roomF hR (Nat.le_of_ble_eq_true rfl)) (room13 hR (Nat.le_of_ble_eq_true rfl)) (roomc hR (Nat.le_of_ble_eq_true rfl)) (rooms hR (Nat.le_of_ble_eq_true rfl)) ?_
  refine a_put (T := TX2) (ci := 2) hB dX2_save_82 2 fl_X2_21 lay_X2 tyX2 tyX2_ok nmX2 rfl (by decide) rfl rfl 0 rfl rfl rfl rfl (Nat.le_of_ble_eq_true rfl) ?_
  exact a_vret hB hE rfl dX2_save_85 (Nat.le_of_ble_eq_true rfl) (Nat.le_of_ble_eq_true rfl) (AKeep.of rfl) ⟨rfl, qa, rfl⟩
set_option maxHeartbeats 4000000 in
set_option maxRecDepth 100000 in
theorem c_X2_save_old {G : GP} {h a nx num : Nat} {pl : Nat → Option Nat} {pa qa : Nat → Nat} {P O : PV} (hx : nx < 6) (hn : num ≤ 6) (hpl : pl nx = some (qa 0)) : AMd G sX2_save [.ref h, .ref (pa 0)] (wH G h a pl nx num ++ wP G pa P ++ wP G qa O) none (wH G h a pl ((nx + 1) % 6) (min (num + 1) 6) ++ wP G pa P ++ wP G qa (O.cpy P)) := by
  refine AM.of (σ := sX2_save) (by decide +kernel) (by decide +kernel) (Nat.le_of_ble_eq_true rfl) (fun B hB hR hE0 hN => ?_)
  have hE := BE.of hE0
  refine a_aload_n hB dX2_save_0 rfl ?_
  refine a_get (T := TX2) (ci := 2) hB dX2_save_1 1 fl_X2_17 lay_X2 rfl (by decide) rfl 0 rfl rfl ?_
  refine a_if_ltN_f (tgt := 19) hB dX2_save_4 (by decide) (by omega) ?_
  refine a_aload_n hB dX2_save_7 rfl ?_
  refine a_get (T := TX2) (ci := 2) hB dX2_save_8 1 fl_X2_17 lay_X2 rfl (by decide) rfl 0 rfl rfl ?_
  refine a_aload_n hB dX2_save_11 rfl ?_
  refine a_get (T := TX2) (ci := 2) hB dX2_save_12 0 fl_X2_11 lay_X2 rfl (by decide) rfl 0 rfl rfl ?_
  refine a_alen (v := nI 6) hB dX2_save_15 1 3 rfl rfl rfl ?_
  refine a_icmp_ltN_t (tgt := 20) hB dX2_save_16 (by decide) (by omega) (by omega) (by omega) ?_
  refine a_aload_n hB dX2_save_20 rfl ?_
  refine a_get (T := TX2) (ci := 2) hB dX2_save_21 0 fl_X2_11 lay_X2 rfl (by decide) rfl 0 rfl rfl ?_
  refine a_aload_n hB dX2_save_24 rfl ?_
  refine a_get (T := TX2) (ci := 2) hB dX2_save_25 1 fl_X2_17 lay_X2 rfl (by decide) rfl 0 rfl rfl ?_
  refine a_aaloadS hB dX2_save_28 1 rfl (by omega) (by decide) hpl ?_
  refine a_astore_n hB dX2_save_29 (by decide) ?_
  refine a_aload_n hB dX2_save_30 rfl ?_
  refine a_ifnonnull (tgt := 52) hB dX2_save_31 (by decide) ?_
  refine a_aload_n hB dX2_save_52 rfl ?_
  refine a_aload_n hB dX2_save_53 rfl ?_
  refine a_callVd (w2 := wH G h a pl nx num ++ wP G pa P ++ wP G qa (O.cpy P)) (q0 := 9) hB (c_X4_copyFrom2 (pa := pa) (qa := qa) (P := P) (O := O)) mk_X4_copyFrom ml_X2_25 dX2_save_54 rfl rfl [2, 3, 4, 5, 6, 7, 8, 9, 10, 11, 12, 13, 14, 15] rfl (by decide) rfl rfl (fit_of hR (by decide)) (Nat.le_of_ble_eq_true rfl) (wput_seg (w1 := wH G h a pl nx num) (wc := wP G pa P ++ wP G qa O) (w3 := []) rfl rfl rfl rfl) ?_
  refine a_aload_n hB dX2_save_57 rfl ?_
  refine a_aload_n hB dX2_save_58 rfl ?_
  refine a_get (T := TX2) (ci := 2) hB dX2_save_59 1 fl_X2_17 lay_X2 rfl (by decide) rfl 0 rfl rfl ?_
  refine a_iconstN (v := 1) hB dX2_save_62 (by decide) ?_
  refine a_iaddN hB dX2_save_63 ?_
  refine a_bipushN (v := 6) hB dX2_save_64 (by decide) ?_
  refine a_iremN hB dX2_save_66 (by omega) (by omega) (by omega) ?_
  refine a_put (T := TX2) (ci := 2) hB dX2_save_67 1 fl_X2_17 lay_X2 tyX2 tyX2_ok nmX2 rfl (by decide) rfl rfl 0 rfl rfl rfl rfl (Nat.le_of_ble_eq_true rfl) ?_
  refine a_aload_n hB dX2_save_70 rfl ?_
  refine a_aload_n hB dX2_save_71 rfl ?_
  refine a_get (T := TX2) (ci := 2) hB dX2_save_72 2 fl_X2_21 lay_X2 rfl (by decide) rfl 0 rfl rfl ?_
  refine a_iconstN (v := 1) hB dX2_save_75 (by decide) ?_
  refine a_iaddN hB dX2_save_76 ?_
  refine a_bipushN (v := 6) hB dX2_save_77 (by decide) ?_
  refine a_minN hB ml_X2_29 dX2_save_79 (by omega) (by omega) (roomF hR (Nat.le_of_ble_eq_true rfl)) (room13 hR (Nat.le_of_ble_eq_true rfl)) (roomc hR (Nat.le_of_ble_eq_true rfl)) (rooms hR (Nat.le_of_ble_eq_true rfl)) ?_
  refine a_put (T := TX2) (ci := 2) hB dX2_save_82 2 fl_X2_21 lay_X2 tyX2 tyX2_ok nmX2 rfl (by decide) rfl rfl 0 rfl rfl rfl rfl (Nat.le_of_ble_eq_true rfl) ?_
  exact a_vret hB hE rfl dX2_save_85 (Nat.le_of_ble_eq_true rfl) (Nat.le_of_ble_eq_true rfl) (AKeep.of rfl) ⟨rfl, rfl⟩
set_option maxHeartbeats 4000000 in
set_option maxRecDepth 100000 in
theorem c_X2_restore {G : GP} {h a nx num : Nat} {pl : Nat → Option Nat} {pa qa : Nat → Nat} {P O : PV} (hx : nx < 6) (hn : num ≤ 6) (h0 : 0 < num) (hpl : pl ((nx + 6 - 1) % 6) = some (qa 0)) : AMd G sX2_restore [.ref h, .ref (pa 0)] (wH G h a pl nx num ++ wP G pa P ++ wP G qa O) none (wH G h a pl ((nx + 6 - 1) % 6) (num - 1) ++ wP G pa (P.cpy O) ++ wP G qa O) := by
  refine AM.of (σ := sX2_restore) (by decide +kernel) (by decide +kernel) (Nat.le_of_ble_eq_true rfl) (fun B hB hR hE0 hN => ?_)
  have hE := BE.of hE0
  refine a_aload_n hB dX2_restore_0 rfl ?_
  refine a_get (T := TX2) (ci := 2) hB dX2_restore_1 1 fl_X2_17 lay_X2 rfl (by decide) rfl 0 rfl rfl ?_
  refine a_bipushN (v := 6) hB dX2_restore_4 (by decide) ?_
  refine a_iaddN hB dX2_restore_6 ?_
  refine a_iconstN (v := 1) hB dX2_restore_7 (by decide) ?_
  refine a_isubN hB dX2_restore_8 (by omega) ?_
  refine a_bipushN (v := 6) hB dX2_restore_9 (by decide) ?_
  refine a_iremN hB dX2_restore_11 (by omega) (by omega) (by omega) ?_
  refine a_istore_n hB dX2_restore_12 (by decide) ?_
  refine a_aload_n hB dX2_restore_13 rfl ?_
  refine a_get (T := TX2) (ci := 2) hB dX2_restore_14 2 fl_X2_21 lay_X2 rfl (by decide) rfl 0 rfl rfl ?_
  refine a_if_leN_f (tgt := 33) hB dX2_restore_17 (by decide) (by omega) (by omega) ?_
  refine a_iload_n hB dX2_restore_20 rfl ?_
  refine a_if_ltN_f (tgt := 33) hB dX2_restore_21 (by decide) (by omega) ?_
  refine a_iload_n hB dX2_restore_24 rfl ?_
  refine a_aload_n hB dX2_restore_25 rfl ?_
  refine a_get (T := TX2) (ci := 2) hB dX2_restore_26 0 fl_X2_11 lay_X2 rfl (by decide) rfl 0 rfl rfl ?_
  refine a_alen (v := nI 6) hB dX2_restore_29 1 3 rfl rfl rfl ?_
  refine a_icmp_ltN_t (tgt := 34) hB dX2_restore_30 (by decide) (by omega) (by omega) (by omega) ?_
  refine a_aload_n hB dX2_restore_34 rfl ?_
  refine a_get (T := TX2) (ci := 2) hB dX2_restore_35 0 fl_X2_11 lay_X2 rfl (by decide) rfl 0 rfl rfl ?_
  refine a_iload_n hB dX2_restore_38 rfl ?_
  refine a_aaloadS hB dX2_restore_39 1 rfl (by omega) (by decide) hpl ?_
  refine a_astore_n hB dX2_restore_40 (by decide) ?_
  refine a_aload_n hB dX2_restore_41 rfl ?_
  refine a_ifnonnull (tgt := 46) hB dX2_restore_42 (by decide) ?_
  refine a_aload_n hB dX2_restore_46 rfl ?_
  refine a_aload_n hB dX2_restore_47 rfl ?_
  refine a_callVd (w2 := wH G h a pl nx num ++ wP G pa (P.cpy O) ++ wP G qa O) (q0 := 2) hB (c_X4_copyFrom (pa := pa) (qa := qa) (P := P) (O := O)) mk_X4_copyFrom ml_X2_25 dX2_restore_48 rfl rfl [2, 3, 4, 5, 6, 7, 8, 9, 10, 11, 12, 13, 14, 15] rfl (by decide) rfl rfl (fit_of hR (by decide)) (Nat.le_of_ble_eq_true rfl) (wput_seg (w1 := wH G h a pl nx num) (wc := wP G pa P ++ wP G qa O) (w3 := []) rfl rfl rfl rfl) ?_
  refine a_aload_n hB dX2_restore_51 rfl ?_
  refine a_iload_n hB dX2_restore_52 rfl ?_
  refine a_put (T := TX2) (ci := 2) hB dX2_restore_53 1 fl_X2_17 lay_X2 tyX2 tyX2_ok nmX2 rfl (by decide) rfl rfl 0 rfl rfl rfl rfl (Nat.le_of_ble_eq_true rfl) ?_
  refine a_aload_n hB dX2_restore_56 rfl ?_
  refine a_dup hB dX2_restore_57 rfl ?_
  refine a_get (T := TX2) (ci := 2) hB dX2_restore_58 2 fl_X2_21 lay_X2 rfl (by decide) rfl 0 rfl rfl ?_
  refine a_iconstN (v := 1) hB dX2_restore_61 (by decide) ?_
  refine a_isubN hB dX2_restore_62 (by omega) ?_
  refine a_put (T := TX2) (ci := 2) hB dX2_restore_63 2 fl_X2_21 lay_X2 tyX2 tyX2_ok nmX2 rfl (by decide) rfl rfl 0 rfl rfl rfl rfl (Nat.le_of_ble_eq_true rfl) ?_
  exact a_vret hB hE rfl dX2_restore_66 (Nat.le_of_ble_eq_true rfl) (Nat.le_of_ble_eq_true rfl) (AKeep.of rfl) ⟨rfl, rfl⟩
