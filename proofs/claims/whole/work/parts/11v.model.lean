theorem zP_zP (z : Nat → Nat) (P Q : PV) : zP (zP z P) Q = zP z Q := by
  funext j
  unfold zP
  repeat' split
  all_goals first | rfl | omega
theorem sfP_sfP (sf : Nat → UInt64) (P Q : PV) : sfP (sfP sf P) Q = sfP sf Q := by
  funext j
  unfold sfP
  repeat' split
  all_goals first | rfl | omega
theorem zP_self (z : Nat → Nat) (sf : Nat → UInt64) : zP z (ZP z sf) = z := by
  funext j
  unfold zP
  repeat' split
  all_goals first | (rename_i h; subst h; rfl) | rfl | (show z (5 + (j - 5)) = z j; rw [show 5 + (j - 5) = j by omega])
theorem sfP_self (z : Nat → Nat) (sf : Nat → UInt64) : sfP sf (ZP z sf) = sf := by
  funext j
  unfold sfP
  repeat' split
  all_goals first | (rename_i h; subst h; rfl) | rfl
theorem ZP_zP {z : Nat → Nat} {sf : Nat → UInt64} {P : PV} (hw : P.wt = wq z) (ht : P.tl = tq z) (hl : ∀ p, 6 ≤ p → P.sv.ll p = z (5 + p)) : ZP (zP z P) (sfP sf P) = P := by
  have e1 : wq (zP z P) = P.wt := by
    rw [hw]; funext k
    show zP z P (11 + k) = z (11 + k)
    unfold zP
    repeat rw [if_neg (by omega)]
  have e2 : tq (zP z P) = P.tl := by
    rw [ht]; funext k
    show zP z P (47 + k) = z (47 + k)
    unfold zP
    repeat rw [if_neg (by omega)]
  have e3 : (fun p => zP z P (5 + p)) = P.sv.ll := by
    funext p
    show zP z P (5 + p) = P.sv.ll p
    unfold zP
    rw [if_neg (by omega), if_neg (by omega), if_neg (by omega), if_neg (by omega), if_neg (by omega)]
    by_cases h : 5 + p < 11
    · rw [if_pos h, show 5 + p - 5 = p by omega]
    · rw [if_neg h, hl p (by omega)]
  show mkP (wq (zP z P)) (tq (zP z P)) (mkS (fun p => zP z P (5 + p)) P.sv.num P.sv.flt P.sv.fs P.sv.sm P.sv.sq P.sv.lc) P.parts P.limit P.seed = P
  rw [e1, e2, e3]
  rfl
theorem c_X10_drawRowP {G : GP} {ma z : Nat → Nat} {sf : Nat → UInt64} {st : Nat} {hh : Nat → Nat} {sh : Nat → UInt64} {len : Nat} {tx : Nat → Nat} {th : Nat} {wy mo td : Nat → Nat} {re lo to : Nat} {rw : Nat → Nat} {ha : Int64} {P : PV} (hwt : P.wt = wq z) (htl : P.tl = tq z) (hll : ∀ p, 6 ≤ p → P.sv.ll p = z (5 + p)) (hk : P.rowOK2) (hpw : ∀ p, p < P.parts → ¬ tot P.wt p = 0) (h00 : FP.dadd P.sv.fs FP.dconst0 = P.sv.fs) (hs0 : vf_n64 P.sv.fs) : AMd G sX10_drawRow [.ref (ma 0)] (wM G ma (zP z P) (sfP sf P) st hh sh len tx th wy mo td re lo to rw ha) (some (.int (nI P.isF))) (wM G ma (zP z P.drawRow) (sfP sf P.drawRow) st hh sh len tx th wy mo td re lo to rw ha) := by
  have e := ZP_zP (sf := sf) hwt htl hll
  have ew : wq (zP z P) = P.wt := congrArg PV.wt e
  by_cases h : (rowS P P.parts).2.2.1 < P.limit
  · have key := c_X10_drawRow_0 (G := G) (ma := ma) (z := zP z P) (sf := sfP sf P) (st := st) (hh := hh) (sh := sh) (len := len) (tx := tx) (th := th) (wy := wy) (mo := mo) (td := td) (re := re) (lo := lo) (to := to) (rw := rw) (ha := ha) (by rw [e]; exact hk) (by rw [ew]; exact hpw) h00 hs0 (by rw [e]; exact h)
    rw [e, zP_zP, sfP_sfP] at key
    rw [isF_0 h]
    exact key
  · have key := c_X10_drawRow_1 (G := G) (ma := ma) (z := zP z P) (sf := sfP sf P) (st := st) (hh := hh) (sh := sh) (len := len) (tx := tx) (th := th) (wy := wy) (mo := mo) (td := td) (re := re) (lo := lo) (to := to) (rw := rw) (ha := ha) (by rw [e]; exact hk) (by rw [ew]; exact hpw) h00 hs0 (by rw [e]; exact h)
    rw [e, zP_zP, sfP_sfP] at key
    rw [isF_1 h]
    exact key
noncomputable def dfl (P : PV) : Nat → Nat
  | 0 => 0
  | i + 1 => dfl P i + (drN P i).isF
theorem drN_keep {P : PV} (h6 : P.parts ≤ 6) : ∀ i, (drN P i).wt = P.wt ∧ (drN P i).tl = P.tl ∧ (drN P i).parts = P.parts ∧ (drN P i).limit = P.limit ∧ ∀ p, 6 ≤ p → (drN P i).sv.ll p = P.sv.ll p
  | 0 => ⟨rfl, rfl, rfl, rfl, fun _ _ => rfl⟩
  | i + 1 => by
    obtain ⟨a, b, c, d, e⟩ := drN_keep h6 i
    exact ⟨a, b, c, d, fun p hp => (rowS_ll (P := drN P i) (drN P i).parts (by omega)).trans (e p hp)⟩
theorem isF_le (P : PV) : P.isF ≤ 1 := by
  unfold PV.isF
  split
  · exact Nat.zero_le _
  · exact Nat.le_refl _
theorem dfl_flt (P : PV) : ∀ i, (drN P i).sv.flt = P.sv.flt + dfl P i
  | 0 => rfl
  | i + 1 => by
    show (if (drN P i).isF = 0 then (drN P i).sv.flt else (drN P i).sv.flt + 1) = P.sv.flt + (dfl P i + (drN P i).isF)
    have h1 := dfl_flt P i
    have h2 := isF_le (drN P i)
    by_cases h : (drN P i).isF = 0
    · rw [if_pos h]; omega
    · rw [if_neg h]; omega
theorem dfl_le (P : PV) : ∀ i, dfl P i ≤ i
  | 0 => Nat.le_refl _
  | i + 1 => Nat.add_le_add (dfl_le P i) (isF_le _)
set_option maxHeartbeats 4000000 in
set_option maxRecDepth 100000 in
theorem c_X10_draw_ok {G : GP} {ma z : Nat → Nat} {sf : Nat → UInt64} {st : Nat} {hh : Nat → Nat} {sh : Nat → UInt64} {len : Nat} {tx : Nat → Nat} {th : Nat} {wy mo td : Nat → Nat} {re lo to : Nat} {rw : Nat → Nat} {ha : Int64} {v : Nat} (h1 : 1 ≤ v) (hv : v ≤ 64) (hn : z 3 + v ≤ 9999) (h6 : z 0 ≤ 6) (hs : st ≤ 6) (hr : ∀ i, i < v → (drN (ZP z sf) i).rowOK2 ∧ (∀ p, p < z 0 → ¬ tot (wq z) p = 0) ∧ FP.dadd (drN (ZP z sf) i).sv.fs FP.dconst0 = (drN (ZP z sf) i).sv.fs ∧ vf_n64 (drN (ZP z sf) i).sv.fs) : AMd G sX10_draw [.ref (ma 0), .int (nI v)] (wM G ma z sf st hh sh len tx th wy mo td re lo to rw ha) (some (.int (nI (dfl (ZP z sf) v)))) (wM G ma (zP z (drN (ZP z sf) v)) (sfP sf (drN (ZP z sf) v)) (min (st + 1) 6) (svH z hh st) (svT sf sh st) len tx 0 wy mo td re lo to rw ha) := by
  refine AM.of (σ := sX10_draw) (by decide +kernel) (by decide +kernel) (Nat.le_of_ble_eq_true rfl) (fun B hB hR hE0 hN => ?_)
  have hE := BE.of hE0
  refine a_aload_n hB dX10_draw_0 rfl ?_
  refine a_iload_n hB dX10_draw_1 rfl ?_
  refine a_iconstN (v := 1) hB dX10_draw_2 (by decide) ?_
  refine a_bipushN (v := 64) hB dX10_draw_3 (by decide) ?_
  refine a_callSr hB (c_X10_within_N (by omega) (by omega) (by omega)) mk_X10_within ml_X10_46 dX10_draw_5 rfl rfl [] rfl (by decide) (fit_of hR (by decide)) (Nat.le_of_ble_eq_true rfl) ?_
  refine a_if_neN_t (tgt := 15) hB dX10_draw_8 (by decide) (by omega) (by omega) ?_
  refine a_aload_n hB dX10_draw_15 rfl ?_
  refine a_get (T := TX10) (ci := 10) hB dX10_draw_16 0 fl_X10_7 lay_X10 rfl (by decide) rfl 0 rfl rfl ?_
  refine a_iconstN (v := 3) hB dX10_draw_19 (by decide) ?_
  refine a_ialoadN hB dX10_draw_20 1 rfl (by omega) (by decide) ?_
  refine a_iload_n hB dX10_draw_21 rfl ?_
  refine a_iaddN hB dX10_draw_22 ?_
  refine a_sipushN (v := 9999) hB dX10_draw_23 (by decide) ?_
  refine a_icmp_leN_t (tgt := 33) hB dX10_draw_26 (by decide) (by omega) (by omega) (by omega) ?_
  refine a_iconstN (v := 0) hB dX10_draw_33 (by decide) ?_
  refine a_put (T := TX10) (ci := 10) hB dX10_draw_34 7 fl_X10_39 lay_X10 tyX10 tyX10_ok nmX10 rfl (by decide) rfl rfl 0 rfl rfl rfl rfl (Nat.le_of_ble_eq_true rfl) ?_
  refine a_aload_n hB dX10_draw_37 rfl ?_
  refine a_get (T := TX10) (ci := 10) hB dX10_draw_38 7 fl_X10_39 lay_X10 rfl (by decide) rfl 0 rfl rfl ?_
  refine a_if_leN_t (tgt := 46) hB dX10_draw_41 (by decide) (by omega) (by omega) ?_
  refine a_aload_n hB dX10_draw_46 rfl ?_
  refine a_callVd (w2 := wM G ma z sf (min (st + 1) 6) (svH z hh st) (svT sf sh st) len tx 0 wy mo td re lo to rw ha) (q0 := 0) hB (c_X10_save (by omega)) mk_X10_save ml_X10_104 dX10_draw_47 rfl rfl [0, 1, 2, 3, 4, 5, 6, 7, 8, 9] rfl (by decide) rfl rfl (fit_of hR (by decide)) (Nat.le_of_ble_eq_true rfl) (wput_all rfl rfl) ?_
  refine a_iconstN (v := 0) hB dX10_draw_50 (by decide) ?_
  refine a_istore_n hB dX10_draw_51 (by decide) ?_
  refine a_iconstN (v := 0) hB dX10_draw_52 (by decide) ?_
  refine a_istore_n hB dX10_draw_53 (by decide) ?_
  have lp54 : ∀ (j54 i : Nat), i + j54 = v → aW G sX10_draw B 54 [(0, .ref (ma 0)), (1, .int (nI v)), (2, .int (nI (dfl (ZP z sf) i))), (3, .int (nI i))] [] (wM G ma (zP z (drN (ZP z sf) i)) (sfP sf (drN (ZP z sf) i)) (min (st + 1) 6) (svH z hh st) (svT sf sh st) len tx 0 wy mo td re lo to rw ha) 0 0 := by
    intro j54
    induction j54 with
    | zero =>
      intro i hi
      refine a_iload_n hB dX10_draw_54 rfl ?_
      refine a_iload_n hB dX10_draw_55 rfl ?_
      refine a_icmp_geN_t (tgt := 76) hB dX10_draw_56 (by decide) (by omega) (by omega) (by omega) ?_
      refine a_iload_n hB dX10_draw_76 rfl ?_
      exact a_iret hB hE rfl dX10_draw_77 (Nat.le_of_ble_eq_true rfl) (Nat.le_of_ble_eq_true rfl) (AKeep.of rfl) ⟨by rw [show i = v by omega], by rw [show i = v by omega]⟩
    | succ j54 ih54 =>
      intro i hi
      obtain ⟨g1, g2, g3, g4, g5⟩ := drN_keep (P := ZP z sf) h6 i
      obtain ⟨r1, r2, r3, r4⟩ := hr i (by omega)
      refine a_iload_n hB dX10_draw_54 rfl ?_
      refine a_iload_n hB dX10_draw_55 rfl ?_
      refine a_icmp_geN_f (tgt := 76) hB dX10_draw_56 (by decide) (by omega) (by omega) (by omega) ?_
      refine a_aload_n hB dX10_draw_59 rfl ?_
      refine a_callVd (w2 := wM G ma (zP z (drN (ZP z sf) (i + 1))) (sfP sf (drN (ZP z sf) (i + 1))) (min (st + 1) 6) (svH z hh st) (svT sf sh st) len tx 0 wy mo td re lo to rw ha) (q0 := 0) hB (c_X10_drawRowP (P := (drN (ZP z sf) i)) g1 g2 g5 r1 (by rw [g3, g1]; exact r2) r3 r4) mk_X10_drawRow ml_X10_123 dX10_draw_60 rfl rfl [0, 1, 2, 3, 4, 5, 6, 7, 8, 9] rfl (by decide) rfl rfl (fit_of hR (by decide)) (Nat.le_of_ble_eq_true rfl) (wput_all rfl rfl) ?_
      refine a_istore hB dX10_draw_63 (by decide) ?_
      refine a_iload_n hB dX10_draw_65 rfl ?_
      refine a_iload hB dX10_draw_66 rfl ?_
      refine a_iaddN hB dX10_draw_68 ?_
      refine a_istore_n hB dX10_draw_69 (by decide) ?_
      refine a_iincN (b := 1) hB dX10_draw_70 rfl (by decide) (by decide) ?_
      refine a_goto (tgt := 54) hB dX10_draw_73 (by decide) ?_
      exact aW_at [0, 1, 2, 3] rfl rfl rfl (ih54 (i + 1) (by omega))
  exact aW_at [0, 1, 2, 3] rfl rfl (by rw [show drN (ZP z sf) 0 = ZP z sf from rfl, zP_self, sfP_self]) (lp54 (v) 0 (by omega))
abbrev TV : Type := (Nat → Nat) × Nat × Nat × Nat
def mtA (S : TV) (c : Nat) : Nat := if c = 59 then (if S.2.2.2 = 0 then 0 else 1) else if 48 ≤ c ∧ c ≤ 57 then (if S.2.2.1 = 6 ∨ (S.2.2.1 = 5 ∧ S.2.2.2 + (c - 48) = 0) then 0 else 1) else 0
def mtN (S : TV) : TV := (bgT S.1 (S.2.1 + 1) 6, S.2.1 + 1, 0, 0)
def mtD (S : TV) (d : Nat) : TV := (uN S.1 (6 * S.2.1 + S.2.2.1) d, S.2.1, S.2.2.1 + 1, S.2.2.2 + d)
def mtS (S : TV) (c : Nat) : TV := if mtA S c = 0 then S else if c = 59 then mtN S else mtD S (c - 48)
def mtK (td tx : Nat → Nat) : Nat → TV
  | 0 => (bgT td 0 6, 0, 0, 0)
  | k + 1 => mtS (mtK td tx k) (tx k)
theorem mtS_0 {S : TV} {c : Nat} (h : mtA S c = 0) : mtS S c = S := if_pos h
theorem mtS_n {S : TV} (h : ¬ mtA S 59 = 0) : mtS S 59 = mtN S := (if_neg h).trans (if_pos rfl)
theorem mtS_d {S : TV} {c : Nat} (h : ¬ mtA S c = 0) (h9 : ¬ c = 59) : mtS S c = mtD S (c - 48) := (if_neg h).trans (if_neg h9)
theorem mtA_le (S : TV) (c : Nat) : mtA S c ≤ 1 := by
  unfold mtA
  repeat' split
  all_goals omega
theorem mtS_re (S : TV) (c : Nat) : (mtS S c).2.1 ≤ S.2.1 + 1 ∧ (mtS S c).2.2.1 ≤ S.2.2.1 + 1 ∧ (mtS S c).2.2.2 ≤ S.2.2.2 + (c - 48) := by
  unfold mtS
  split
  · exact ⟨Nat.le_succ _, Nat.le_succ _, Nat.le_add_right _ _⟩
  · split
    · exact ⟨Nat.le_refl _, Nat.zero_le _, Nat.zero_le _⟩
    · exact ⟨Nat.le_succ _, Nat.le_refl _, Nat.le_refl _⟩
/-- what holds of the reader behind k characters -/
theorem mtK_inv (td tx : Nat → Nat) : ∀ k, (mtK td tx k).2.2.1 ≤ 6 ∧ (mtK td tx k).2.2.2 ≤ 9 * (mtK td tx k).2.2.1 ∧ 2 * (mtK td tx k).2.1 + (mtK td tx k).2.2.1 ≤ k
  | 0 => ⟨Nat.zero_le _, Nat.zero_le _, Nat.le_refl _⟩
  | k + 1 => by
    obtain ⟨a, b, c⟩ := mtK_inv td tx k
    show (mtS (mtK td tx k) (tx k)).2.2.1 ≤ 6 ∧ (mtS (mtK td tx k) (tx k)).2.2.2 ≤ 9 * (mtS (mtK td tx k) (tx k)).2.2.1 ∧ 2 * (mtS (mtK td tx k) (tx k)).2.1 + (mtS (mtK td tx k) (tx k)).2.2.1 ≤ k + 1
    generalize mtK td tx k = S at a b c ⊢
    generalize tx k = x
    unfold mtS
    by_cases h : mtA S x = 0
    · rw [if_pos h]; exact ⟨a, b, Nat.le_succ_of_le c⟩
    · rw [if_neg h]
      by_cases h2 : x = 59
      · rw [if_pos h2]
        show 0 ≤ 6 ∧ 0 ≤ 9 * 0 ∧ 2 * (S.2.1 + 1) + 0 ≤ k + 1
        unfold mtA at h
        rw [if_pos h2] at h
        have : ¬ S.2.2.2 = 0 := fun q => h (if_pos q)
        omega
      · rw [if_neg h2]
        show S.2.2.1 + 1 ≤ 6 ∧ S.2.2.2 + (x - 48) ≤ 9 * (S.2.2.1 + 1) ∧ 2 * S.2.1 + (S.2.2.1 + 1) ≤ k + 1
        unfold mtA at h
        rw [if_neg h2] at h
        by_cases h3 : 48 ≤ x ∧ x ≤ 57
        · rw [if_pos h3] at h
          have : ¬ S.2.2.1 = 6 := fun q => h (if_pos (Or.inl q))
          omega
        · rw [if_neg h3] at h
          exact absurd rfl h
set_option maxHeartbeats 4000000 in
set_option maxRecDepth 100000 in
theorem c_X10_takes_n {G : GP} {ma z : Nat → Nat} {sf : Nat → UInt64} {st : Nat} {hh : Nat → Nat} {sh : Nat → UInt64} {len : Nat} {tx : Nat → Nat} {th : Nat} {wy mo td : Nat → Nat} {re lo to : Nat} {rw : Nat → Nat} {ha : Int64} (h0 : 0 < to) (hto : to < 2 ^ 31) (hr : re ≤ 30) : AMd G sX10_takes [.ref (ma 0), .int (nI 59)] (wM G ma z sf st hh sh len tx th wy mo td re lo to rw ha) (some (.int (nI 1))) (wM G ma z sf st hh sh len tx th wy mo (bgT td (re + 1) 6) (re + 1) 0 0 rw ha) := by
  refine AM.of (σ := sX10_takes) (by decide +kernel) (by decide +kernel) (Nat.le_of_ble_eq_true rfl) (fun B hB hR hE0 hN => ?_)
  have hE := BE.of hE0
  refine a_iload_n hB dX10_takes_0 rfl ?_
  refine a_bipushN (v := 59) hB dX10_takes_1 (by decide) ?_
  refine a_icmp_neN_f (tgt := 29) hB dX10_takes_3 (by decide) (by omega) (by omega) (by omega) ?_
  refine a_aload_n hB dX10_takes_6 rfl ?_
  refine a_get (T := TX10) (ci := 10) hB dX10_takes_7 13 fl_X10_135 lay_X10 rfl (by decide) rfl 0 rfl rfl ?_
  refine a_if_leN_f (tgt := 29) hB dX10_takes_10 (by decide) (by omega) (by omega) ?_
  refine a_aload_n hB dX10_takes_13 rfl ?_
  refine a_dup hB dX10_takes_14 rfl ?_
  refine a_get (T := TX10) (ci := 10) hB dX10_takes_15 11 fl_X10_129 lay_X10 rfl (by decide) rfl 0 rfl rfl ?_
  refine a_iconstN (v := 1) hB dX10_takes_18 (by decide) ?_
  refine a_iaddN hB dX10_takes_19 ?_
  refine a_put (T := TX10) (ci := 10) hB dX10_takes_20 11 fl_X10_129 lay_X10 tyX10 tyX10_ok nmX10 rfl (by decide) rfl rfl 0 rfl rfl rfl rfl (Nat.le_of_ble_eq_true rfl) ?_
  refine a_aload_n hB dX10_takes_23 rfl ?_
  refine a_callVd (w2 := wM G ma z sf st hh sh len tx th wy mo (bgT td (re + 1) 6) (re + 1) 0 0 rw ha) (q0 := 0) hB (c_X10_beginPart (re := re + 1) (by omega)) mk_X10_beginPart ml_X10_138 dX10_takes_24 rfl rfl [0, 1, 2, 3, 4, 5, 6, 7, 8, 9] rfl (by decide) rfl rfl (fit_of hR (by decide)) (Nat.le_of_ble_eq_true rfl) (wput_all rfl rfl) ?_
  refine a_iconstN (v := 1) hB dX10_takes_27 (by decide) ?_
  exact a_zret hB hE rfl (by decide) dX10_takes_28 (Nat.le_of_ble_eq_true rfl) (Nat.le_of_ble_eq_true rfl) (AKeep.of rfl) ⟨rfl, rfl⟩
set_option maxHeartbeats 4000000 in
set_option maxRecDepth 100000 in
theorem c_X10_takes_d {G : GP} {ma z : Nat → Nat} {sf : Nat → UInt64} {st : Nat} {hh : Nat → Nat} {sh : Nat → UInt64} {len : Nat} {tx : Nat → Nat} {th : Nat} {wy mo td : Nat → Nat} {re lo to : Nat} {rw : Nat → Nat} {ha : Int64} {c : Nat} (h1 : 48 ≤ c) (h2 : c ≤ 57) (hlo : lo < 6) (hla : lo = 5 → 0 < to + (c - 48)) (hto : to ≤ 54) (hre : re ≤ 31) : AMd G sX10_takes [.ref (ma 0), .int (nI c)] (wM G ma z sf st hh sh len tx th wy mo td re lo to rw ha) (some (.int (nI 1))) (wM G ma z sf st hh sh len tx th wy mo (uN td (6 * re + lo) (c - 48)) re (lo + 1) (to + (c - 48)) rw ha) := by
  refine AM.of (σ := sX10_takes) (by decide +kernel) (by decide +kernel) (Nat.le_of_ble_eq_true rfl) (fun B hB hR hE0 hN => ?_)
  have hE := BE.of hE0
  refine a_iload_n hB dX10_takes_0 rfl ?_
  refine a_bipushN (v := 59) hB dX10_takes_1 (by decide) ?_
  refine a_icmp_neN_t (tgt := 29) hB dX10_takes_3 (by decide) (by omega) (by omega) (by omega) ?_
  refine a_iload_n hB dX10_takes_29 rfl ?_
  refine a_bipushN (v := 48) hB dX10_takes_30 (by decide) ?_
  refine a_isubN hB dX10_takes_32 (by omega) ?_
  refine a_istore_n hB dX10_takes_33 (by decide) ?_
  refine a_aload_n hB dX10_takes_34 rfl ?_
  refine a_get (T := TX10) (ci := 10) hB dX10_takes_35 12 fl_X10_132 lay_X10 rfl (by decide) rfl 0 rfl rfl ?_
  refine a_iconstN (v := 5) hB dX10_takes_38 (by decide) ?_
  refine a_icmp_neN (tgt := 46) hB dX10_takes_39 (by decide) (by omega) (by omega) (fun c39 => ?_) (fun c39 => ?_)
  · refine a_iconstN (v := 0) hB dX10_takes_46 (by decide) ?_
    refine a_istore_n hB dX10_takes_47 (by decide) ?_
    refine a_iload_n hB dX10_takes_48 rfl ?_
    refine a_iconstN (v := 0) hB dX10_takes_49 (by decide) ?_
    refine a_bipushN (v := 9) hB dX10_takes_50 (by decide) ?_
    refine a_callSr hB (c_X10_within_N (by omega) (by omega) (by omega)) mk_X10_within ml_X10_46 dX10_takes_52 rfl rfl [] rfl (by decide) (fit_of hR (by decide)) (Nat.le_of_ble_eq_true rfl) ?_
    refine a_if_eqN_f (tgt := 80) hB dX10_takes_55 (by decide) (by omega) (by omega) ?_
    refine a_aload_n hB dX10_takes_58 rfl ?_
    refine a_get (T := TX10) (ci := 10) hB dX10_takes_59 12 fl_X10_132 lay_X10 rfl (by decide) rfl 0 rfl rfl ?_
    refine a_bipushN (v := 6) hB dX10_takes_62 (by decide) ?_
    refine a_icmp_eqN_f (tgt := 80) hB dX10_takes_64 (by decide) (by omega) (by omega) (by omega) ?_
    refine a_iload_n hB dX10_takes_67 rfl ?_
    refine a_if_eqN_t (tgt := 82) hB dX10_takes_68 (by decide) (by omega) (by omega) ?_
    refine a_aload_n hB dX10_takes_82 rfl ?_
    refine a_get (T := TX10) (ci := 10) hB dX10_takes_83 10 fl_X10_33 lay_X10 rfl (by decide) rfl 0 rfl rfl ?_
    refine a_bipushN (v := 6) hB dX10_takes_86 (by decide) ?_
    refine a_aload_n hB dX10_takes_88 rfl ?_
    refine a_get (T := TX10) (ci := 10) hB dX10_takes_89 11 fl_X10_129 lay_X10 rfl (by decide) rfl 0 rfl rfl ?_
    refine a_imulN hB dX10_takes_92 ?_
    refine a_aload_n hB dX10_takes_93 rfl ?_
    refine a_get (T := TX10) (ci := 10) hB dX10_takes_94 12 fl_X10_132 lay_X10 rfl (by decide) rfl 0 rfl rfl ?_
    refine a_iaddN hB dX10_takes_97 ?_
    refine a_iload_n hB dX10_takes_98 rfl ?_
    refine a_iastoreN hB dX10_takes_99 8 rfl (by omega) (by decide) ?_
    refine a_aload_n hB dX10_takes_100 rfl ?_
    refine a_dup hB dX10_takes_101 rfl ?_
    refine a_get (T := TX10) (ci := 10) hB dX10_takes_102 12 fl_X10_132 lay_X10 rfl (by decide) rfl 0 rfl rfl ?_
    refine a_iconstN (v := 1) hB dX10_takes_105 (by decide) ?_
    refine a_iaddN hB dX10_takes_106 ?_
    refine a_put (T := TX10) (ci := 10) hB dX10_takes_107 12 fl_X10_132 lay_X10 tyX10 tyX10_ok nmX10 rfl (by decide) rfl rfl 0 rfl rfl rfl rfl (Nat.le_of_ble_eq_true rfl) ?_
    refine a_aload_n hB dX10_takes_110 rfl ?_
    refine a_dup hB dX10_takes_111 rfl ?_
    refine a_get (T := TX10) (ci := 10) hB dX10_takes_112 13 fl_X10_135 lay_X10 rfl (by decide) rfl 0 rfl rfl ?_
    refine a_iload_n hB dX10_takes_115 rfl ?_
    refine a_iaddN hB dX10_takes_116 ?_
    refine a_put (T := TX10) (ci := 10) hB dX10_takes_117 13 fl_X10_135 lay_X10 tyX10 tyX10_ok nmX10 rfl (by decide) rfl rfl 0 rfl rfl rfl rfl (Nat.le_of_ble_eq_true rfl) ?_
    refine a_iconstN (v := 1) hB dX10_takes_120 (by decide) ?_
    exact a_zret hB hE rfl (by decide) dX10_takes_121 (Nat.le_of_ble_eq_true rfl) (Nat.le_of_ble_eq_true rfl) (AKeep.of rfl) ⟨rfl, rfl⟩
  · refine a_iconstN (v := 1) hB dX10_takes_42 (by decide) ?_
    refine a_goto (tgt := 47) hB dX10_takes_43 (by decide) ?_
    refine a_istore_n hB dX10_takes_47 (by decide) ?_
    refine a_iload_n hB dX10_takes_48 rfl ?_
    refine a_iconstN (v := 0) hB dX10_takes_49 (by decide) ?_
    refine a_bipushN (v := 9) hB dX10_takes_50 (by decide) ?_
    refine a_callSr hB (c_X10_within_N (by omega) (by omega) (by omega)) mk_X10_within ml_X10_46 dX10_takes_52 rfl rfl [] rfl (by decide) (fit_of hR (by decide)) (Nat.le_of_ble_eq_true rfl) ?_
    refine a_if_eqN_f (tgt := 80) hB dX10_takes_55 (by decide) (by omega) (by omega) ?_
    refine a_aload_n hB dX10_takes_58 rfl ?_
    refine a_get (T := TX10) (ci := 10) hB dX10_takes_59 12 fl_X10_132 lay_X10 rfl (by decide) rfl 0 rfl rfl ?_
    refine a_bipushN (v := 6) hB dX10_takes_62 (by decide) ?_
    refine a_icmp_eqN_f (tgt := 80) hB dX10_takes_64 (by decide) (by omega) (by omega) (by omega) ?_
    refine a_iload_n hB dX10_takes_67 rfl ?_
    refine a_if_eqN_f (tgt := 82) hB dX10_takes_68 (by decide) (by omega) (by omega) ?_
    refine a_aload_n hB dX10_takes_71 rfl ?_
    refine a_get (T := TX10) (ci := 10) hB dX10_takes_72 13 fl_X10_135 lay_X10 rfl (by decide) rfl 0 rfl rfl ?_
    refine a_iload_n hB dX10_takes_75 rfl ?_
    refine a_iaddN hB dX10_takes_76 ?_
    refine a_if_neN_t (tgt := 82) hB dX10_takes_77 (by decide) (by omega) (by omega) ?_
    refine a_aload_n hB dX10_takes_82 rfl ?_
    refine a_get (T := TX10) (ci := 10) hB dX10_takes_83 10 fl_X10_33 lay_X10 rfl (by decide) rfl 0 rfl rfl ?_
    refine a_bipushN (v := 6) hB dX10_takes_86 (by decide) ?_
    refine a_aload_n hB dX10_takes_88 rfl ?_
    refine a_get (T := TX10) (ci := 10) hB dX10_takes_89 11 fl_X10_129 lay_X10 rfl (by decide) rfl 0 rfl rfl ?_
    refine a_imulN hB dX10_takes_92 ?_
    refine a_aload_n hB dX10_takes_93 rfl ?_
    refine a_get (T := TX10) (ci := 10) hB dX10_takes_94 12 fl_X10_132 lay_X10 rfl (by decide) rfl 0 rfl rfl ?_
    refine a_iaddN hB dX10_takes_97 ?_
    refine a_iload_n hB dX10_takes_98 rfl ?_
    refine a_iastoreN hB dX10_takes_99 8 rfl (by omega) (by decide) ?_
    refine a_aload_n hB dX10_takes_100 rfl ?_
    refine a_dup hB dX10_takes_101 rfl ?_
    refine a_get (T := TX10) (ci := 10) hB dX10_takes_102 12 fl_X10_132 lay_X10 rfl (by decide) rfl 0 rfl rfl ?_
    refine a_iconstN (v := 1) hB dX10_takes_105 (by decide) ?_
    refine a_iaddN hB dX10_takes_106 ?_
    refine a_put (T := TX10) (ci := 10) hB dX10_takes_107 12 fl_X10_132 lay_X10 tyX10 tyX10_ok nmX10 rfl (by decide) rfl rfl 0 rfl rfl rfl rfl (Nat.le_of_ble_eq_true rfl) ?_
    refine a_aload_n hB dX10_takes_110 rfl ?_
    refine a_dup hB dX10_takes_111 rfl ?_
    refine a_get (T := TX10) (ci := 10) hB dX10_takes_112 13 fl_X10_135 lay_X10 rfl (by decide) rfl 0 rfl rfl ?_
    refine a_iload_n hB dX10_takes_115 rfl ?_
    refine a_iaddN hB dX10_takes_116 ?_
    refine a_put (T := TX10) (ci := 10) hB dX10_takes_117 13 fl_X10_135 lay_X10 tyX10 tyX10_ok nmX10 rfl (by decide) rfl rfl 0 rfl rfl rfl rfl (Nat.le_of_ble_eq_true rfl) ?_
    refine a_iconstN (v := 1) hB dX10_takes_120 (by decide) ?_
    exact a_zret hB hE rfl (by decide) dX10_takes_121 (Nat.le_of_ble_eq_true rfl) (Nat.le_of_ble_eq_true rfl) (AKeep.of rfl) ⟨rfl, rfl⟩
set_option maxHeartbeats 4000000 in
set_option maxRecDepth 100000 in
theorem c_X10_takes_x1 {G : GP} {ma z : Nat → Nat} {sf : Nat → UInt64} {st : Nat} {hh : Nat → Nat} {sh : Nat → UInt64} {len : Nat} {tx : Nat → Nat} {th : Nat} {wy mo td : Nat → Nat} {re lo to : Nat} {rw : Nat → Nat} {ha : Int64} {c : Nat} (h1 : c < 48) (hlo : lo ≤ 6) : AMd G sX10_takes [.ref (ma 0), .int (nI c)] (wM G ma z sf st hh sh len tx th wy mo td re lo to rw ha) (some (.int (nI 0))) (wM G ma z sf st hh sh len tx th wy mo td re lo to rw ha) := by
  refine AM.of (σ := sX10_takes) (by decide +kernel) (by decide +kernel) (Nat.le_of_ble_eq_true rfl) (fun B hB hR hE0 hN => ?_)
  have hE := BE.of hE0
  refine a_iload_n hB dX10_takes_0 rfl ?_
  refine a_bipushN (v := 59) hB dX10_takes_1 (by decide) ?_
  refine a_icmp_neN_t (tgt := 29) hB dX10_takes_3 (by decide) (by omega) (by omega) (by omega) ?_
  refine a_iload_n hB dX10_takes_29 rfl ?_
  refine a_bipushN (v := 48) hB dX10_takes_30 (by decide) ?_
  refine a_isub hB dX10_takes_32 ?_
  refine a_istore_n hB dX10_takes_33 (by decide) ?_
  refine a_aload_n hB dX10_takes_34 rfl ?_
  refine a_get (T := TX10) (ci := 10) hB dX10_takes_35 12 fl_X10_132 lay_X10 rfl (by decide) rfl 0 rfl rfl ?_
  refine a_iconstN (v := 5) hB dX10_takes_38 (by decide) ?_
  refine a_icmp_neN (tgt := 46) hB dX10_takes_39 (by decide) (by omega) (by omega) (fun c39 => ?_) (fun c39 => ?_)
  · refine a_iconstN (v := 0) hB dX10_takes_46 (by decide) ?_
    refine a_istore_n hB dX10_takes_47 (by decide) ?_
    refine a_iload_n hB dX10_takes_48 rfl ?_
    refine a_iconstN (v := 0) hB dX10_takes_49 (by decide) ?_
    refine a_bipushN (v := 9) hB dX10_takes_50 (by decide) ?_
    refine a_callSr hB (c_X10_within_n (Or.inl (pk_sneg (by omega) (by omega)))) mk_X10_within ml_X10_46 dX10_takes_52 rfl rfl [] rfl (by decide) (fit_of hR (by decide)) (Nat.le_of_ble_eq_true rfl) ?_
    refine a_if_eqN_t (tgt := 80) hB dX10_takes_55 (by decide) (by omega) (by omega) ?_
    refine a_iconstN (v := 0) hB dX10_takes_80 (by decide) ?_
    exact a_zret hB hE rfl (by decide) dX10_takes_81 (Nat.le_of_ble_eq_true rfl) (Nat.le_of_ble_eq_true rfl) (AKeep.of rfl) ⟨rfl, rfl⟩
  · refine a_iconstN (v := 1) hB dX10_takes_42 (by decide) ?_
    refine a_goto (tgt := 47) hB dX10_takes_43 (by decide) ?_
    refine a_istore_n hB dX10_takes_47 (by decide) ?_
    refine a_iload_n hB dX10_takes_48 rfl ?_
    refine a_iconstN (v := 0) hB dX10_takes_49 (by decide) ?_
    refine a_bipushN (v := 9) hB dX10_takes_50 (by decide) ?_
    refine a_callSr hB (c_X10_within_n (Or.inl (pk_sneg (by omega) (by omega)))) mk_X10_within ml_X10_46 dX10_takes_52 rfl rfl [] rfl (by decide) (fit_of hR (by decide)) (Nat.le_of_ble_eq_true rfl) ?_
    refine a_if_eqN_t (tgt := 80) hB dX10_takes_55 (by decide) (by omega) (by omega) ?_
    refine a_iconstN (v := 0) hB dX10_takes_80 (by decide) ?_
    exact a_zret hB hE rfl (by decide) dX10_takes_81 (Nat.le_of_ble_eq_true rfl) (Nat.le_of_ble_eq_true rfl) (AKeep.of rfl) ⟨rfl, rfl⟩
set_option maxHeartbeats 4000000 in
set_option maxRecDepth 100000 in
theorem c_X10_takes_x2 {G : GP} {ma z : Nat → Nat} {sf : Nat → UInt64} {st : Nat} {hh : Nat → Nat} {sh : Nat → UInt64} {len : Nat} {tx : Nat → Nat} {th : Nat} {wy mo td : Nat → Nat} {re lo to : Nat} {rw : Nat → Nat} {ha : Int64} {c : Nat} (h1 : 57 < c) (h9 : ¬ c = 59) (h3 : c ≤ 126) (hlo : lo ≤ 6) : AMd G sX10_takes [.ref (ma 0), .int (nI c)] (wM G ma z sf st hh sh len tx th wy mo td re lo to rw ha) (some (.int (nI 0))) (wM G ma z sf st hh sh len tx th wy mo td re lo to rw ha) := by
  refine AM.of (σ := sX10_takes) (by decide +kernel) (by decide +kernel) (Nat.le_of_ble_eq_true rfl) (fun B hB hR hE0 hN => ?_)
  have hE := BE.of hE0
  refine a_iload_n hB dX10_takes_0 rfl ?_
  refine a_bipushN (v := 59) hB dX10_takes_1 (by decide) ?_
  refine a_icmp_neN_t (tgt := 29) hB dX10_takes_3 (by decide) (by omega) (by omega) (by omega) ?_
  refine a_iload_n hB dX10_takes_29 rfl ?_
  refine a_bipushN (v := 48) hB dX10_takes_30 (by decide) ?_
  refine a_isubN hB dX10_takes_32 (by omega) ?_
  refine a_istore_n hB dX10_takes_33 (by decide) ?_
  refine a_aload_n hB dX10_takes_34 rfl ?_
  refine a_get (T := TX10) (ci := 10) hB dX10_takes_35 12 fl_X10_132 lay_X10 rfl (by decide) rfl 0 rfl rfl ?_
  refine a_iconstN (v := 5) hB dX10_takes_38 (by decide) ?_
  refine a_icmp_neN (tgt := 46) hB dX10_takes_39 (by decide) (by omega) (by omega) (fun c39 => ?_) (fun c39 => ?_)
  · refine a_iconstN (v := 0) hB dX10_takes_46 (by decide) ?_
    refine a_istore_n hB dX10_takes_47 (by decide) ?_
    refine a_iload_n hB dX10_takes_48 rfl ?_
    refine a_iconstN (v := 0) hB dX10_takes_49 (by decide) ?_
    refine a_bipushN (v := 9) hB dX10_takes_50 (by decide) ?_
    refine a_callSr hB (c_X10_within_n (Or.inr ((nI_ltI (by omega) (by omega)).mpr (by omega)))) mk_X10_within ml_X10_46 dX10_takes_52 rfl rfl [] rfl (by decide) (fit_of hR (by decide)) (Nat.le_of_ble_eq_true rfl) ?_
    refine a_if_eqN_t (tgt := 80) hB dX10_takes_55 (by decide) (by omega) (by omega) ?_
    refine a_iconstN (v := 0) hB dX10_takes_80 (by decide) ?_
    exact a_zret hB hE rfl (by decide) dX10_takes_81 (Nat.le_of_ble_eq_true rfl) (Nat.le_of_ble_eq_true rfl) (AKeep.of rfl) ⟨rfl, rfl⟩
  · refine a_iconstN (v := 1) hB dX10_takes_42 (by decide) ?_
    refine a_goto (tgt := 47) hB dX10_takes_43 (by decide) ?_
    refine a_istore_n hB dX10_takes_47 (by decide) ?_
    refine a_iload_n hB dX10_takes_48 rfl ?_
    refine a_iconstN (v := 0) hB dX10_takes_49 (by decide) ?_
    refine a_bipushN (v := 9) hB dX10_takes_50 (by decide) ?_
    refine a_callSr hB (c_X10_within_n (Or.inr ((nI_ltI (by omega) (by omega)).mpr (by omega)))) mk_X10_within ml_X10_46 dX10_takes_52 rfl rfl [] rfl (by decide) (fit_of hR (by decide)) (Nat.le_of_ble_eq_true rfl) ?_
    refine a_if_eqN_t (tgt := 80) hB dX10_takes_55 (by decide) (by omega) (by omega) ?_
    refine a_iconstN (v := 0) hB dX10_takes_80 (by decide) ?_
    exact a_zret hB hE rfl (by decide) dX10_takes_81 (Nat.le_of_ble_eq_true rfl) (Nat.le_of_ble_eq_true rfl) (AKeep.of rfl) ⟨rfl, rfl⟩
set_option maxHeartbeats 4000000 in
set_option maxRecDepth 100000 in
theorem c_X10_takes_x3 {G : GP} {ma z : Nat → Nat} {sf : Nat → UInt64} {st : Nat} {hh : Nat → Nat} {sh : Nat → UInt64} {len : Nat} {tx : Nat → Nat} {th : Nat} {wy mo td : Nat → Nat} {re lo to : Nat} {rw : Nat → Nat} {ha : Int64} (h0 : to = 0) (hlo : lo ≤ 6) : AMd G sX10_takes [.ref (ma 0), .int (nI 59)] (wM G ma z sf st hh sh len tx th wy mo td re lo to rw ha) (some (.int (nI 0))) (wM G ma z sf st hh sh len tx th wy mo td re lo to rw ha) := by
  refine AM.of (σ := sX10_takes) (by decide +kernel) (by decide +kernel) (Nat.le_of_ble_eq_true rfl) (fun B hB hR hE0 hN => ?_)
  have hE := BE.of hE0
  refine a_iload_n hB dX10_takes_0 rfl ?_
  refine a_bipushN (v := 59) hB dX10_takes_1 (by decide) ?_
  refine a_icmp_neN_f (tgt := 29) hB dX10_takes_3 (by decide) (by omega) (by omega) (by omega) ?_
  refine a_aload_n hB dX10_takes_6 rfl ?_
  refine a_get (T := TX10) (ci := 10) hB dX10_takes_7 13 fl_X10_135 lay_X10 rfl (by decide) rfl 0 rfl rfl ?_
  refine a_if_leN_t (tgt := 29) hB dX10_takes_10 (by decide) (by omega) (by omega) ?_
  refine a_iload_n hB dX10_takes_29 rfl ?_
  refine a_bipushN (v := 48) hB dX10_takes_30 (by decide) ?_
  refine a_isubN hB dX10_takes_32 (by omega) ?_
  refine a_istore_n hB dX10_takes_33 (by decide) ?_
  refine a_aload_n hB dX10_takes_34 rfl ?_
  refine a_get (T := TX10) (ci := 10) hB dX10_takes_35 12 fl_X10_132 lay_X10 rfl (by decide) rfl 0 rfl rfl ?_
  refine a_iconstN (v := 5) hB dX10_takes_38 (by decide) ?_
  refine a_icmp_neN (tgt := 46) hB dX10_takes_39 (by decide) (by omega) (by omega) (fun c39 => ?_) (fun c39 => ?_)
  · refine a_iconstN (v := 0) hB dX10_takes_46 (by decide) ?_
    refine a_istore_n hB dX10_takes_47 (by decide) ?_
    refine a_iload_n hB dX10_takes_48 rfl ?_
    refine a_iconstN (v := 0) hB dX10_takes_49 (by decide) ?_
    refine a_bipushN (v := 9) hB dX10_takes_50 (by decide) ?_
    refine a_callSr hB (c_X10_within_n (Or.inr ((nI_ltI (by omega) (by omega)).mpr (by omega)))) mk_X10_within ml_X10_46 dX10_takes_52 rfl rfl [] rfl (by decide) (fit_of hR (by decide)) (Nat.le_of_ble_eq_true rfl) ?_
    refine a_if_eqN_t (tgt := 80) hB dX10_takes_55 (by decide) (by omega) (by omega) ?_
    refine a_iconstN (v := 0) hB dX10_takes_80 (by decide) ?_
    exact a_zret hB hE rfl (by decide) dX10_takes_81 (Nat.le_of_ble_eq_true rfl) (Nat.le_of_ble_eq_true rfl) (AKeep.of rfl) ⟨rfl, rfl⟩
  · refine a_iconstN (v := 1) hB dX10_takes_42 (by decide) ?_
    refine a_goto (tgt := 47) hB dX10_takes_43 (by decide) ?_
    refine a_istore_n hB dX10_takes_47 (by decide) ?_
    refine a_iload_n hB dX10_takes_48 rfl ?_
    refine a_iconstN (v := 0) hB dX10_takes_49 (by decide) ?_
    refine a_bipushN (v := 9) hB dX10_takes_50 (by decide) ?_
    refine a_callSr hB (c_X10_within_n (Or.inr ((nI_ltI (by omega) (by omega)).mpr (by omega)))) mk_X10_within ml_X10_46 dX10_takes_52 rfl rfl [] rfl (by decide) (fit_of hR (by decide)) (Nat.le_of_ble_eq_true rfl) ?_
    refine a_if_eqN_t (tgt := 80) hB dX10_takes_55 (by decide) (by omega) (by omega) ?_
    refine a_iconstN (v := 0) hB dX10_takes_80 (by decide) ?_
    exact a_zret hB hE rfl (by decide) dX10_takes_81 (Nat.le_of_ble_eq_true rfl) (Nat.le_of_ble_eq_true rfl) (AKeep.of rfl) ⟨rfl, rfl⟩
set_option maxHeartbeats 4000000 in
set_option maxRecDepth 100000 in
theorem c_X10_takes_x4 {G : GP} {ma z : Nat → Nat} {sf : Nat → UInt64} {st : Nat} {hh : Nat → Nat} {sh : Nat → UInt64} {len : Nat} {tx : Nat → Nat} {th : Nat} {wy mo td : Nat → Nat} {re lo to : Nat} {rw : Nat → Nat} {ha : Int64} {c : Nat} (h1 : 48 ≤ c) (h2 : c ≤ 57) (hlo : lo = 6) : AMd G sX10_takes [.ref (ma 0), .int (nI c)] (wM G ma z sf st hh sh len tx th wy mo td re lo to rw ha) (some (.int (nI 0))) (wM G ma z sf st hh sh len tx th wy mo td re lo to rw ha) := by
  refine AM.of (σ := sX10_takes) (by decide +kernel) (by decide +kernel) (Nat.le_of_ble_eq_true rfl) (fun B hB hR hE0 hN => ?_)
  have hE := BE.of hE0
  refine a_iload_n hB dX10_takes_0 rfl ?_
  refine a_bipushN (v := 59) hB dX10_takes_1 (by decide) ?_
  refine a_icmp_neN_t (tgt := 29) hB dX10_takes_3 (by decide) (by omega) (by omega) (by omega) ?_
  refine a_iload_n hB dX10_takes_29 rfl ?_
  refine a_bipushN (v := 48) hB dX10_takes_30 (by decide) ?_
  refine a_isubN hB dX10_takes_32 (by omega) ?_
  refine a_istore_n hB dX10_takes_33 (by decide) ?_
  refine a_aload_n hB dX10_takes_34 rfl ?_
  refine a_get (T := TX10) (ci := 10) hB dX10_takes_35 12 fl_X10_132 lay_X10 rfl (by decide) rfl 0 rfl rfl ?_
  refine a_iconstN (v := 5) hB dX10_takes_38 (by decide) ?_
  refine a_icmp_neN_t (tgt := 46) hB dX10_takes_39 (by decide) (by omega) (by omega) (by omega) ?_
  refine a_iconstN (v := 0) hB dX10_takes_46 (by decide) ?_
  refine a_istore_n hB dX10_takes_47 (by decide) ?_
  refine a_iload_n hB dX10_takes_48 rfl ?_
  refine a_iconstN (v := 0) hB dX10_takes_49 (by decide) ?_
  refine a_bipushN (v := 9) hB dX10_takes_50 (by decide) ?_
  refine a_callSr hB (c_X10_within_N (by omega) (by omega) (by omega)) mk_X10_within ml_X10_46 dX10_takes_52 rfl rfl [] rfl (by decide) (fit_of hR (by decide)) (Nat.le_of_ble_eq_true rfl) ?_
  refine a_if_eqN_f (tgt := 80) hB dX10_takes_55 (by decide) (by omega) (by omega) ?_
  refine a_aload_n hB dX10_takes_58 rfl ?_
  refine a_get (T := TX10) (ci := 10) hB dX10_takes_59 12 fl_X10_132 lay_X10 rfl (by decide) rfl 0 rfl rfl ?_
  refine a_bipushN (v := 6) hB dX10_takes_62 (by decide) ?_
  refine a_icmp_eqN_t (tgt := 80) hB dX10_takes_64 (by decide) (by omega) (by omega) (by omega) ?_
  refine a_iconstN (v := 0) hB dX10_takes_80 (by decide) ?_
  exact a_zret hB hE rfl (by decide) dX10_takes_81 (Nat.le_of_ble_eq_true rfl) (Nat.le_of_ble_eq_true rfl) (AKeep.of rfl) ⟨rfl, rfl⟩
set_option maxHeartbeats 4000000 in
set_option maxRecDepth 100000 in
theorem c_X10_takes_x5 {G : GP} {ma z : Nat → Nat} {sf : Nat → UInt64} {st : Nat} {hh : Nat → Nat} {sh : Nat → UInt64} {len : Nat} {tx : Nat → Nat} {th : Nat} {wy mo td : Nat → Nat} {re lo to : Nat} {rw : Nat → Nat} {ha : Int64} {c : Nat} (h1 : 48 ≤ c) (h2 : c ≤ 57) (hlo : lo = 5) (h0 : to + (c - 48) = 0) : AMd G sX10_takes [.ref (ma 0), .int (nI c)] (wM G ma z sf st hh sh len tx th wy mo td re lo to rw ha) (some (.int (nI 0))) (wM G ma z sf st hh sh len tx th wy mo td re lo to rw ha) := by
  refine AM.of (σ := sX10_takes) (by decide +kernel) (by decide +kernel) (Nat.le_of_ble_eq_true rfl) (fun B hB hR hE0 hN => ?_)
  have hE := BE.of hE0
  refine a_iload_n hB dX10_takes_0 rfl ?_
  refine a_bipushN (v := 59) hB dX10_takes_1 (by decide) ?_
  refine a_icmp_neN_t (tgt := 29) hB dX10_takes_3 (by decide) (by omega) (by omega) (by omega) ?_
  refine a_iload_n hB dX10_takes_29 rfl ?_
  refine a_bipushN (v := 48) hB dX10_takes_30 (by decide) ?_
  refine a_isubN hB dX10_takes_32 (by omega) ?_
  refine a_istore_n hB dX10_takes_33 (by decide) ?_
  refine a_aload_n hB dX10_takes_34 rfl ?_
  refine a_get (T := TX10) (ci := 10) hB dX10_takes_35 12 fl_X10_132 lay_X10 rfl (by decide) rfl 0 rfl rfl ?_
  refine a_iconstN (v := 5) hB dX10_takes_38 (by decide) ?_
  refine a_icmp_neN_f (tgt := 46) hB dX10_takes_39 (by decide) (by omega) (by omega) (by omega) ?_
  refine a_iconstN (v := 1) hB dX10_takes_42 (by decide) ?_
  refine a_goto (tgt := 47) hB dX10_takes_43 (by decide) ?_
  refine a_istore_n hB dX10_takes_47 (by decide) ?_
  refine a_iload_n hB dX10_takes_48 rfl ?_
  refine a_iconstN (v := 0) hB dX10_takes_49 (by decide) ?_
  refine a_bipushN (v := 9) hB dX10_takes_50 (by decide) ?_
  refine a_callSr hB (c_X10_within_N (by omega) (by omega) (by omega)) mk_X10_within ml_X10_46 dX10_takes_52 rfl rfl [] rfl (by decide) (fit_of hR (by decide)) (Nat.le_of_ble_eq_true rfl) ?_
  refine a_if_eqN_f (tgt := 80) hB dX10_takes_55 (by decide) (by omega) (by omega) ?_
  refine a_aload_n hB dX10_takes_58 rfl ?_
  refine a_get (T := TX10) (ci := 10) hB dX10_takes_59 12 fl_X10_132 lay_X10 rfl (by decide) rfl 0 rfl rfl ?_
  refine a_bipushN (v := 6) hB dX10_takes_62 (by decide) ?_
  refine a_icmp_eqN_f (tgt := 80) hB dX10_takes_64 (by decide) (by omega) (by omega) (by omega) ?_
  refine a_iload_n hB dX10_takes_67 rfl ?_
  refine a_if_eqN_f (tgt := 82) hB dX10_takes_68 (by decide) (by omega) (by omega) ?_
  refine a_aload_n hB dX10_takes_71 rfl ?_
  refine a_get (T := TX10) (ci := 10) hB dX10_takes_72 13 fl_X10_135 lay_X10 rfl (by decide) rfl 0 rfl rfl ?_
  refine a_iload_n hB dX10_takes_75 rfl ?_
  refine a_iaddN hB dX10_takes_76 ?_
  refine a_if_neN_f (tgt := 82) hB dX10_takes_77 (by decide) (by omega) (by omega) ?_
  refine a_iconstN (v := 0) hB dX10_takes_80 (by decide) ?_
  exact a_zret hB hE rfl (by decide) dX10_takes_81 (Nat.le_of_ble_eq_true rfl) (Nat.le_of_ble_eq_true rfl) (AKeep.of rfl) ⟨rfl, rfl⟩
theorem c_X10_takes {G : GP} {ma z : Nat → Nat} {sf : Nat → UInt64} {st : Nat} {hh : Nat → Nat} {sh : Nat → UInt64} {len : Nat} {tx : Nat → Nat} {th : Nat} {wy mo td : Nat → Nat} {re lo to : Nat} {rw : Nat → Nat} {ha : Int64} {c : Nat} (h3 : c ≤ 126) (hlo : lo ≤ 6) (hto : to ≤ 54) (hre : re ≤ 30) : AMd G sX10_takes [.ref (ma 0), .int (nI c)] (wM G ma z sf st hh sh len tx th wy mo td re lo to rw ha) (some (.int (nI (mtA (td, re, lo, to) c)))) (wM G ma z sf st hh sh len tx th wy mo (mtS (td, re, lo, to) c).1 (mtS (td, re, lo, to) c).2.1 (mtS (td, re, lo, to) c).2.2.1 (mtS (td, re, lo, to) c).2.2.2 rw ha) := by
  by_cases q9 : c = 59
  · subst q9
    by_cases q : to = 0
    · have e : mtA (td, re, lo, to) 59 = 0 := if_pos q
      rw [mtS_0 e, e]; exact c_X10_takes_x3 q hlo
    · have e : mtA (td, re, lo, to) 59 = 1 := if_neg q
      rw [mtS_n (by rw [e]; decide), e]; exact c_X10_takes_n (by omega) (by omega) hre
  · by_cases qd : 48 ≤ c ∧ c ≤ 57
    · by_cases q : lo = 6 ∨ (lo = 5 ∧ to + (c - 48) = 0)
      · have e : mtA (td, re, lo, to) c = 0 := by
          unfold mtA
          rw [if_neg q9, if_pos qd]
          exact if_pos q
        rw [mtS_0 e, e]
        rcases q with q | ⟨q, q2⟩
        · exact c_X10_takes_x4 qd.1 qd.2 q
        · exact c_X10_takes_x5 qd.1 qd.2 q q2
      · have e : mtA (td, re, lo, to) c = 1 := by
          unfold mtA
          rw [if_neg q9, if_pos qd]
          exact if_neg q
        rw [mtS_d (by rw [e]; decide) q9, e]
        exact c_X10_takes_d qd.1 qd.2 (by omega) (by omega) hto (by omega)
    · have e : mtA (td, re, lo, to) c = 0 := by
        unfold mtA
        rw [if_neg q9, if_neg qd]
      rw [mtS_0 e, e]
      by_cases q : c < 48
      · exact c_X10_takes_x1 q hlo
      · exact c_X10_takes_x2 (by omega) q9 h3 hlo
set_option maxHeartbeats 4000000 in
set_option maxRecDepth 100000 in
theorem c_X10_rightUpTo_r {G : GP} {ma z : Nat → Nat} {sf : Nat → UInt64} {st : Nat} {hh : Nat → Nat} {sh : Nat → UInt64} {len : Nat} {tx : Nat → Nat} {th : Nat} {wy mo td : Nat → Nat} {re lo to : Nat} {rw : Nat → Nat} {ha : Int64} {r : Nat} (hl : len ≤ 60) (hcs : ∀ i, i < len → tx i ≤ 126) (hr : r ≤ len) (h0 : ∀ i, i < r → ¬ mtA (mtK td tx i) (tx i) = 0) (hz : r < len → mtA (mtK td tx r) (tx r) = 0) : AMd G sX10_rightUpTo [.ref (ma 0)] (wM G ma z sf st hh sh len tx th wy mo td re lo to rw ha) (some (.int (nI r))) (wM G ma z sf st hh sh len tx th wy mo (mtK td tx (r)).1 (mtK td tx (r)).2.1 (mtK td tx (r)).2.2.1 (mtK td tx (r)).2.2.2 rw ha) := by
  refine AM.of (σ := sX10_rightUpTo) (by decide +kernel) (by decide +kernel) (Nat.le_of_ble_eq_true rfl) (fun B hB hR hE0 hN => ?_)
  have hE := BE.of hE0
  refine a_aload_n hB dX10_rightUpTo_0 rfl ?_
  refine a_iconstN (v := 0) hB dX10_rightUpTo_1 (by decide) ?_
  refine a_put (T := TX10) (ci := 10) hB dX10_rightUpTo_2 11 fl_X10_129 lay_X10 tyX10 tyX10_ok nmX10 rfl (by decide) rfl rfl 0 rfl rfl rfl rfl (Nat.le_of_ble_eq_true rfl) ?_
  refine a_aload_n hB dX10_rightUpTo_5 rfl ?_
  refine a_callVd (w2 := wM G ma z sf st hh sh len tx th wy mo (bgT td 0 6) 0 0 0 rw ha) (q0 := 0) hB (c_X10_beginPart (re := 0) (by omega)) mk_X10_beginPart ml_X10_138 dX10_rightUpTo_6 rfl rfl [0, 1, 2, 3, 4, 5, 6, 7, 8, 9] rfl (by decide) rfl rfl (fit_of hR (by decide)) (Nat.le_of_ble_eq_true rfl) (wput_all rfl rfl) ?_
  refine a_iconstN (v := 0) hB dX10_rightUpTo_9 (by decide) ?_
  refine a_istore_n hB dX10_rightUpTo_10 (by decide) ?_
  have lp11 : ∀ (j11 i : Nat), i + j11 = r → aW G sX10_rightUpTo B 11 [(0, .ref (ma 0)), (1, .int (nI i))] [] (wM G ma z sf st hh sh len tx th wy mo (mtK td tx (i)).1 (mtK td tx (i)).2.1 (mtK td tx (i)).2.2.1 (mtK td tx (i)).2.2.2 rw ha) 0 0 := by
    intro j11
    induction j11 with
    | zero =>
      intro i hi
      obtain rfl : i = r := by omega
      obtain ⟨v1, v2, v3⟩ := mtK_inv td tx i
      refine a_iload_n hB dX10_rightUpTo_11 rfl ?_
      refine a_aload_n hB dX10_rightUpTo_12 rfl ?_
      refine a_get (T := TX10) (ci := 10) hB dX10_rightUpTo_13 5 fl_X10_126 lay_X10 rfl (by decide) rfl 0 rfl rfl ?_
      refine a_icmp_geN (tgt := 38) hB dX10_rightUpTo_16 (by decide) (by omega) (by omega) (fun c16 => ?_) (fun c16 => ?_)
      · refine a_iload_n hB dX10_rightUpTo_38 rfl ?_
        exact a_iret hB hE rfl dX10_rightUpTo_39 (Nat.le_of_ble_eq_true rfl) (Nat.le_of_ble_eq_true rfl) (AKeep.of rfl) ⟨rfl, rfl⟩
      · refine a_aload_n hB dX10_rightUpTo_19 rfl ?_
        refine a_aload_n hB dX10_rightUpTo_20 rfl ?_
        refine a_get (T := TX10) (ci := 10) hB dX10_rightUpTo_21 6 fl_X10_23 lay_X10 rfl (by decide) rfl 0 rfl rfl ?_
        refine a_iload_n hB dX10_rightUpTo_24 rfl ?_
        refine a_ialoadN hB dX10_rightUpTo_25 5 rfl (by omega) (by decide) ?_
        refine a_callVd (w2 := wM G ma z sf st hh sh len tx th wy mo (mtS (mtK td tx i) (tx i)).1 (mtS (mtK td tx i) (tx i)).2.1 (mtS (mtK td tx i) (tx i)).2.2.1 (mtS (mtK td tx i) (tx i)).2.2.2 rw ha) (q0 := 0) hB (c_X10_takes (td := (mtK td tx i).1) (re := (mtK td tx i).2.1) (lo := (mtK td tx i).2.2.1) (to := (mtK td tx i).2.2.2) (hcs i (by omega)) v1 (by omega) (by omega)) mk_X10_takes ml_X10_141 dX10_rightUpTo_26 rfl rfl [0, 1, 2, 3, 4, 5, 6, 7, 8, 9] rfl (by decide) rfl rfl (fit_of hR (by decide)) (Nat.le_of_ble_eq_true rfl) (wput_all rfl rfl) ?_
        have z9 : mtA (mtK td tx i) (tx i) = 0 := hz (by omega)
        rw [mtS_0 z9]
        refine a_if_eqN_t (tgt := 38) hB dX10_rightUpTo_29 (by decide) (by show mtA (mtK td tx i) (tx i) < 2 ^ 31; omega) z9 ?_
        refine a_iload_n hB dX10_rightUpTo_38 rfl ?_
        exact a_iret hB hE rfl dX10_rightUpTo_39 (Nat.le_of_ble_eq_true rfl) (Nat.le_of_ble_eq_true rfl) (AKeep.of rfl) ⟨rfl, rfl⟩
    | succ j11 ih11 =>
      intro i hi
      obtain ⟨v1, v2, v3⟩ := mtK_inv td tx i
      refine a_iload_n hB dX10_rightUpTo_11 rfl ?_
      refine a_aload_n hB dX10_rightUpTo_12 rfl ?_
      refine a_get (T := TX10) (ci := 10) hB dX10_rightUpTo_13 5 fl_X10_126 lay_X10 rfl (by decide) rfl 0 rfl rfl ?_
      refine a_icmp_geN_f (tgt := 38) hB dX10_rightUpTo_16 (by decide) (by omega) (by omega) (by omega) ?_
      refine a_aload_n hB dX10_rightUpTo_19 rfl ?_
      refine a_aload_n hB dX10_rightUpTo_20 rfl ?_
      refine a_get (T := TX10) (ci := 10) hB dX10_rightUpTo_21 6 fl_X10_23 lay_X10 rfl (by decide) rfl 0 rfl rfl ?_
      refine a_iload_n hB dX10_rightUpTo_24 rfl ?_
      refine a_ialoadN hB dX10_rightUpTo_25 5 rfl (by omega) (by decide) ?_
      refine a_callVd (w2 := wM G ma z sf st hh sh len tx th wy mo (mtS (mtK td tx i) (tx i)).1 (mtS (mtK td tx i) (tx i)).2.1 (mtS (mtK td tx i) (tx i)).2.2.1 (mtS (mtK td tx i) (tx i)).2.2.2 rw ha) (q0 := 0) hB (c_X10_takes (td := (mtK td tx i).1) (re := (mtK td tx i).2.1) (lo := (mtK td tx i).2.2.1) (to := (mtK td tx i).2.2.2) (hcs i (by omega)) v1 (by omega) (by omega)) mk_X10_takes ml_X10_141 dX10_rightUpTo_26 rfl rfl [0, 1, 2, 3, 4, 5, 6, 7, 8, 9] rfl (by decide) rfl rfl (fit_of hR (by decide)) (Nat.le_of_ble_eq_true rfl) (wput_all rfl rfl) ?_
      have z9 := h0 i (by omega)
      have z8 := mtA_le (mtK td tx i) (tx i)
      refine a_if_eqN_f (tgt := 38) hB dX10_rightUpTo_29 (by decide) (by show mtA (mtK td tx i) (tx i) < 2 ^ 31; omega) z9 ?_
      refine a_iincN (b := 1) hB dX10_rightUpTo_32 rfl (by decide) (by decide) ?_
      refine a_goto (tgt := 11) hB dX10_rightUpTo_35 (by decide) ?_
      exact aW_at [0, 1] rfl rfl rfl (ih11 (i + 1) (by omega))
  exact aW_at [0, 1] rfl rfl rfl (lp11 (r) 0 (by omega))
