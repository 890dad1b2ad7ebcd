/-- (hidden from omega, which compares such numbers by unfolding them) -/
def Hid (p : Prop) : Prop := p
theorem dg2_0 (P : PV) (h : Int64) : dg2 P h 0 = h := rfl
theorem dg3_0 (P : PV) (h : Int64) : dg3 P h 0 = h := rfl
theorem dg4_0 (P : PV) (h : Int64) : dg4 P h 0 = h := rfl
theorem dg5_0 (cs : Nat → Nat) (h : Int64) : dg5 cs h 0 = h := rfl
theorem dg0_z {z : Nat → Nat} {sf : Nat → UInt64} {st : Nat} : dg4 (ZP z sf) (dg3 (ZP z sf) (dg2 (ZP z sf) (dg1 (ZP z sf) st 9) (z 0)) 3) 7 = dg0 (ZP z sf) st := by
  unfold dg0
  exact congrArg (fun n => dg4 (ZP z sf) (dg3 (ZP z sf) (dg2 (ZP z sf) (dg1 (ZP z sf) st 9) n) 3) 7) (show z 0 = (ZP z sf).parts from rfl)
theorem vDig_eq (P : PV) (num len : Nat) (cs : Nat → Nat) : vDig P num len cs = dg5 cs (hsh (hsh (hsh (hsh (hsh (dg0 P num) (vO P (-1) 5).toInt64) (vG P 1).toInt64) (nI (vF P 100)).toInt64) (vSl P).toInt64) (lN len)) len := by
  unfold vDig dgT
  rfl
set_option maxHeartbeats 4000000 in
set_option maxRecDepth 100000 in
theorem dig_164 {G : GP} {ma z : Nat → Nat} {sf : Nat → UInt64} {st : Nat} {hh : Nat → Nat} {sh : Nat → UInt64} {len : Nat} {tx : Nat → Nat} {th : Nat} {wy mo td : Nat → Nat} {re lo to : Nat} {rw : Nat → Nat} {ha : Int64} {t5 : Int64}  {B : Bd} (hB : Bok G sX10_digest B) (hR : B.room sX10_digest 0 0) {ws0 : va_W} {VR : Int64} (hE : BE G B ws0 0 0 (fun rv w => rv = some (.long VR) ∧ ∃ (wy mo rw : Nat → Nat), w = wM G ma z sf st hh sh len tx 0 wy mo td re lo to rw VR)) (hk0 : ∀ (w1 m1 r1 : Nat → Nat) (h1 : Int64), AKeep ws0 (wM G ma z sf st hh sh len tx 0 w1 m1 td re lo to r1 h1)) (hlen : len ≤ 60) (htx : ∀ i, i < len → tx i < 2 ^ 31) (hV : dg5 tx (hsh t5 (lN len)) len = VR) : aW G sX10_digest B 164 [(0, .ref (ma 0))] [] (wM G ma z sf st hh sh len tx 0 wy mo td re lo to rw t5) 0 0 := by
  refine a_aload_n hB dX10_digest_164 rfl ?_
  refine a_aload_n hB dX10_digest_165 rfl ?_
  refine a_get (T := TX10) (ci := 10) hB dX10_digest_166 5 fl_X10_126 lay_X10 rfl (by decide) rfl 0 rfl rfl ?_
  refine a_i2lN hB dX10_digest_169 (by omega) ?_
  refine a_callVd (w2 := wM G ma z sf st hh sh len tx 0 wy mo td re lo to rw (hsh t5 (lN len))) (q0 := 0) hB (c_X10_mix) mk_X10_mix ml_X10_215 dX10_digest_170 rfl rfl [0, 1, 2, 3, 4, 5, 6, 7, 8, 9] rfl (by decide) rfl rfl (fit_of hR (by decide)) (Nat.le_of_ble_eq_true rfl) (wput_all rfl rfl) ?_
  show aW G sX10_digest B 173 _ _ _ _ _
  refine aW_s (st' := []) rfl ?_
  generalize e173 : hsh t5 (lN len) = t6
  refine a_iconstN (v := 0) hB dX10_digest_173 (by decide) ?_
  refine a_istore_n hB dX10_digest_174 (by decide) ?_
  have lp175 : ∀ (j175 i : Nat) (wy mo rw : Nat → Nat), i + j175 = len → aW G sX10_digest B 175 [(0, .ref (ma 0)), (1, .int (nI (i)))] [] (wM G ma z sf st hh sh len tx 0 wy mo td re lo to rw (dg5 tx t6 i)) 0 0 := by
    intro j175
    induction j175 with
    | zero =>
      intro i wy mo rw hi
      refine a_iload_n hB dX10_digest_175 rfl ?_
      refine a_aload_n hB dX10_digest_176 rfl ?_
      refine a_get (T := TX10) (ci := 10) hB dX10_digest_177 5 fl_X10_126 lay_X10 rfl (by decide) rfl 0 rfl rfl ?_
      refine a_icmp_geN_t (tgt := 200) hB dX10_digest_180 (by decide) (by omega) (by omega) (by omega) ?_
      refine a_aload_n hB dX10_digest_200 rfl ?_
      refine a_get (T := TX10) (ci := 10) hB dX10_digest_201 15 fl_X10_211 lay_X10 rfl (by decide) rfl 0 rfl rfl ?_
      exact a_lret hB hE rfl dX10_digest_204 (Nat.le_of_ble_eq_true rfl) (Nat.le_of_ble_eq_true rfl) (hk0 _ _ _ _) ⟨by rw [show i = len by omega, ← hV, e173], _, _, _, by rw [show i = len by omega, ← hV, e173]⟩
    | succ j175 ih175 =>
      intro i wy mo rw hi
      refine a_iload_n hB dX10_digest_175 rfl ?_
      refine a_aload_n hB dX10_digest_176 rfl ?_
      refine a_get (T := TX10) (ci := 10) hB dX10_digest_177 5 fl_X10_126 lay_X10 rfl (by decide) rfl 0 rfl rfl ?_
      refine a_icmp_geN_f (tgt := 200) hB dX10_digest_180 (by decide) (by omega) (by omega) (by omega) ?_
      refine a_aload_n hB dX10_digest_183 rfl ?_
      refine a_aload_n hB dX10_digest_184 rfl ?_
      refine a_get (T := TX10) (ci := 10) hB dX10_digest_185 6 fl_X10_23 lay_X10 rfl (by decide) rfl 0 rfl rfl ?_
      refine a_iload_n hB dX10_digest_188 rfl ?_
      refine a_ialoadN hB dX10_digest_189 5 rfl (by omega) (by decide) ?_
      refine a_i2lN hB dX10_digest_190 (htx i (by omega)) ?_
      refine a_callVd (w2 := wM G ma z sf st hh sh len tx 0 wy mo td re lo to rw (hsh (dg5 tx t6 i) (lN (tx i)))) (q0 := 0) hB (c_X10_mix) mk_X10_mix ml_X10_215 dX10_digest_191 rfl rfl [0, 1, 2, 3, 4, 5, 6, 7, 8, 9] rfl (by decide) rfl rfl (fit_of hR (by decide)) (Nat.le_of_ble_eq_true rfl) (wput_all rfl rfl) ?_
      refine a_iincN (b := 1) hB dX10_digest_194 rfl (by decide) (by decide) ?_
      refine a_goto (tgt := 175) hB dX10_digest_197 (by decide) ?_
      exact aW_at [0, 1] rfl rfl rfl (ih175 (i + 1) wy mo rw (by omega))
  exact aW_at [0, 1] rfl rfl (by rw [dg5_0]) (lp175 (len) 0 wy mo rw (by omega))
set_option maxHeartbeats 4000000 in
set_option maxRecDepth 100000 in
theorem dig_155 {G : GP} {ma z : Nat → Nat} {sf : Nat → UInt64} {st : Nat} {hh : Nat → Nat} {sh : Nat → UInt64} {len : Nat} {tx : Nat → Nat} {th : Nat} {wy mo td : Nat → Nat} {re lo to : Nat} {rw : Nat → Nat} {ha : Int64} {t4 : Int64} {vs9 : Int32}  {B : Bd} (hB : Bok G sX10_digest B) (hR : B.room sX10_digest 0 0) {ws0 : va_W} {VR : Int64} (hE : BE G B ws0 0 0 (fun rv w => rv = some (.long VR) ∧ ∃ (wy mo rw : Nat → Nat), w = wM G ma z sf st hh sh len tx 0 wy mo td re lo to rw VR)) (hk0 : ∀ (w1 m1 r1 : Nat → Nat) (h1 : Int64), AKeep ws0 (wM G ma z sf st hh sh len tx 0 w1 m1 td re lo to r1 h1)) (hlen : len ≤ 60) (htx : ∀ i, i < len → tx i < 2 ^ 31) (h6 : z 0 ≤ 6) (hw : ∀ p, p < z 0 → ∀ l, l < 6 → gt (wq z) p l < 2 ^ 31) (hl : z 1 ≤ 99) (hoi : ∀ i, i < z 0 → oddOK (cnt (ZP z sf) (nI i)) (z 1)) (h0i : ∀ i, i < z 0 → ¬ wfrom (cnt (ZP z sf) (nI i)) 0 = 0) (hS : (slM (ZP z sf) (z 0)).1 = vSl (ZP z sf)) (hvs : vs9 = vSl (ZP z sf)) (hV : dg5 tx (hsh (hsh t4 vs9.toInt64) (lN len)) len = VR) : aW G sX10_digest B 155 [(0, .ref (ma 0))] [] (wM G ma z sf st hh sh len tx 0 wy mo td re lo to rw t4) 0 0 := by
  refine a_aload_n hB dX10_digest_155 rfl ?_
  refine a_aload_n hB dX10_digest_156 rfl ?_
  refine a_callV (q0 := 0) hB (c_X10_slightestNow h6 hw hl hoi h0i hS) mk_X10_slightestNow ml_X10_206 dX10_digest_157 rfl rfl [0, 1, 2, 3, 4, 5, 6, 7, 8, 9] rfl (by decide) rfl rfl (fit_of hR (by decide)) (Nat.le_of_ble_eq_true rfl) (fun v157 w157 hq157 hk157 => ?_)
  obtain ⟨rfl, wy, mo, rw, rfl⟩ := hq157
  refine aW_w (ws' := wM G ma z sf st hh sh len tx 0 wy mo td re lo to rw t4) (wput_all rfl rfl) ?_
  rw [← hvs]
  refine a_i2l hB dX10_digest_160 ?_
  refine a_callVd (w2 := wM G ma z sf st hh sh len tx 0 wy mo td re lo to rw (hsh t4 vs9.toInt64)) (q0 := 0) hB (c_X10_mix) mk_X10_mix ml_X10_215 dX10_digest_161 rfl rfl [0, 1, 2, 3, 4, 5, 6, 7, 8, 9] rfl (by decide) rfl rfl (fit_of hR (by decide)) (Nat.le_of_ble_eq_true rfl) (wput_all rfl rfl) ?_
  show aW G sX10_digest B 164 _ _ _ _ _
  refine aW_s (st' := []) rfl ?_
  exact dig_164 (ma := ma) (th := th) (ha := ha) (t5 := hsh t4 vs9.toInt64) hB hR hE hk0 hlen htx hV
set_option maxHeartbeats 4000000 in
set_option maxRecDepth 100000 in
theorem c_X10_digest {G : GP} {ma z : Nat → Nat} {sf : Nat → UInt64} {st : Nat} {hh : Nat → Nat} {sh : Nat → UInt64} {len : Nat} {tx : Nat → Nat} {th : Nat} {wy mo td : Nat → Nat} {re lo to : Nat} {rw : Nat → Nat} {ha : Int64} (h6 : z 0 ≤ 6) (hw : ∀ p l, p < 6 → l < 6 → gt (wq z) p l ≤ 9) (ht : ∀ p l, p < 6 → l < 6 → gt (tq z) p l ≤ 99) (hl : z 1 ≤ 99) (hpos : ∀ p, p < z 0 → ∃ l, l < 6 ∧ 0 < gt (wq z) p l) (hn : z 3 < 2 ^ 31) (hlen : len ≤ 60) (htx : ∀ i, i < len → tx i < 2 ^ 31) (hm : (ZP z sf).mOK) (h0 : Hid (¬ wfrom (cnt (ZP z sf) (-1)) 0 = 0)) (he : (z 3 = 0 → Op.cmpValue (FP.dcmp (sf 2) FP.dconst0) .l ≤ 0) ∧ (¬ z 3 = 0 → ¬ Op.cmpValue (FP.dcmp (sf 2) FP.dconst0) .l ≤ 0)) (hc : (ZP z sf).crOK) (hoi : ∀ i, i < z 0 → oddOK (cnt (ZP z sf) (nI i)) (z 1)) (h0i : ∀ i, i < z 0 → ¬ wfrom (cnt (ZP z sf) (nI i)) 0 = 0) (ho5 : oddOK (cnt (ZP z sf) (-1)) 5) (hb : ∀ s, wfrom (cnt (ZP z sf) (-1)) s ≤ 24794911296) (h99 : Hid (wfrom (cnt (ZP z sf) (-1)) 99 = 0)) (hnn : ∀ k, k ≤ 6 → Op.cmpValue (FP.dcmp (vM (ZP z sf) k) (vM (ZP z sf) k)) .l = 0) (hn5 : Op.cmpValue (FP.dcmp (vO (ZP z sf) (-1) 5) (vO (ZP z sf) (-1) 5)) .l = 0) (hnG : Op.cmpValue (FP.dcmp (vG (ZP z sf) 1) (vG (ZP z sf) 1)) .l = 0) (hG : mxR (ZP z sf) 1 (6 ^ z 0 - 1) = vG (ZP z sf) 1) (hS : (slM (ZP z sf) (z 0)).1 = vSl (ZP z sf)) : AM G sX10_digest 0 0 [.ref (ma 0)] (wM G ma z sf st hh sh len tx th wy mo td re lo to rw ha) (fun rv w => rv = some (.long (vDig (ZP z sf) st len tx)) ∧ ∃ (wy mo rw : Nat → Nat), w = wM G ma z sf st hh sh len tx 0 wy mo td re lo to rw (vDig (ZP z sf) st len tx)) := by
  refine AM.of (σ := sX10_digest) (by decide +kernel) (by decide +kernel) (Nat.le_of_ble_eq_true rfl) (fun B hB hR hE0 hN => ?_)
  have hE := BE.of hE0
  obtain ⟨vo9, hvo⟩ : ∃ x, x = vO (ZP z sf) (-1) 5 := ⟨_, rfl⟩
  obtain ⟨vg9, hvg⟩ : ∃ x, x = vG (ZP z sf) 1 := ⟨_, rfl⟩
  obtain ⟨vf9, hvf⟩ : ∃ x, x = vF (ZP z sf) 100 := ⟨_, rfl⟩
  obtain ⟨vs9, hvs⟩ : ∃ x, x = vSl (ZP z sf) := ⟨_, rfl⟩
  rw [← hvo] at hn5
  rw [← hvg] at hnG
  have hw2 : ∀ p, p < z 0 → ∀ l, l < 6 → gt (wq z) p l < 2 ^ 31 := fun p hp l hl2 => Nat.lt_of_le_of_lt (hw p l (by omega) hl2) (by decide)
  refine a_aload_n hB dX10_digest_0 rfl ?_
  refine a_iconstN (v := 0) hB dX10_digest_1 (by decide) ?_
  refine a_put (T := TX10) (ci := 10) hB dX10_digest_2 7 fl_X10_39 lay_X10 tyX10 tyX10_ok nmX10 rfl (by decide) rfl rfl 0 rfl rfl rfl rfl (Nat.le_of_ble_eq_true rfl) ?_
  refine a_aload_n hB dX10_digest_5 rfl ?_
  refine a_ldc2N (v := 2657) hB dX10_digest_6 kk_X10_219 (by decide) ?_
  refine a_put (T := TX10) (ci := 10) hB dX10_digest_9 15 fl_X10_211 lay_X10 tyX10 tyX10_ok nmX10 rfl (by decide) rfl rfl 0 rfl rfl rfl rfl (Nat.le_of_ble_eq_true rfl) ?_
  refine a_iconstN (v := 0) hB dX10_digest_12 (by decide) ?_
  refine a_istore_n hB dX10_digest_13 (by decide) ?_
  have lp14 : ∀ (j14 i : Nat) (wy mo rw : Nat → Nat), i + j14 = 9 → aW G sX10_digest B 14 [(0, .ref (ma 0)), (1, .int (nI (i)))] [] (wM G ma z sf st hh sh len tx 0 wy mo td re lo to rw (dg1 (ZP z sf) st i)) 0 0 := by
    intro j14
    induction j14 with
    | zero =>
      intro i wy mo rw hi
      refine a_iload_n hB dX10_digest_14 rfl ?_
      refine a_bipushN (v := 9) hB dX10_digest_15 (by decide) ?_
      refine a_icmp_geN_t (tgt := 36) hB dX10_digest_17 (by decide) (by omega) (by omega) (by omega) ?_
      refine a_iconstN (v := 0) hB dX10_digest_36 (by decide) ?_
      refine a_istore_n hB dX10_digest_37 (by decide) ?_
      have lp38 : ∀ (j38 i : Nat) (wy mo rw : Nat → Nat), i + j38 = z 0 → aW G sX10_digest B 38 [(0, .ref (ma 0)), (1, .int (nI (i)))] [] (wM G ma z sf st hh sh len tx 0 wy mo td re lo to rw (dg2 (ZP z sf) (dg1 (ZP z sf) st 9) i)) 0 0 := by
        intro j38
        induction j38 with
        | zero =>
          intro i wy mo rw hi
          refine a_iload_n hB dX10_digest_38 rfl ?_
          refine a_aload_n hB dX10_digest_39 rfl ?_
          refine a_get (T := TX10) (ci := 10) hB dX10_digest_40 0 fl_X10_7 lay_X10 rfl (by decide) rfl 0 rfl rfl ?_
          refine a_iconstN (v := 0) hB dX10_digest_43 (by decide) ?_
          refine a_ialoadN hB dX10_digest_44 1 rfl (by omega) (by decide) ?_
          refine a_icmp_geN_t (tgt := 59) hB dX10_digest_45 (by decide) (by omega) (by omega) (by omega) ?_
          refine a_iconstN (v := 0) hB dX10_digest_59 (by decide) ?_
          refine a_istore_n hB dX10_digest_60 (by decide) ?_
          have lp61 : ∀ (j61 i : Nat) (wy mo rw : Nat → Nat), i + j61 = 3 → aW G sX10_digest B 61 [(0, .ref (ma 0)), (1, .int (nI (5 * i)))] [] (wM G ma z sf st hh sh len tx 0 wy mo td re lo to rw (dg3 (ZP z sf) (dg2 (ZP z sf) (dg1 (ZP z sf) st 9) (z 0)) i)) 0 0 := by
            intro j61
            induction j61 with
            | zero =>
              intro i wy mo rw hi
              refine a_iload_n hB dX10_digest_61 rfl ?_
              refine a_bipushN (v := 15) hB dX10_digest_62 (by decide) ?_
              refine a_icmp_geN_t (tgt := 93) hB dX10_digest_64 (by decide) (by omega) (by omega) (by omega) ?_
              refine a_iconstN (v := 0) hB dX10_digest_93 (by decide) ?_
              refine a_istore_n hB dX10_digest_94 (by decide) ?_
              have lp95 : ∀ (j95 i : Nat) (wy mo rw : Nat → Nat), i + j95 = 7 → aW G sX10_digest B 95 [(0, .ref (ma 0)), (1, .int (nI (i)))] [] (wM G ma z sf st hh sh len tx 0 wy mo td re lo to rw (dg4 (ZP z sf) (dg3 (ZP z sf) (dg2 (ZP z sf) (dg1 (ZP z sf) st 9) (z 0)) 3) i)) 0 0 := by
                intro j95
                induction j95 with
                | zero =>
                  intro i wy mo rw hi
                  refine a_iload_n hB dX10_digest_95 rfl ?_
                  refine a_bipushN (v := 7) hB dX10_digest_96 (by decide) ?_
                  refine a_icmp_geN_t (tgt := 119) hB dX10_digest_98 (by decide) (by omega) (by omega) (by omega) ?_
                  refine aW_w (ws' := wM G ma z sf st hh sh len tx 0 wy mo td re lo to rw (dg0 (ZP z sf) st)) (by first | (rw [show i = 7 by omega, dg0_z]; done) | (rw [show i = 7 by omega, dg0_z]; rfl)) ?_
                  generalize e119 : dg0 (ZP z sf) st = t1
                  refine a_aload_n hB dX10_digest_119 rfl ?_
                  refine a_aload_n hB dX10_digest_120 rfl ?_
                  refine a_iconstN (v := 5) hB dX10_digest_121 (by decide) ?_
                  refine a_iconst (v := -1) hB dX10_digest_122 (by decide) ?_
                  refine a_callVd (w2 := wM G ma z sf st hh sh len tx 0 (cnF (wq z) (-1) wy (z 0)) mo td re lo to rw t1) (q0 := 0) hB (c_X10_odds (wo := -1) h6 hw2 (by omega) ho5 h0) mk_X10_oddsBy ml_X10_174 dX10_digest_123 rfl rfl [0, 1, 2, 3, 4, 5, 6, 7, 8, 9] rfl (by decide) rfl rfl (fit_of hR (by decide)) (Nat.le_of_ble_eq_true rfl) (wput_all rfl rfl) ?_
                  rw [← hvo]
                  refine a_callSr hB (c_J_bits hn5) mk_Jxe99ae_doubleToLongBits_ccdee ml_X10_224 dX10_digest_126 rfl rfl [] rfl (by decide) (fit_of hR (by decide)) (Nat.le_of_ble_eq_true rfl) ?_
                  refine a_callVd (w2 := wM G ma z sf st hh sh len tx 0 (cnF (wq z) (-1) wy (z 0)) mo td re lo to rw (hsh t1 vo9.toInt64)) (q0 := 0) hB (c_X10_mix) mk_X10_mix ml_X10_215 dX10_digest_129 rfl rfl [0, 1, 2, 3, 4, 5, 6, 7, 8, 9] rfl (by decide) rfl rfl (fit_of hR (by decide)) (Nat.le_of_ble_eq_true rfl) (wput_all rfl rfl) ?_
                  show aW G sX10_digest B 132 _ _ _ _ _
                  refine aW_s (st' := []) rfl ?_
                  generalize e132 : hsh t1 vo9.toInt64 = t2
                  refine a_aload_n hB dX10_digest_132 rfl ?_
                  refine a_aload_n hB dX10_digest_133 rfl ?_
                  refine a_iconstN (v := 1) hB dX10_digest_134 (by decide) ?_
                  refine a_callVd (w2 := wM G ma z sf st hh sh len tx 0 (cnF (wq z) (-1) wy (z 0)) mo td re lo to (RWf (z 0) 0 rw) t2) (q0 := 0) hB (c_X10_greatestNow (by omega) h6 hw hl hc) mk_X10_greatestNow ml_X10_203 dX10_digest_135 rfl rfl [0, 1, 2, 3, 4, 5, 6, 7, 8, 9] rfl (by decide) rfl rfl (fit_of hR (by decide)) (Nat.le_of_ble_eq_true rfl) (wput_all rfl rfl) ?_
                  rw [hG, ← hvg]
                  refine a_callSr hB (c_J_bits hnG) mk_Jxe99ae_doubleToLongBits_ccdee ml_X10_224 dX10_digest_138 rfl rfl [] rfl (by decide) (fit_of hR (by decide)) (Nat.le_of_ble_eq_true rfl) ?_
                  refine a_callVd (w2 := wM G ma z sf st hh sh len tx 0 (cnF (wq z) (-1) wy (z 0)) mo td re lo to (RWf (z 0) 0 rw) (hsh t2 vg9.toInt64)) (q0 := 0) hB (c_X10_mix) mk_X10_mix ml_X10_215 dX10_digest_141 rfl rfl [0, 1, 2, 3, 4, 5, 6, 7, 8, 9] rfl (by decide) rfl rfl (fit_of hR (by decide)) (Nat.le_of_ble_eq_true rfl) (wput_all rfl rfl) ?_
                  show aW G sX10_digest B 144 _ _ _ _ _
                  refine aW_s (st' := []) rfl ?_
                  generalize e144 : hsh t2 vg9.toInt64 = t3
                  refine a_aload_n hB dX10_digest_144 rfl ?_
                  refine a_aload_n hB dX10_digest_145 rfl ?_
                  refine a_bipushN (v := 100) hB dX10_digest_146 (by decide) ?_
                  refine a_callVd (w2 := wM G ma z sf st hh sh len tx 0 (cnF (wq z) (-1) (cnF (wq z) (-1) wy (z 0)) (z 0)) mo td re lo to (RWf (z 0) 0 rw) t3) (q0 := 0) hB (c_X10_limitNowV (wy := (cnF (wq z) (-1) wy (z 0))) h6 hw2 (by omega) hb h99) mk_X10_limitNow ml_X10_192 dX10_digest_148 rfl rfl [0, 1, 2, 3, 4, 5, 6, 7, 8, 9] rfl (by decide) rfl rfl (fit_of hR (by decide)) (Nat.le_of_ble_eq_true rfl) (wput_all rfl rfl) ?_
                  rw [← hvf]
                  refine a_i2l hB dX10_digest_151 ?_
                  refine a_callVd (w2 := wM G ma z sf st hh sh len tx 0 (cnF (wq z) (-1) (cnF (wq z) (-1) wy (z 0)) (z 0)) mo td re lo to (RWf (z 0) 0 rw) (hsh t3 (nI vf9).toInt64)) (q0 := 0) hB (c_X10_mix) mk_X10_mix ml_X10_215 dX10_digest_152 rfl rfl [0, 1, 2, 3, 4, 5, 6, 7, 8, 9] rfl (by decide) rfl rfl (fit_of hR (by decide)) (Nat.le_of_ble_eq_true rfl) (wput_all rfl rfl) ?_
                  show aW G sX10_digest B 155 _ _ _ _ _
                  refine aW_s (st' := []) rfl ?_
                  generalize e155 : hsh t3 (nI vf9).toInt64 = t4
                  exact aW_at [0] rfl rfl rfl (dig_155 (ma := ma) (th := th) (ha := ha) (t4 := t4) (vs9 := vs9) hB hR hE (fun _ _ _ _ => AKeep.of rfl) hlen htx h6 hw2 hl hoi h0i hS hvs (by rw [vDig_eq, ← hvo, ← hvg, ← hvf, ← hvs, e119, e132, e144, e155]))
                | succ j95 ih95 =>
                  intro i wy mo rw hi
                  refine a_iload_n hB dX10_digest_95 rfl ?_
                  refine a_bipushN (v := 7) hB dX10_digest_96 (by decide) ?_
                  refine a_icmp_geN_f (tgt := 119) hB dX10_digest_98 (by decide) (by omega) (by omega) (by omega) ?_
                  refine a_aload_n hB dX10_digest_101 rfl ?_
                  refine a_aload_n hB dX10_digest_102 rfl ?_
                  refine a_iload_n hB dX10_digest_103 rfl ?_
                  refine a_callV (q0 := 0) hB (c_X10_measured h6 hw2 hl hn hm h0 he (by omega)) mk_X10_measured ml_X10_186 dX10_digest_104 rfl rfl [0, 1, 2, 3, 4, 5, 6, 7, 8, 9] rfl (by decide) rfl rfl (fit_of hR (by decide)) (Nat.le_of_ble_eq_true rfl) (fun v104 w104 hq104 hk104 => ?_)
                  obtain ⟨rfl, wy, mo, rw, rfl⟩ := hq104
                  refine aW_w (ws' := wM G ma z sf st hh sh len tx 0 wy mo td re lo to rw (dg4 (ZP z sf) (dg3 (ZP z sf) (dg2 (ZP z sf) (dg1 (ZP z sf) st 9) (z 0)) 3) i)) (wput_all rfl rfl) ?_
                  refine a_callSr hB (c_J_bits (hnn i (by omega))) mk_Jxe99ae_doubleToLongBits_ccdee ml_X10_224 dX10_digest_107 rfl rfl [] rfl (by decide) (fit_of hR (by decide)) (Nat.le_of_ble_eq_true rfl) ?_
                  refine a_callVd (w2 := wM G ma z sf st hh sh len tx 0 wy mo td re lo to rw (hsh (dg4 (ZP z sf) (dg3 (ZP z sf) (dg2 (ZP z sf) (dg1 (ZP z sf) st 9) (z 0)) 3) i) (vM (ZP z sf) i).toInt64)) (q0 := 0) hB (c_X10_mix) mk_X10_mix ml_X10_215 dX10_digest_110 rfl rfl [0, 1, 2, 3, 4, 5, 6, 7, 8, 9] rfl (by decide) rfl rfl (fit_of hR (by decide)) (Nat.le_of_ble_eq_true rfl) (wput_all rfl rfl) ?_
                  refine a_iincN (b := 1) hB dX10_digest_113 rfl (by decide) (by decide) ?_
                  refine a_goto (tgt := 95) hB dX10_digest_116 (by decide) ?_
                  exact aW_at [0, 1] rfl rfl rfl (ih95 (i + 1) wy mo rw (by omega))
              exact aW_at [0, 1] rfl rfl (by first | (rw [show i = 3 by omega, dg4_0]; done) | (rw [show i = 3 by omega, dg4_0]; rfl)) (lp95 (7) 0 wy mo rw (by omega))
            | succ j61 ih61 =>
              intro i wy mo rw hi
              refine a_iload_n hB dX10_digest_61 rfl ?_
              refine a_bipushN (v := 15) hB dX10_digest_62 (by decide) ?_
              refine a_icmp_geN_f (tgt := 93) hB dX10_digest_64 (by decide) (by omega) (by omega) (by omega) ?_
              refine a_aload_n hB dX10_digest_67 rfl ?_
              refine a_aload_n hB dX10_digest_68 rfl ?_
              refine a_iload_n hB dX10_digest_69 rfl ?_
              refine a_iconstN (v := 0) hB dX10_digest_70 (by decide) ?_
              refine a_callVd (w2 := wM G ma z sf st hh sh len tx 0 (cnF (wq z) (-1) wy (z 0)) mo td re lo to rw (dg3 (ZP z sf) (dg2 (ZP z sf) (dg1 (ZP z sf) st 9) (z 0)) i)) (q0 := 0) hB (c_X10_waysNow_v h6 hw2 (by omega) (by omega)) mk_X10_waysNow ml_X10_160 dX10_digest_71 rfl rfl [0, 1, 2, 3, 4, 5, 6, 7, 8, 9] rfl (by decide) rfl rfl (fit_of hR (by decide)) (Nat.le_of_ble_eq_true rfl) (wput_all rfl rfl) ?_
              refine a_callVd (w2 := wM G ma z sf st hh sh len tx 0 (cnF (wq z) (-1) wy (z 0)) mo td re lo to rw (hsh (dg3 (ZP z sf) (dg2 (ZP z sf) (dg1 (ZP z sf) st 9) (z 0)) i) (lN (vW (ZP z sf) (5 * i) 0)))) (q0 := 0) hB (c_X10_mix) mk_X10_mix ml_X10_215 dX10_digest_74 rfl rfl [0, 1, 2, 3, 4, 5, 6, 7, 8, 9] rfl (by decide) rfl rfl (fit_of hR (by decide)) (Nat.le_of_ble_eq_true rfl) (wput_all rfl rfl) ?_
              refine a_aload_n hB dX10_digest_77 rfl ?_
              refine a_aload_n hB dX10_digest_78 rfl ?_
              refine a_iload_n hB dX10_digest_79 rfl ?_
              refine a_iconstN (v := 1) hB dX10_digest_80 (by decide) ?_
              refine a_callVd (w2 := wM G ma z sf st hh sh len tx 0 (cnF (wq z) (-1) (cnF (wq z) (-1) wy (z 0)) (z 0)) mo td re lo to rw (hsh (dg3 (ZP z sf) (dg2 (ZP z sf) (dg1 (ZP z sf) st 9) (z 0)) i) (lN (vW (ZP z sf) (5 * i) 0)))) (q0 := 0) hB (c_X10_waysNow_v (wy := (cnF (wq z) (-1) wy (z 0))) h6 hw2 (by omega) (by omega)) mk_X10_waysNow ml_X10_160 dX10_digest_81 rfl rfl [0, 1, 2, 3, 4, 5, 6, 7, 8, 9] rfl (by decide) rfl rfl (fit_of hR (by decide)) (Nat.le_of_ble_eq_true rfl) (wput_all rfl rfl) ?_
              refine a_callVd (w2 := wM G ma z sf st hh sh len tx 0 (cnF (wq z) (-1) (cnF (wq z) (-1) wy (z 0)) (z 0)) mo td re lo to rw (hsh (hsh (dg3 (ZP z sf) (dg2 (ZP z sf) (dg1 (ZP z sf) st 9) (z 0)) i) (lN (vW (ZP z sf) (5 * i) 0))) (lN (vW (ZP z sf) (5 * i) 1)))) (q0 := 0) hB (c_X10_mix) mk_X10_mix ml_X10_215 dX10_digest_84 rfl rfl [0, 1, 2, 3, 4, 5, 6, 7, 8, 9] rfl (by decide) rfl rfl (fit_of hR (by decide)) (Nat.le_of_ble_eq_true rfl) (wput_all rfl rfl) ?_
              refine a_iincN (b := 5) hB dX10_digest_87 rfl (by decide) (by decide) ?_
              refine a_goto (tgt := 61) hB dX10_digest_90 (by decide) ?_
              exact aW_at [0, 1] rfl rfl rfl (ih61 (i + 1) (cnF (wq z) (-1) (cnF (wq z) (-1) wy (z 0)) (z 0)) mo rw (by omega))
          exact aW_at [0, 1] rfl rfl (by first | (rw [show i = z 0 by omega, dg3_0]; done) | (rw [show i = z 0 by omega, dg3_0]; rfl)) (lp61 (3) 0 wy mo rw (by omega))
        | succ j38 ih38 =>
          intro i wy mo rw hi
          refine a_iload_n hB dX10_digest_38 rfl ?_
          refine a_aload_n hB dX10_digest_39 rfl ?_
          refine a_get (T := TX10) (ci := 10) hB dX10_digest_40 0 fl_X10_7 lay_X10 rfl (by decide) rfl 0 rfl rfl ?_
          refine a_iconstN (v := 0) hB dX10_digest_43 (by decide) ?_
          refine a_ialoadN hB dX10_digest_44 1 rfl (by omega) (by decide) ?_
          refine a_icmp_geN_f (tgt := 59) hB dX10_digest_45 (by decide) (by omega) (by omega) (by omega) ?_
          refine a_aload_n hB dX10_digest_48 rfl ?_
          refine a_iload_n hB dX10_digest_49 rfl ?_
          refine a_callVd (w2 := wM G ma z sf st hh sh len tx 0 wy (lkm (wq z) mo (z 0) 0 0) td re lo to rw (vHP (ZP z sf) i (dg2 (ZP z sf) (dg1 (ZP z sf) st 9) i))) (q0 := 0) hB (c_X10_mixPart h6 hw hl ht hpos hn (by omega)) mk_X10_mixPart ml_X10_221 dX10_digest_50 rfl rfl [0, 1, 2, 3, 4, 5, 6, 7, 8, 9] rfl (by decide) rfl rfl (fit_of hR (by decide)) (Nat.le_of_ble_eq_true rfl) (wput_all rfl rfl) ?_
          refine a_iincN (b := 1) hB dX10_digest_53 rfl (by decide) (by decide) ?_
          refine a_goto (tgt := 38) hB dX10_digest_56 (by decide) ?_
          exact aW_at [0, 1] rfl rfl rfl (ih38 (i + 1) wy (lkm (wq z) mo (z 0) 0 0) rw (by omega))
      exact aW_at [0, 1] rfl rfl (by first | (rw [show i = 9 by omega, dg2_0]; done) | (rw [show i = 9 by omega, dg2_0]; rfl)) (lp38 (z 0) 0 wy mo rw (by omega))
    | succ j14 ih14 =>
      intro i wy mo rw hi
      refine a_iload_n hB dX10_digest_14 rfl ?_
      refine a_bipushN (v := 9) hB dX10_digest_15 (by decide) ?_
      refine a_icmp_geN_f (tgt := 36) hB dX10_digest_17 (by decide) (by omega) (by omega) (by omega) ?_
      refine a_aload_n hB dX10_digest_20 rfl ?_
      refine a_aload_n hB dX10_digest_21 rfl ?_
      refine a_iload_n hB dX10_digest_22 rfl ?_
      refine a_callVd (w2 := wM G ma z sf st hh sh len tx 0 wy (if i = 7 then (lkm (wq z) mo (z 0) 0 0) else mo) td re lo to rw (dg1 (ZP z sf) st i)) (q0 := 0) hB (c_X10_counted h6 hw hpos hl (by omega)) mk_X10_counted ml_X10_171 dX10_digest_23 rfl rfl [0, 1, 2, 3, 4, 5, 6, 7, 8, 9] rfl (by decide) rfl rfl (fit_of hR (by decide)) (Nat.le_of_ble_eq_true rfl) (wput_all rfl rfl) ?_
      refine a_i2l hB dX10_digest_26 ?_
      refine a_callVd (w2 := wM G ma z sf st hh sh len tx 0 wy (if i = 7 then (lkm (wq z) mo (z 0) 0 0) else mo) td re lo to rw (hsh (dg1 (ZP z sf) st i) (nI (vC (ZP z sf) st i)).toInt64)) (q0 := 0) hB (c_X10_mix) mk_X10_mix ml_X10_215 dX10_digest_27 rfl rfl [0, 1, 2, 3, 4, 5, 6, 7, 8, 9] rfl (by decide) rfl rfl (fit_of hR (by decide)) (Nat.le_of_ble_eq_true rfl) (wput_all rfl rfl) ?_
      refine a_iincN (b := 1) hB dX10_digest_30 rfl (by decide) (by decide) ?_
      refine a_goto (tgt := 14) hB dX10_digest_33 (by decide) ?_
      exact aW_at [0, 1] rfl rfl rfl (ih14 (i + 1) wy (if i = 7 then (lkm (wq z) mo (z 0) 0 0) else mo) rw (by omega))
  exact aW_at [0, 1] rfl rfl rfl (lp14 (9) 0 wy mo rw (by omega))
def mMa (x0 y1 y2 y3 y4 y5 y6 y7 y8 y9 : Nat) (k : Nat) : Nat := match k with
  | 0 => x0 | 1 => y1 | 2 => y2 | 3 => y3 | 4 => y4 | 5 => y5 | 6 => y6 | 7 => y7 | 8 => y8 | _ => y9
set_option maxHeartbeats 4000000 in
set_option maxRecDepth 100000 in
theorem c_X10_init {G : GP} {x0 : Nat} : AM G sX10_init 9 1598 [.ref x0] [(x0, ob 10 [.null, .null, .int 0, .null, .null, .int 0, .null, .int 0, .null, .null, .null, .int 0, .int 0, .int 0, .null, .long 0])] (fun v w => v = none ∧ ∃ ma : Nat → Nat, ma 0 = x0 ∧ w = wM G ma (uN (uN zN 1 10) 2 1) zD 0 zN zD 0 zN 0 zN zN zN 0 0 0 zN 0) := by
  refine AM.of (σ := sX10_init) (by decide +kernel) (by decide +kernel) (Nat.le_of_ble_eq_true rfl) (fun B hB hR hE0 hN => ?_)
  have hE := BE.of hE0
  have hN : B.meth.name = "<init>" := hN
  refine a_aload_n hB dX10_init_0 rfl ?_
  refine a_objInit hB ml_X10_1 dX10_init_1 (roomF hR (Nat.le_of_ble_eq_true rfl)) (room12 hR (Nat.le_of_ble_eq_true rfl)) ?_
  refine a_aload_n hB dX10_init_4 rfl ?_
  refine a_bipushN (v := 83) hB dX10_init_5 (by decide) ?_
  refine a_newI (N := 83) hB dX10_init_7 (nI_pos (by decide)) (nI_clamp (by decide)) (by decide) (roomc hR (Nat.le_of_ble_eq_true rfl)) (rooms hR (Nat.le_of_ble_eq_true rfl)) (fun q1 => ?_)
  refine a_putF (T := TX10) (ci := 10) hB hN dX10_init_9 0 fl_X10_7 lay_X10 tyX10 tyX10_ok nmX10 rfl (by decide) rfl rfl rfl 0 rfl rfl rfl rfl (Nat.le_of_ble_eq_true rfl) ?_
  refine a_aload_n hB dX10_init_12 rfl ?_
  refine a_iconstN (v := 4) hB dX10_init_13 (by decide) ?_
  refine a_newD (N := 4) hB dX10_init_14 (nI_pos (by decide)) (nI_clamp (by decide)) (by decide) (roomc hR (Nat.le_of_ble_eq_true rfl)) (rooms hR (Nat.le_of_ble_eq_true rfl)) (fun q2 => ?_)
  refine a_putF (T := TX10) (ci := 10) hB hN dX10_init_16 1 fl_X10_13 lay_X10 tyX10 tyX10_ok nmX10 rfl (by decide) rfl rfl rfl 0 rfl rfl rfl rfl (Nat.le_of_ble_eq_true rfl) ?_
  refine a_aload_n hB dX10_init_19 rfl ?_
  refine a_sipushN (v := 498) hB dX10_init_20 (by decide) ?_
  refine a_newI (N := 498) hB dX10_init_23 (nI_pos (by decide)) (nI_clamp (by decide)) (by decide) (roomc hR (Nat.le_of_ble_eq_true rfl)) (rooms hR (Nat.le_of_ble_eq_true rfl)) (fun q3 => ?_)
  refine a_putF (T := TX10) (ci := 10) hB hN dX10_init_25 3 fl_X10_17 lay_X10 tyX10 tyX10_ok nmX10 rfl (by decide) rfl rfl rfl 0 rfl rfl rfl rfl (Nat.le_of_ble_eq_true rfl) ?_
  refine a_aload_n hB dX10_init_28 rfl ?_
  refine a_bipushN (v := 24) hB dX10_init_29 (by decide) ?_
  refine a_newD (N := 24) hB dX10_init_31 (nI_pos (by decide)) (nI_clamp (by decide)) (by decide) (roomc hR (Nat.le_of_ble_eq_true rfl)) (rooms hR (Nat.le_of_ble_eq_true rfl)) (fun q4 => ?_)
  refine a_putF (T := TX10) (ci := 10) hB hN dX10_init_33 4 fl_X10_20 lay_X10 tyX10 tyX10_ok nmX10 rfl (by decide) rfl rfl rfl 0 rfl rfl rfl rfl (Nat.le_of_ble_eq_true rfl) ?_
  refine a_aload_n hB dX10_init_36 rfl ?_
  refine a_bipushN (v := 60) hB dX10_init_37 (by decide) ?_
  refine a_newI (N := 60) hB dX10_init_39 (nI_pos (by decide)) (nI_clamp (by decide)) (by decide) (roomc hR (Nat.le_of_ble_eq_true rfl)) (rooms hR (Nat.le_of_ble_eq_true rfl)) (fun q5 => ?_)
  refine a_putF (T := TX10) (ci := 10) hB hN dX10_init_41 6 fl_X10_23 lay_X10 tyX10 tyX10_ok nmX10 rfl (by decide) rfl rfl rfl 0 rfl rfl rfl rfl (Nat.le_of_ble_eq_true rfl) ?_
  refine a_aload_n hB dX10_init_44 rfl ?_
  refine a_bipushN (v := 31) hB dX10_init_45 (by decide) ?_
  refine a_newJ (N := 31) hB dX10_init_47 (nI_pos (by decide)) (nI_clamp (by decide)) (by decide) (roomc hR (Nat.le_of_ble_eq_true rfl)) (rooms hR (Nat.le_of_ble_eq_true rfl)) (fun q6 => ?_)
  refine a_putF (T := TX10) (ci := 10) hB hN dX10_init_49 8 fl_X10_26 lay_X10 tyX10 tyX10_ok nmX10 rfl (by decide) rfl rfl rfl 0 rfl rfl rfl rfl (Nat.le_of_ble_eq_true rfl) ?_
  refine a_aload_n hB dX10_init_52 rfl ?_
  refine a_sipushN (v := 700) hB dX10_init_53 (by decide) ?_
  refine a_newI (N := 700) hB dX10_init_56 (nI_pos (by decide)) (nI_clamp (by decide)) (by decide) (roomc hR (Nat.le_of_ble_eq_true rfl)) (rooms hR (Nat.le_of_ble_eq_true rfl)) (fun q7 => ?_)
  refine a_putF (T := TX10) (ci := 10) hB hN dX10_init_58 9 fl_X10_30 lay_X10 tyX10 tyX10_ok nmX10 rfl (by decide) rfl rfl rfl 0 rfl rfl rfl rfl (Nat.le_of_ble_eq_true rfl) ?_
  refine a_aload_n hB dX10_init_61 rfl ?_
  refine a_sipushN (v := 192) hB dX10_init_62 (by decide) ?_
  refine a_newI (N := 192) hB dX10_init_65 (nI_pos (by decide)) (nI_clamp (by decide)) (by decide) (roomc hR (Nat.le_of_ble_eq_true rfl)) (rooms hR (Nat.le_of_ble_eq_true rfl)) (fun q8 => ?_)
  refine a_putF (T := TX10) (ci := 10) hB hN dX10_init_67 10 fl_X10_33 lay_X10 tyX10 tyX10_ok nmX10 rfl (by decide) rfl rfl rfl 0 rfl rfl rfl rfl (Nat.le_of_ble_eq_true rfl) ?_
  refine a_aload_n hB dX10_init_70 rfl ?_
  refine a_bipushN (v := 6) hB dX10_init_71 (by decide) ?_
  refine a_newI (N := 6) hB dX10_init_73 (nI_pos (by decide)) (nI_clamp (by decide)) (by decide) (roomc hR (Nat.le_of_ble_eq_true rfl)) (rooms hR (Nat.le_of_ble_eq_true rfl)) (fun q9 => ?_)
  refine a_putF (T := TX10) (ci := 10) hB hN dX10_init_75 14 fl_X10_36 lay_X10 tyX10 tyX10_ok nmX10 rfl (by decide) rfl rfl rfl 0 rfl rfl rfl rfl (Nat.le_of_ble_eq_true rfl) ?_
  refine aW_w (ws' := wM G (mMa x0 q1 q2 q3 q4 q5 q6 q7 q8 q9) zN zD 0 zN zD 0 zN 0 zN zN zN 0 0 0 zN 0) rfl ?_
  refine a_aload_n hB dX10_init_78 rfl ?_
  refine a_get (T := TX10) (ci := 10) hB dX10_init_79 0 fl_X10_7 lay_X10 rfl (by decide) rfl 0 rfl rfl ?_
  refine a_iconstN (v := 1) hB dX10_init_82 (by decide) ?_
  refine a_bipushN (v := 10) hB dX10_init_83 (by decide) ?_
  refine a_iastoreN hB dX10_init_85 1 rfl (by omega) (by decide) ?_
  refine a_aload_n hB dX10_init_86 rfl ?_
  refine a_get (T := TX10) (ci := 10) hB dX10_init_87 0 fl_X10_7 lay_X10 rfl (by decide) rfl 0 rfl rfl ?_
  refine a_iconstN (v := 2) hB dX10_init_90 (by decide) ?_
  refine a_iconstN (v := 1) hB dX10_init_91 (by decide) ?_
  refine a_iastoreN hB dX10_init_92 1 rfl (by omega) (by decide) ?_
  exact a_vret hB hE rfl dX10_init_93 (Nat.le_of_ble_eq_true rfl) (Nat.le_of_ble_eq_true rfl) (AKeep.of rfl) ⟨rfl, (mMa x0 q1 q2 q3 q4 q5 q6 q7 q8 q9), rfl, rfl⟩
