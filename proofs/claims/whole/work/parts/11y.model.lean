def sJxe99ae_isNaN_b9ae7 : MS := (yJxe99ae_isNaN_b9ae7, cJxe99ae_isNaN_b9ae7, 2, (some .boolean), RJxe99ae, 0)
def sJxe99ae_doubleToLongBits_ccdee : MS := (yJxe99ae_doubleToLongBits_ccdee, cJxe99ae_doubleToLongBits_ccdee, 2, (some .long), RJxe99ae, 2)
theorem room15 {B : Bd} {σ : MS} {M S x : Nat} (hR : B.room σ M S) (h : x + 15 ≤ 36 * σ.lv) : x + 15 ≤ B.R.locals := Nat.le_trans h hR.2.1
theorem a_rawbits {G : GP} {σ : MS} {B : Bd} {pc k n idx : Nat} {L : List (Nat × Value)} {rest : List Value} {ws : va_W} (hB : Bok G σ B) {x : UInt64} (hw : Cond.methodLink σ.own idx ⟨"java/lang/Double", "doubleToRawLongBits", "(D)J"⟩ ∈ gw) (hd : decode σ.cc pc = .ok (.invokestatic idx, 3)) (hf : 1 ≤ B.R.frames) (hlo : (rest.map fun v => v.category).sum + 15 ≤ B.R.locals)
    (kk : aW G σ B (pc + 3) L (.long x.toInt64 :: rest) ws k n) : aW G σ B pc L (.double x :: rest) ws k n :=
  fun H locs ls hP hD hS hl => vn_d2l hB.hx hB.hb (by rw [hB.hml]; exact hl.1.symm) hB.hown (hB.hts _ hw) (hB.hts _ na_bits) (hB.hts _ st__java_lang_Double_doubleToRawLongBits_D_J_) (hB.hts _ in_Double) hf hlo hd (kk H locs ls hP hD hS hl)
set_option maxHeartbeats 4000000 in
set_option maxRecDepth 100000 in
theorem c_J_isNaN {G : GP} {x : UInt64} (h : Op.cmpValue (FP.dcmp x x) .l = 0) : AMd G sJxe99ae_isNaN_b9ae7 [.double x] [] (some (.int (nI 0))) [] := by
  refine AM.of (σ := sJxe99ae_isNaN_b9ae7) (by decide +kernel) (by decide +kernel) (Nat.le_of_ble_eq_true rfl) (fun B hB hR hE0 hN => ?_)
  have hE := BE.of hE0
  refine a_dload_n hB dJxe99ae_isNaN_b9ae7_0 rfl ?_
  refine a_dload_n hB dJxe99ae_isNaN_b9ae7_1 rfl ?_
  refine a_dcmp hB dJxe99ae_isNaN_b9ae7_2 ?_
  refine a_if_eq_t (tgt := 10) hB dJxe99ae_isNaN_b9ae7_3 (by decide) h ?_
  refine a_iconstN (v := 0) hB dJxe99ae_isNaN_b9ae7_10 (by decide) ?_
  exact a_zret hB hE rfl (by decide) dJxe99ae_isNaN_b9ae7_11 (Nat.le_of_ble_eq_true rfl) (Nat.le_of_ble_eq_true rfl) (AKeep.of rfl) ⟨rfl, rfl⟩
set_option maxHeartbeats 4000000 in
set_option maxRecDepth 100000 in
theorem c_J_bits {G : GP} {x : UInt64} (h : Op.cmpValue (FP.dcmp x x) .l = 0) : AMd G sJxe99ae_doubleToLongBits_ccdee [.double x] [] (some (.long x.toInt64)) [] := by
  refine AM.of (σ := sJxe99ae_doubleToLongBits_ccdee) (by decide +kernel) (by decide +kernel) (Nat.le_of_ble_eq_true rfl) (fun B hB hR hE0 hN => ?_)
  have hE := BE.of hE0
  refine a_dload_n hB dJxe99ae_doubleToLongBits_ccdee_0 rfl ?_
  refine a_callSr hB (c_J_isNaN h) mk_Jxe99ae_isNaN_b9ae7 ml_Jxe99ae_122 dJxe99ae_doubleToLongBits_ccdee_1 rfl rfl [] rfl (by decide) (fit_of hR (by decide)) (Nat.le_of_ble_eq_true rfl) ?_
  refine a_if_neN_f (tgt := 12) hB dJxe99ae_doubleToLongBits_ccdee_4 (by decide) (by omega) (by omega) ?_
  refine a_dload_n hB dJxe99ae_doubleToLongBits_ccdee_7 rfl ?_
  refine a_rawbits hB ml_Jxe99ae_134 dJxe99ae_doubleToLongBits_ccdee_8 (roomF hR (Nat.le_of_ble_eq_true rfl)) (room15 hR (Nat.le_of_ble_eq_true rfl)) ?_
  exact a_lret hB hE rfl dJxe99ae_doubleToLongBits_ccdee_11 (Nat.le_of_ble_eq_true rfl) (Nat.le_of_ble_eq_true rfl) (AKeep.of rfl) ⟨rfl, rfl⟩
theorem vW_eq {z : Nat → Nat} {sf : Nat → UInt64} {wy : Nat → Nat} {n b : Nat} : (if b = 0 then (if n < 31 then cnF (wq z) (-1) wy (z 0) n else 0) else wfrom (cnF (wq z) (-1) wy (z 0)) n) = vW (ZP z sf) n b := by
  unfold vW
  rw [show wfrom (cnF (wq z) (-1) wy (z 0)) n = wfrom (cnt (ZP z sf) (-1)) n from wfrom_cnt (ZP z sf) (-1) wy n]
  by_cases h : n < 31
  · rw [if_pos h, if_pos h, show cnF (wq z) (-1) wy (z 0) n = cnt (ZP z sf) (-1) n from cnF_lt _ _ h]
  · rw [if_neg h, if_neg h]
theorem c_X10_waysNow_v {G : GP} {ma z : Nat → Nat} {sf : Nat → UInt64} {st : Nat} {hh : Nat → Nat} {sh : Nat → UInt64} {len : Nat} {tx : Nat → Nat} {th : Nat} {wy mo td : Nat → Nat} {re lo to : Nat} {rw : Nat → Nat} {ha : Int64} {x9 b : Nat} (h6 : z 0 ≤ 6) (hw : ∀ p, p < z 0 → ∀ l, l < 6 → gt (wq z) p l < 2 ^ 31) (hs : x9 ≤ 99) (hb : b ≤ 1) : AMd G sX10_waysNow [.ref (ma 0), .int (nI x9), .int (nI b)] (wM G ma z sf st hh sh len tx th wy mo td re lo to rw ha) (some (.long (lN (vW (ZP z sf) x9 b)))) (wM G ma z sf st hh sh len tx th (cnF (wq z) (-1) wy (z 0)) mo td re lo to rw ha) := by
  rw [← vW_eq (wy := wy)]
  exact c_X10_waysNow h6 hw hs hb
theorem c_X10_ways_v {G : GP} {ma z : Nat → Nat} {sf : Nat → UInt64} {st : Nat} {hh : Nat → Nat} {sh : Nat → UInt64} {len : Nat} {tx : Nat → Nat} {th : Nat} {wy mo td : Nat → Nat} {re lo to : Nat} {rw : Nat → Nat} {ha : Int64} {x9 b : Nat} (h6 : z 0 ≤ 6) (hw : ∀ p, p < z 0 → ∀ l, l < 6 → gt (wq z) p l < 2 ^ 31) (hs : x9 ≤ 99) (hb : b ≤ 1) : AMd G sX10_ways [.ref (ma 0), .int (nI x9), .int (nI b)] (wM G ma z sf st hh sh len tx th wy mo td re lo to rw ha) (some (.long (lN (vW (ZP z sf) x9 b)))) (wM G ma z sf st hh sh len tx 0 (cnF (wq z) (-1) wy (z 0)) mo td re lo to rw ha) := by
  rw [← vW_eq (wy := wy)]
  exact c_X10_ways_ok h6 hw hs hb
set_option maxHeartbeats 4000000 in
set_option maxRecDepth 100000 in
theorem c_X10_mixPart {G : GP} {ma z : Nat → Nat} {sf : Nat → UInt64} {st : Nat} {hh : Nat → Nat} {sh : Nat → UInt64} {len : Nat} {tx : Nat → Nat} {th : Nat} {wy mo td : Nat → Nat} {re lo to : Nat} {rw : Nat → Nat} {ha : Int64} {p : Nat} (h6 : z 0 ≤ 6) (hw : ∀ p l, p < 6 → l < 6 → gt (wq z) p l ≤ 9) (hl : z 1 ≤ 99) (ht : ∀ p l, p < 6 → l < 6 → gt (tq z) p l ≤ 99) (hpos : ∀ p, p < z 0 → ∃ l, l < 6 ∧ 0 < gt (wq z) p l) (hn : z 3 < 2 ^ 31) (hp : p < z 0) : AMd G sX10_mixPart [.ref (ma 0), .int (nI p)] (wM G ma z sf st hh sh len tx th wy mo td re lo to rw ha) none (wM G ma z sf st hh sh len tx th wy (lkm (wq z) mo (z 0) 0 0) td re lo to rw (vHP (ZP z sf) p ha)) := by
  refine AM.of (σ := sX10_mixPart) (by decide +kernel) (by decide +kernel) (Nat.le_of_ble_eq_true rfl) (fun B hB hR hE0 hN => ?_)
  have hE := BE.of hE0
  refine a_iconstN (v := 0) hB dX10_mixPart_0 (by decide) ?_
  refine a_istore_n hB dX10_mixPart_1 (by decide) ?_
  have lp2 : ∀ (j2 i : Nat), i + j2 = 7 → aW G sX10_mixPart B 2 [(0, .ref (ma 0)), (1, .int (nI p)), (2, .int (nI i))] [] (wM G ma z sf st hh sh len tx th wy mo td re lo to rw (hp1 (ZP z sf) p ha i)) 0 0 := by
    intro j2
    induction j2 with
    | zero =>
      intro i hi
      refine a_iload_n hB dX10_mixPart_2 rfl ?_
      refine a_bipushN (v := 7) hB dX10_mixPart_3 (by decide) ?_
      refine a_icmp_geN_t (tgt := 25) hB dX10_mixPart_5 (by decide) (by omega) (by omega) (by omega) ?_
      refine a_iconstN (v := 0) hB dX10_mixPart_25 (by decide) ?_
      refine a_istore_n hB dX10_mixPart_26 (by decide) ?_
      have lp27 : ∀ (j27 i : Nat), i + j27 = 6 → aW G sX10_mixPart B 27 [(0, .ref (ma 0)), (1, .int (nI p)), (2, .int (nI i))] [] (wM G ma z sf st hh sh len tx th wy mo td re lo to rw (hp2 (wq z) p (hp1 (ZP z sf) p ha 7) i)) 0 0 := by
        intro j27
        induction j27 with
        | zero =>
          intro i hi
          refine a_iload_n hB dX10_mixPart_27 rfl ?_
          refine a_bipushN (v := 6) hB dX10_mixPart_28 (by decide) ?_
          refine a_icmp_geN_t (tgt := 50) hB dX10_mixPart_30 (by decide) (by omega) (by omega) (by omega) ?_
          refine a_iconstN (v := 0) hB dX10_mixPart_50 (by decide) ?_
          refine a_istore_n hB dX10_mixPart_51 (by decide) ?_
          have lp52 : ∀ (j52 i : Nat), i + j52 = 6 → aW G sX10_mixPart B 52 [(0, .ref (ma 0)), (1, .int (nI p)), (2, .int (nI i))] [] (wM G ma z sf st hh sh len tx th wy mo td re lo to rw (hp2 (tq z) p (hp2 (wq z) p (hp1 (ZP z sf) p ha 7) 6) i)) 0 0 := by
            intro j52
            induction j52 with
            | zero =>
              intro i hi
              refine a_iload_n hB dX10_mixPart_52 rfl ?_
              refine a_bipushN (v := 6) hB dX10_mixPart_53 (by decide) ?_
              refine a_icmp_geN_t (tgt := 75) hB dX10_mixPart_55 (by decide) (by omega) (by omega) (by omega) ?_
              refine a_aload_n hB dX10_mixPart_75 rfl ?_
              refine a_aload_n hB dX10_mixPart_76 rfl ?_
              refine a_iload_n hB dX10_mixPart_77 rfl ?_
              refine a_callVd (w2 := wM G ma z sf st hh sh len tx th wy (lkm (wq z) mo (z 0) 0 0) td re lo to rw (hp2 (tq z) p (hp2 (wq z) p (hp1 (ZP z sf) p ha 7) 6) i)) (q0 := 0) hB (c_X10_likeliestLoad h6 hw hl hp) mk_X10_likeliestLoad ml_X10_164 dX10_mixPart_78 rfl rfl [0, 1, 2, 3, 4, 5, 6, 7, 8, 9] rfl (by decide) rfl rfl (fit_of hR (by decide)) (Nat.le_of_ble_eq_true rfl) (wput_all rfl rfl) ?_
              refine a_i2l hB dX10_mixPart_81 ?_
              refine a_callVd (w2 := wM G ma z sf st hh sh len tx th wy (lkm (wq z) mo (z 0) 0 0) td re lo to rw (hsh (hp2 (tq z) p (hp2 (wq z) p (hp1 (ZP z sf) p ha 7) 6) i) (vL (ZP z sf) p).toInt64)) (q0 := 0) hB (c_X10_mix) mk_X10_mix ml_X10_215 dX10_mixPart_82 rfl rfl [0, 1, 2, 3, 4, 5, 6, 7, 8, 9] rfl (by decide) rfl rfl (fit_of hR (by decide)) (Nat.le_of_ble_eq_true rfl) (wput_all rfl rfl) ?_
              exact a_vret hB hE rfl dX10_mixPart_85 (Nat.le_of_ble_eq_true rfl) (Nat.le_of_ble_eq_true rfl) (AKeep.of rfl) ⟨rfl, by rw [show i = 6 by omega]; rfl⟩
            | succ j52 ih52 =>
              intro i hi
              have hg := ht p i (by omega) (by omega)
              refine a_iload_n hB dX10_mixPart_52 rfl ?_
              refine a_bipushN (v := 6) hB dX10_mixPart_53 (by decide) ?_
              refine a_icmp_geN_f (tgt := 75) hB dX10_mixPart_55 (by decide) (by omega) (by omega) (by omega) ?_
              refine a_aload_n hB dX10_mixPart_58 rfl ?_
              refine a_aload_n hB dX10_mixPart_59 rfl ?_
              refine a_iload_n hB dX10_mixPart_60 rfl ?_
              refine a_iload_n hB dX10_mixPart_61 rfl ?_
              refine a_callVr (q0 := 0) hB (c_X10_tiltedOf (p := p) (l := i) (by omega) (by omega)) mk_X10_tiltedOf ml_X10_54 dX10_mixPart_62 rfl rfl [0, 1, 2, 3, 4, 5, 6, 7, 8, 9] rfl (by decide) rfl rfl (fit_of hR (by decide)) (Nat.le_of_ble_eq_true rfl) ?_
              refine a_i2lN hB dX10_mixPart_65 (by omega) ?_
              refine a_callVd (w2 := wM G ma z sf st hh sh len tx th wy mo td re lo to rw (hsh (hp2 (tq z) p (hp2 (wq z) p (hp1 (ZP z sf) p ha 7) 6) i) (lN (gt (tq z) p i)))) (q0 := 0) hB (c_X10_mix) mk_X10_mix ml_X10_215 dX10_mixPart_66 rfl rfl [0, 1, 2, 3, 4, 5, 6, 7, 8, 9] rfl (by decide) rfl rfl (fit_of hR (by decide)) (Nat.le_of_ble_eq_true rfl) (wput_all rfl rfl) ?_
              refine a_iincN (b := 1) hB dX10_mixPart_69 rfl (by decide) (by decide) ?_
              refine a_goto (tgt := 52) hB dX10_mixPart_72 (by decide) ?_
              exact aW_at [0, 1, 2] rfl rfl rfl (ih52 (i + 1) (by omega))
          exact aW_at [0, 1, 2] rfl rfl (by rw [show i = 6 by omega]; rfl) (lp52 (6) 0 (by omega))
        | succ j27 ih27 =>
          intro i hi
          have hg := hw p i (by omega) (by omega)
          refine a_iload_n hB dX10_mixPart_27 rfl ?_
          refine a_bipushN (v := 6) hB dX10_mixPart_28 (by decide) ?_
          refine a_icmp_geN_f (tgt := 50) hB dX10_mixPart_30 (by decide) (by omega) (by omega) (by omega) ?_
          refine a_aload_n hB dX10_mixPart_33 rfl ?_
          refine a_aload_n hB dX10_mixPart_34 rfl ?_
          refine a_iload_n hB dX10_mixPart_35 rfl ?_
          refine a_iload_n hB dX10_mixPart_36 rfl ?_
          refine a_callVr (q0 := 0) hB (c_X10_weightOf (p := p) (l := i) (by omega) (by omega)) mk_X10_weightOf ml_X10_50 dX10_mixPart_37 rfl rfl [0, 1, 2, 3, 4, 5, 6, 7, 8, 9] rfl (by decide) rfl rfl (fit_of hR (by decide)) (Nat.le_of_ble_eq_true rfl) ?_
          refine a_i2lN hB dX10_mixPart_40 (by omega) ?_
          refine a_callVd (w2 := wM G ma z sf st hh sh len tx th wy mo td re lo to rw (hsh (hp2 (wq z) p (hp1 (ZP z sf) p ha 7) i) (lN (gt (wq z) p i)))) (q0 := 0) hB (c_X10_mix) mk_X10_mix ml_X10_215 dX10_mixPart_41 rfl rfl [0, 1, 2, 3, 4, 5, 6, 7, 8, 9] rfl (by decide) rfl rfl (fit_of hR (by decide)) (Nat.le_of_ble_eq_true rfl) (wput_all rfl rfl) ?_
          refine a_iincN (b := 1) hB dX10_mixPart_44 rfl (by decide) (by decide) ?_
          refine a_goto (tgt := 27) hB dX10_mixPart_47 (by decide) ?_
          exact aW_at [0, 1, 2] rfl rfl rfl (ih27 (i + 1) (by omega))
      exact aW_at [0, 1, 2] rfl rfl (by rw [show i = 7 by omega]; rfl) (lp27 (6) 0 (by omega))
    | succ j2 ih2 =>
      intro i hi
      refine a_iload_n hB dX10_mixPart_2 rfl ?_
      refine a_bipushN (v := 7) hB dX10_mixPart_3 (by decide) ?_
      refine a_icmp_geN_f (tgt := 25) hB dX10_mixPart_5 (by decide) (by omega) (by omega) (by omega) ?_
      refine a_aload_n hB dX10_mixPart_8 rfl ?_
      refine a_aload_n hB dX10_mixPart_9 rfl ?_
      refine a_iload_n hB dX10_mixPart_10 rfl ?_
      refine a_iload_n hB dX10_mixPart_11 rfl ?_
      refine a_callVr (q0 := 0) hB (c_X10_partNow (p := p) (k := i) (by omega) (fun l hl => hw p l (by omega) hl) (hpos p hp) hn (by omega)) mk_X10_partNow ml_X10_157 dX10_mixPart_12 rfl rfl [0, 1, 2, 3, 4, 5, 6, 7, 8, 9] rfl (by decide) rfl rfl (fit_of hR (by decide)) (Nat.le_of_ble_eq_true rfl) ?_
      rw [mP_eq (sf := sf)]
      refine a_i2l hB dX10_mixPart_15 ?_
      refine a_callVd (w2 := wM G ma z sf st hh sh len tx th wy mo td re lo to rw (hsh (hp1 (ZP z sf) p ha i) (vP (ZP z sf) p i).toInt64)) (q0 := 0) hB (c_X10_mix) mk_X10_mix ml_X10_215 dX10_mixPart_16 rfl rfl [0, 1, 2, 3, 4, 5, 6, 7, 8, 9] rfl (by decide) rfl rfl (fit_of hR (by decide)) (Nat.le_of_ble_eq_true rfl) (wput_all rfl rfl) ?_
      refine a_iincN (b := 1) hB dX10_mixPart_19 rfl (by decide) (by decide) ?_
      refine a_goto (tgt := 2) hB dX10_mixPart_22 (by decide) ?_
      exact aW_at [0, 1, 2] rfl rfl rfl (ih2 (i + 1) (by omega))
  exact aW_at [0, 1, 2] rfl rfl rfl (lp2 (7) 0 (by omega))
