set_option maxHeartbeats 4000000 in
set_option maxRecDepth 100000 in
theorem ss_seed {G : GP} {B : Bd} {na wa ua la : Nat} {xa pa : Nat → Nat} {qs : Nat → Nat → Nat} {mk : Nat} {P : PV} {num : Nat} {nE n1 ww uu ll : Nat → Nat} {wC : va_W} {x y : Int32} (hB : Bok G sL_samples B) (hR : B.room sL_samples 8 96) (hE : BE G B (w4 G na wa ua la nE ww uu ll ++ wC) 8 96 (StQ G na wa ua la xa pa qs mk (P.sv.num + 64))) (hK : KW G xa pa qs mk P num wC) (h : LI P num nE ww uu ll) (hn1 : ∀ j, ¬ j = 5 → n1 j = nE j) (gn1 : n1 5 = min (num + 1) 6) : aW G sL_samples B 24 [(0, .ref (xa 0)), (1, .int x), (2, .int y), (3, .ref na), (4, .ref ua), (5, .ref la)] [] (w4 G na wa ua la n1 ww uu ll ++ wC) 0 0 := by
  obtain ⟨y0, y1, y2, y3, y4, y5⟩ := h.2.2.2.2.1
  have z0 : n1 0 = P.parts := (hn1 0 (by decide)).trans y0
  have z1 : n1 1 = P.limit := (hn1 1 (by decide)).trans y1
  have z2 : n1 2 = P.seed := (hn1 2 (by decide)).trans y2
  have z3 : n1 3 = P.sv.num := (hn1 3 (by decide)).trans y3
  have z4 : n1 4 = P.sv.flt := (hn1 4 (by decide)).trans y4
  have h3 := h.2.1
  have h15 := h.2.2.1
  have h6 := h.2.2.2.1
  have hw := h.2.2.2.2.2.1
  have hc := h.c
  have hsd : P.seed < 2147483648 := hc.1.2.2.1
  refine a_aload_n hB dL_samples_24 rfl ?_
  refine a_iconstN (v := 2) hB dL_samples_25 (by decide) ?_
  refine a_ialoadN hB dL_samples_26 0 rfl (by omega) (by decide) ?_
  refine a_istore hB dL_samples_27 (by decide) ?_
  refine a_aload_n hB dL_samples_29 rfl ?_
  refine a_iconstN (v := 2) hB dL_samples_30 (by decide) ?_
  refine a_iload_n hB dL_samples_31 rfl ?_
  refine a_ldcN (v := 2147483647) hB dL_samples_32 kk_L_46 (by decide) ?_
  refine a_iand hB dL_samples_34 ?_
  obtain ⟨s35, hs35, e35⟩ := and31I y
  rw [e35]
  refine a_st0 hB dL_samples_35 (by omega) ?_
  refine a_aload_n hB dL_samples_36 rfl ?_
  refine a_aload_n hB dL_samples_37 rfl ?_
  refine a_iconstN (v := 2) hB dL_samples_38 (by decide) ?_
  refine a_ialoadN hB dL_samples_39 0 rfl (by omega) (by decide) ?_
  rw [uN_at]
  refine a_K hB hR (K_seed hs35) mk_X9_seed ml_L_47 dL_samples_40 rfl rfl hK ⟨by decide, by decide, by omega, by omega⟩ (Nat.le_of_ble_eq_true rfl) (fun qs40 mk40 wD40 he40 hK40 => ?_)
  refine a_iload hB dL_samples_43 rfl ?_
  refine a_icmp_neN_f (tgt := 52) hB dL_samples_45 (by decide) (by omega) (by omega) z2.symm ?_
  refine a_iconstN (v := 1) hB dL_samples_48 (by decide) ?_
  refine a_goto (tgt := 53) hB dL_samples_49 (by decide) ?_
  exact a_zret hB hE rfl (by decide) dL_samples_53 (Nat.le_of_ble_eq_true rfl) (Nat.le_of_ble_eq_true rfl) (hK.keep hK40 he40 rfl) ⟨rfl, qs40, mk40, _, _, _, _, _, _, wD40, rfl, he40, hK40, h.seed hs35 ⟨z0, z1, uN_at _ _ _, z3, z4, gn1⟩, Nat.le_add_right _ _⟩
def smInv (P : PV) (n1 : Nat → Nat) (i : Nat) (n2 l2 : Nat → Nat) : Prop := (∀ j, ¬ j = 2 → n2 j = n1 j) ∧ n2 2 = (drN P i).seed ∧ llOK (drN P i) l2
def smIn (Q : PV) (n1 : Nat → Nat) (p : Nat) (n3 l3 : Nat → Nat) : Prop := (∀ j, ¬ j = 2 → n3 j = n1 j) ∧ n3 2 = (rowS Q p).1 ∧ ∀ q, q < p → l3 q = (rowS Q p).2.1 q
theorem smIn.zero {P : PV} {n1 n2 l2 : Nat → Nat} {i : Nat} (h : smInv P n1 i n2 l2) : smIn (drN P i) n1 0 n2 l2 := ⟨h.1, h.2.1, fun q hq => absurd hq (Nat.not_lt_zero q)⟩
theorem smIn.step {Q : PV} {n1 n3 l3 : Nat → Nat} {p : Nat} (h : smIn Q n1 p n3 l3) : smIn Q n1 (p + 1) (uN n3 2 (nxt (n3 2))) (uN l3 p (dload Q.tl p (nxt (rowS Q p).1))) := by
  obtain ⟨a, b, c⟩ := h
  refine ⟨fun j hj => (uN_ne hj).trans (a j hj), ?_, fun q hq => ?_⟩
  · rw [uN_at, b]; rfl
  · show uN l3 p (dload Q.tl p (nxt (rowS Q p).1)) q = uN (rowS Q p).2.1 p (dload Q.tl p (nxt (rowS Q p).1)) q
    by_cases e : q = p
    · rw [e, uN_at, uN_at]
    · rw [uN_ne e, uN_ne e]; exact c q (by omega)
theorem smInv.next {P : PV} {n1 n3 l3 : Nat → Nat} {i : Nat} (hk : (drN P i).parts = P.parts) (h : smIn (drN P i) n1 P.parts n3 l3) : smInv P n1 (i + 1) n3 l3 := by
  obtain ⟨a, b, c⟩ := h
  refine ⟨a, ?_, fun _ p hp => ?_⟩
  · rw [b]
    show (rowS (drN P i) P.parts).1 = (rowS (drN P i) (drN P i).parts).1
    rw [hk]
  · show l3 p = (rowS (drN P i) (drN P i).parts).2.1 p
    have hp : p < (drN P i).parts := hp
    rw [hk] at hp ⊢
    exact c p hp
theorem wput_2 {ws : va_W} {i j : Nat} {x y : Nat × va_E} : wput ws [i, j] [x, y] = (ws.set i x).set j y := by
  show (ws.set i x).set j y ++ [] = _
  rw [List.append_nil]
theorem dfl_le (P : PV) : ∀ i, dfl P i ≤ i
  | 0 => Nat.le_refl _
  | i + 1 => by
    show dfl P i + (drN P i).isF ≤ i + 1
    have := dfl_le P i
    have := isF_le (drN P i)
    omega
set_option maxHeartbeats 4000000 in
set_option maxRecDepth 100000 in
theorem ss_draw {G : GP} {B : Bd} {na wa ua la : Nat} {xa pa : Nat → Nat} {qs : Nat → Nat → Nat} {mk : Nat} {P : PV} {num : Nat} {nE n1 ww uu ll : Nat → Nat} {wC : va_W} {x y : Int32} (hB : Bok G sL_samples B) (hR : B.room sL_samples 8 96) (hE : BE G B (w4 G na wa ua la nE ww uu ll ++ wC) 8 96 (StQ G na wa ua la xa pa qs mk (P.sv.num + 64))) (hK : KW G xa pa qs mk P num wC) (h : LI P num nE ww uu ll) (hn1 : ∀ j, ¬ j = 5 → n1 j = nE j) (gn1 : n1 5 = min (num + 1) 6) {v : Nat} (h1v : 1 ≤ v) (hv64 : v ≤ 64) (hs99 : P.sv.num + v ≤ 9999) : aW G sL_samples B 76 [(0, .ref (xa 0)), (1, .int x), (2, .int y), (3, .ref na), (4, .ref ua), (5, .ref la)] [.int (nI v)] (w4 G na wa ua la n1 ww uu ll ++ wC) 0 0 := by
  obtain ⟨y0, y1, y2, y3, y4, y5⟩ := h.2.2.2.2.1
  have z0 : n1 0 = P.parts := (hn1 0 (by decide)).trans y0
  have z1 : n1 1 = P.limit := (hn1 1 (by decide)).trans y1
  have z2 : n1 2 = P.seed := (hn1 2 (by decide)).trans y2
  have z3 : n1 3 = P.sv.num := (hn1 3 (by decide)).trans y3
  have z4 : n1 4 = P.sv.flt := (hn1 4 (by decide)).trans y4
  have h3 := h.2.1
  have h15 := h.2.2.1
  have h6 := h.2.2.2.1
  have hw := h.2.2.2.2.2.1
  have hc := h.c
  refine a_istore hB dL_samples_76 (by decide) ?_
  refine a_iconstN (v := 0) hB dL_samples_78 (by decide) ?_
  refine a_istore hB dL_samples_79 (by decide) ?_
  refine a_iconstN (v := 0) hB dL_samples_81 (by decide) ?_
  refine a_istore hB dL_samples_82 (by decide) ?_
  have lp84 : ∀ (j84 i : Nat) (n2 l2 : Nat → Nat), i + j84 = v → smInv P n1 i n2 l2 → aW G sL_samples B 84 [(0, .ref (xa 0)), (3, .ref na), (4, .ref ua), (5, .ref la), (6, .int (nI v)), (7, .int (nI (dfl P i))), (8, .int (nI i))] [] (w4 G na wa ua la n2 ww uu l2 ++ wC) 0 0 := by
    intro j84
    induction j84 with
    | zero =>
      intro i n2 l2 hi hv
      refine a_iload hB dL_samples_84 rfl ?_
      refine a_iload hB dL_samples_86 rfl ?_
      refine a_icmp_geN_t (tgt := 151) hB dL_samples_88 (by decide) (by omega) (by omega) (by omega) ?_
      obtain rfl : i = v := by omega
      have hfl : P.sv.flt ≤ (drN P i).sv.flt := by rw [dfl_flt]; exact Nat.le_add_right _ _
      have hans : (drN P i).sv.flt - P.sv.flt = dfl P i := by rw [dfl_flt, Nat.add_sub_cancel_left]
      obtain ⟨hiv, hnm⟩ := hc.1.draws i (by omega)
      obtain ⟨kw, kt, hkp, hkl, -⟩ := drN_keep (P := P) (by omega) i
      have hdl0 := dfl_le P i
      have hnnd : nnOK (drN P i) (min (num + 1) 6) (uN (uN n2 3 (n2 3 + i)) 4 (uN n2 3 (n2 3 + i) 4 + dfl P i)) := by
        refine ⟨(hv.1 0 (by decide)).trans (z0.trans hkp.symm), (hv.1 1 (by decide)).trans (z1.trans hkl.symm), hv.2.1, ?_, ?_, (hv.1 5 (by decide)).trans gn1⟩
        · show n2 3 + i = (drN P i).sv.num
          rw [hnm, hv.1 3 (by decide), z3]
        · show n2 4 + dfl P i = (drN P i).sv.flt
          rw [dfl_flt, hv.1 4 (by decide), z4]
      have hnum : (drN P i).sv.num ≤ P.sv.num + 64 := by omega
      refine a_aload_n hB dL_samples_151 rfl ?_
      refine a_iconstN (v := 3) hB dL_samples_152 (by decide) ?_
      refine a_dup2_11 hB dL_samples_153 rfl rfl ?_
      refine a_ialoadN hB dL_samples_154 0 rfl (by omega) (by decide) ?_
      refine a_iload hB dL_samples_155 rfl ?_
      refine a_iaddN hB dL_samples_157 ?_
      refine a_st0 hB dL_samples_158 (by omega) ?_
      refine a_aload_n hB dL_samples_159 rfl ?_
      refine a_iconstN (v := 4) hB dL_samples_160 (by decide) ?_
      refine a_dup2_11 hB dL_samples_161 rfl rfl ?_
      refine a_ialoadN hB dL_samples_162 0 rfl (by omega) (by decide) ?_
      refine a_iload hB dL_samples_163 rfl ?_
      refine a_iaddN hB dL_samples_165 ?_
      refine a_st0 hB dL_samples_166 (by omega) ?_
      refine a_aload_n hB dL_samples_167 rfl ?_
      refine a_iload hB dL_samples_168 rfl ?_
      refine a_K hB hR (K_draw hc h1v hv64 hs99 hfl) mk_X9_draw ml_L_54 dL_samples_170 rfl rfl hK ⟨by decide, by decide, by omega, by omega⟩ (Nat.le_of_ble_eq_true rfl) (fun qs170 mk170 wD170 he170 hK170 => ?_)
      refine a_iload hB dL_samples_173 rfl ?_
      refine a_icmp_neN_f (tgt := 182) hB dL_samples_175 (by decide) (by omega) (by omega) hans ?_
      refine a_iconstN (v := 1) hB dL_samples_178 (by decide) ?_
      refine a_goto (tgt := 183) hB dL_samples_179 (by decide) ?_
      exact a_zret hB hE rfl (by decide) dL_samples_183 (Nat.le_of_ble_eq_true rfl) (Nat.le_of_ble_eq_true rfl) (hK.keep hK170 he170 rfl) ⟨rfl, qs170, mk170, _, _, _, _, _, _, wD170, rfl, he170, hK170, h.draws hs99 hnnd hv.2.2, hnum⟩
    | succ j84 ih84 =>
      intro i n2 l2 hi hv
      obtain ⟨kw, kt, hkp, hkl, -⟩ := drN_keep (P := P) (by omega) i
      obtain ⟨hiv, hnm⟩ := hc.1.draws i (by omega)
      have hpos : ∀ p, p < (drN P i).parts → ∃ l, l < 6 ∧ 0 < gt (drN P i).tl p l := fun p hp => hiv.tpos hp
      have hdl0 := dfl_le P i
      refine a_iload hB dL_samples_84 rfl ?_
      refine a_iload hB dL_samples_86 rfl ?_
      refine a_icmp_geN_f (tgt := 151) hB dL_samples_88 (by decide) (by omega) (by omega) (by omega) ?_
      refine a_iconstN (v := 0) hB dL_samples_91 (by decide) ?_
      refine a_istore hB dL_samples_92 (by decide) ?_
      refine a_iconstN (v := 0) hB dL_samples_94 (by decide) ?_
      refine a_istore hB dL_samples_95 (by decide) ?_
      have lp97 : ∀ (j97 p : Nat) (n3 l3 : Nat → Nat), p + j97 = P.parts → smIn (drN P i) n1 p n3 l3 → aW G sL_samples B 97 [(0, .ref (xa 0)), (3, .ref na), (4, .ref ua), (5, .ref la), (6, .int (nI v)), (7, .int (nI (dfl P i))), (8, .int (nI i)), (9, .int (nI (rowS (drN P i) p).2.2.1)), (10, .int (nI p))] [] (w4 G na wa ua la n3 ww uu l3 ++ wC) 0 0 := by
        intro j97
        induction j97 with
        | zero =>
          intro p n3 l3 hp9 hin
          have e30 : n3 0 = P.parts := (hin.1 0 (by decide)).trans z0
          have e31 : n3 1 = P.limit := (hin.1 1 (by decide)).trans z1
          have hsum := rowS_sum (n := (drN P i).parts) hpos p (by omega)
          have hdA : (rowS (drN P i) p).2.2.1 < n3 1 → dfl P (i + 1) = dfl P i := fun c => by
            show dfl P i + (if (rowS (drN P i) (drN P i).parts).2.2.1 < (drN P i).limit then 0 else 1) = dfl P i
            rw [hkp, hkl, show P.parts = p by omega, if_pos (by omega)]
            rfl
          have hdB : ¬ (rowS (drN P i) p).2.2.1 < n3 1 → dfl P (i + 1) = dfl P i + 1 := fun c => by
            show dfl P i + (if (rowS (drN P i) (drN P i).parts).2.2.1 < (drN P i).limit then 0 else 1) = dfl P i + 1
            rw [hkp, hkl, show P.parts = p by omega, if_neg (by omega)]
          refine a_iload hB dL_samples_97 rfl ?_
          refine a_aload_n hB dL_samples_99 rfl ?_
          refine a_iconstN (v := 0) hB dL_samples_100 (by decide) ?_
          refine a_ialoadN hB dL_samples_101 0 rfl (by omega) (by decide) ?_
          refine a_icmp_geN_t (tgt := 134) hB dL_samples_102 (by decide) (by omega) (by omega) (by omega) ?_
          refine a_iload hB dL_samples_134 rfl ?_
          refine a_aload_n hB dL_samples_136 rfl ?_
          refine a_iconstN (v := 1) hB dL_samples_137 (by decide) ?_
          refine a_ialoadN hB dL_samples_138 0 rfl (by omega) (by decide) ?_
          refine a_icmp_ltN (tgt := 145) hB dL_samples_139 (by decide) (by omega) (by omega) (fun c139 => ?_) (fun c139 => ?_)
          · refine a_iincN (b := 1) hB dL_samples_145 rfl (by decide) (by decide) ?_
            refine a_goto (tgt := 84) hB dL_samples_148 (by decide) ?_
            exact aW_at [0, 1, 2, 3, 4, 5, 6] (by first | (rw [hdA c139]; rfl) | (rw [hdB c139]; rfl)) rfl rfl (ih84 (i + 1) _ _ (by omega) (smInv.next hkp (by rw [show P.parts = p by omega]; exact hin)))
          · refine a_iincN (b := 1) hB dL_samples_142 rfl (by decide) (by decide) ?_
            refine a_iincN (b := 1) hB dL_samples_145 rfl (by decide) (by decide) ?_
            refine a_goto (tgt := 84) hB dL_samples_148 (by decide) ?_
            exact aW_at [0, 1, 2, 3, 4, 5, 6] (by first | (rw [hdA c139]; rfl) | (rw [hdB c139]; rfl)) rfl rfl (ih84 (i + 1) _ _ (by omega) (smInv.next hkp (by rw [show P.parts = p by omega]; exact hin)))
        | succ j97 ih97 =>
          intro p n3 l3 hp9 hin
          have e30 : n3 0 = P.parts := (hin.1 0 (by decide)).trans z0
          have hpP : p < P.parts := by omega
          have hs3 : n3 2 < 2147483648 := by rw [hin.2.1]; exact rowS_sd hiv.2.2.1 p
          have hT3 : 0 < sumN (fun l => uu (6 * p + l)) 6 := by rw [hw.ut hpP]; exact (hc.1.tt hpP).1
          have hT4 : sumN (fun l => uu (6 * p + l)) 6 < 2 ^ 31 := by rw [hw.ut hpP]; have := (hc.1.tt hpP).2; omega
          have hdl : dl6 (fun l => uu (6 * p + l)) (nxt (n3 2) / 65536 % sumN (fun l => uu (6 * p + l)) 6) = dload (drN P i).tl p (nxt (rowS (drN P i) p).1) := by
            rw [hin.2.1, hw.ut hpP, kt]
            exact dl6_ext (fun l hl => (hw p l hpP hl).2)
          have hrs : (rowS (drN P i) (p + 1)).2.2.1 = (rowS (drN P i) p).2.2.1 + dload (drN P i).tl p (nxt (rowS (drN P i) p).1) := rfl
          refine a_iload hB dL_samples_97 rfl ?_
          refine a_aload_n hB dL_samples_99 rfl ?_
          refine a_iconstN (v := 0) hB dL_samples_100 (by decide) ?_
          refine a_ialoadN hB dL_samples_101 0 rfl (by omega) (by decide) ?_
          refine a_icmp_geN_f (tgt := 134) hB dL_samples_102 (by decide) (by omega) (by omega) (by omega) ?_
          refine a_aload hB dL_samples_105 rfl ?_
          refine a_iload hB dL_samples_107 rfl ?_
          refine a_aload_n hB dL_samples_109 rfl ?_
          refine a_aload hB dL_samples_110 rfl ?_
          refine a_iload hB dL_samples_112 rfl ?_
          refine a_callS hB (c_L_draw (by omega) hs3 hT3 hT4) mk_L_draw ml_L_50 dL_samples_114 rfl rfl [0, 2] rfl (by decide) (fit_of hR (by decide)) (Nat.le_of_ble_eq_true rfl) (fun v114 w114 hq114 hk114 => ?_)
          obtain ⟨rfl, rfl⟩ := hq114
          refine aW_w (ws' := w4 G na wa ua la (uN n3 2 (nxt (n3 2))) ww uu l3 ++ wC) (wput_2.trans rfl) ?_
          rw [hdl]
          refine a_st3 hB dL_samples_117 (by omega) ?_
          refine a_iload hB dL_samples_118 rfl ?_
          refine a_aload hB dL_samples_120 rfl ?_
          refine a_iload hB dL_samples_122 rfl ?_
          refine a_ialoadN hB dL_samples_124 3 rfl (by omega) (by decide) ?_
          rw [uN_at]
          refine a_iaddN hB dL_samples_125 ?_
          refine a_istore hB dL_samples_126 (by decide) ?_
          refine a_iincN (b := 1) hB dL_samples_128 rfl (by decide) (by decide) ?_
          refine a_goto (tgt := 97) hB dL_samples_131 (by decide) ?_
          exact aW_at [0, 1, 2, 3, 4, 5, 6, 7, 8] (by rw [hrs]; rfl) rfl rfl (ih97 (p + 1) _ _ (by omega) hin.step)
      exact aW_at [0, 1, 2, 3, 4, 5, 6, 7, 8] rfl rfl rfl (lp97 P.parts 0 n2 l2 (by omega) (smIn.zero hv))
  exact aW_at [0, 3, 4, 5, 6, 7, 8] rfl rfl rfl (lp84 v 0 n1 ll (by omega) ⟨fun _ _ => rfl, z2, h.2.2.2.2.2.2⟩)
set_option maxHeartbeats 4000000 in
set_option maxRecDepth 100000 in
theorem c_L_samples {G : GP} {na wa ua la : Nat} {xa pa : Nat → Nat} {qs : Nat → Nat → Nat} {mk : Nat} {P : PV} {num : Nat} {nn ww uu ll : Nat → Nat} {wC : va_W} {x y : Int32} (hK : KW G xa pa qs mk P num wC) (h : LI P num nn ww uu ll) (hs : P.sv.num + 64 ≤ 9999) : AM G sL_samples 8 96 [.ref (xa 0), .int x, .int y, .ref na, .ref ua, .ref la] (w4 G na wa ua la nn ww uu ll ++ wC) (StQ G na wa ua la xa pa qs mk (P.sv.num + 64)) := by
  refine AM.of (σ := sL_samples) (by decide +kernel) (by decide +kernel) (Nat.le_of_ble_eq_true rfl) (fun B hB hR hE0 hN => ?_)
  have hE := BE.of hE0
  refine a_inc5 hB dL_samples_0 dL_samples_1 dL_samples_2 dL_samples_3 dL_samples_5 dL_samples_8 dL_samples_9 dL_samples_10 dL_samples_11 dL_samples_12 dL_samples_13 dL_samples_14 rfl rfl (by decide) ⟨h.2.2.2.2.1.2.2.2.2.2, h.2.2.2.1⟩ (fun n1 hn1 gn1 => ?_)
  refine a_iload_n hB dL_samples_15 rfl ?_
  refine a_bipushN (v := 7) hB dL_samples_16 (by decide) ?_
  refine a_callS hB (c_L_at (by omega) (by omega)) mk_L_at ml_L_20 dL_samples_18 rfl rfl [] rfl (by decide) (fit_of hR (by decide)) (Nat.le_of_ble_eq_true rfl) (fun v18 w18 hq18 hk18 => ?_)
  obtain ⟨⟨r18, hr18, rfl⟩, rfl⟩ := hq18
  refine aW_w (wput_e _) ?_
  refine a_if_neN (tgt := 54) hB dL_samples_21 (by decide) (by omega) (fun c21 => ?_) (fun c21 => ?_)
  · refine a_iconstN (v := 1) hB dL_samples_54 (by decide) ?_
    refine a_iload_n hB dL_samples_55 rfl ?_
    refine a_iload_n hB dL_samples_56 rfl ?_
    refine a_iconstN (v := 3) hB dL_samples_57 (by decide) ?_
    refine a_ishr hB dL_samples_58 ?_
    refine a_iconstN (v := 4) hB dL_samples_59 (by decide) ?_
    refine a_callS hB (c_L_at (by omega) (by omega)) mk_L_at ml_L_20 dL_samples_60 rfl rfl [] rfl (by decide) (fit_of hR (by decide)) (Nat.le_of_ble_eq_true rfl) (fun v60 w60 hq60 hk60 => ?_)
    obtain ⟨⟨r60, hr60, rfl⟩, rfl⟩ := hq60
    refine aW_w (wput_e _) ?_
    refine a_if_neN (tgt := 71) hB dL_samples_63 (by decide) (by omega) (fun c63 => ?_) (fun c63 => ?_)
    · refine a_iconstN (v := 5) hB dL_samples_71 (by decide) ?_
      refine a_callS hB (c_L_at (by omega) (by omega)) mk_L_at ml_L_20 dL_samples_72 rfl rfl [] rfl (by decide) (fit_of hR (by decide)) (Nat.le_of_ble_eq_true rfl) (fun v72 w72 hq72 hk72 => ?_)
      obtain ⟨⟨r72, hr72, rfl⟩, rfl⟩ := hq72
      refine aW_w (wput_e _) ?_
      refine a_iaddN hB dL_samples_75 ?_
      exact aW_at [0, 1, 2, 3, 4, 5] rfl rfl rfl (ss_draw hB hR hE hK h hn1 gn1 (by omega) (by omega) (by omega))
    · refine a_bipushN (v := 64) hB dL_samples_66 (by decide) ?_
      refine a_goto (tgt := 72) hB dL_samples_68 (by decide) ?_
      refine a_callS hB (c_L_at (by omega) (by omega)) mk_L_at ml_L_20 dL_samples_72 rfl rfl [] rfl (by decide) (fit_of hR (by decide)) (Nat.le_of_ble_eq_true rfl) (fun v72 w72 hq72 hk72 => ?_)
      obtain ⟨⟨r72, hr72, rfl⟩, rfl⟩ := hq72
      refine aW_w (wput_e _) ?_
      refine a_iaddN hB dL_samples_75 ?_
      exact aW_at [0, 1, 2, 3, 4, 5] rfl rfl rfl (ss_draw hB hR hE hK h hn1 gn1 (by omega) (by omega) (by omega))
  · exact aW_at [0, 1, 2, 3, 4, 5] rfl rfl rfl (ss_seed hB hR hE hK h hn1 gn1)
