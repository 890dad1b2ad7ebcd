/-- what parts and samples leave: 1, and again the law's numbers beside the class -/
def StQ (G : GP) (na wa ua la : Nat) (xa pa : Nat → Nat) (qs : Nat → Nat → Nat) (mk bnd : Nat) : Option Value → va_W → Prop := fun v w =>
  v = some (.int (nI 1)) ∧ ∃ (qs' : Nat → Nat → Nat) (mk' : Nat) (P' : PV) (num' : Nat) (nn' ww' uu' ll' : Nat → Nat) (wD : va_W), w = w4 G na wa ua la nn' ww' uu' ll' ++ wD ∧ Ext qs qs' mk mk' ∧ KW G xa pa qs' mk' P' num' wD ∧ LI P' num' nn' ww' uu' ll' ∧ P'.sv.num ≤ bnd
/-- the numbers behind the forgetting -/
def nnZ (P : PV) (num : Nat) (nn : Nat → Nat) : Prop := nn 0 = P.parts ∧ nn 1 = P.limit ∧ nn 2 = P.seed ∧ nn 3 = 0 ∧ nn 4 = 0 ∧ nn 5 = num
theorem nn_same {P P' : PV} {num : Nat} {nn n1 : Nat → Nat} (hz : nnZ P num nn) (h1 : ∀ j, ¬ j = 5 → n1 j = nn j) (h5 : n1 5 = min (num + 1) 6) (e0 : P'.parts = P.parts) (e1 : P'.limit = P.limit) (e2 : P'.seed = P.seed) (e3 : P'.sv.num = 0) (e4 : P'.sv.flt = 0) : nnOK P' (min (num + 1) 6) n1 := by
  obtain ⟨z0, z1, z2, z3, z4, z5⟩ := hz
  exact ⟨(h1 0 (by decide)).trans (z0.trans e0.symm), (h1 1 (by decide)).trans (z1.trans e1.symm), (h1 2 (by decide)).trans (z2.trans e2.symm), (h1 3 (by decide)).trans (z3.trans e3.symm), (h1 4 (by decide)).trans (z4.trans e4.symm), h5⟩
theorem nn_add {P : PV} {num v : Nat} {nn n1 : Nat → Nat} (hz : nnZ P num nn) (h1 : ∀ j, ¬ j = 5 → n1 j = uN nn 0 (nn 0 + 1) j) (h5 : n1 5 = min (num + 1) 6) : nnOK (P.addPart v) (min (num + 1) 6) n1 := by
  obtain ⟨z0, z1, z2, z3, z4, z5⟩ := hz
  have eP : P.addPart v = mkP (onesW P.wt P.parts (v + 1)) (onesW P.tl P.parts (v + 1)) P.sv.clr (P.parts + 1) P.limit P.seed := adN_eq P.addE P.parts (v + 1)
  rw [eP]
  refine ⟨(h1 0 (by decide)).trans ?_, (h1 1 (by decide)).trans z1, (h1 2 (by decide)).trans z2, (h1 3 (by decide)).trans z3, (h1 4 (by decide)).trans z4, h5⟩
  rw [uN_at, z0]
  rfl
theorem nn_drop {P : PV} {num p : Nat} {nn n1 : Nat → Nat} (hz : nnZ P num nn) (h1 : ∀ j, ¬ j = 5 → n1 j = nn j) (h5 : n1 5 = min (num + 1) 6) : nnOK (P.drop p) (min (num + 1) 6) (uN n1 0 (n1 0 - 1)) := by
  obtain ⟨z0, z1, z2, z3, z4, z5⟩ := hz
  refine ⟨?_, (h1 1 (by decide)).trans z1, (h1 2 (by decide)).trans z2, (h1 3 (by decide)).trans z3, (h1 4 (by decide)).trans z4, h5⟩
  rw [uN_at, h1 0 (by decide), z0]
  rfl
theorem nn_lim {P : PV} {num v : Nat} {nn n1 : Nat → Nat} (hz : nnZ P num nn) (h1 : ∀ j, ¬ j = 5 → n1 j = nn j) (h5 : n1 5 = min (num + 1) 6) : nnOK (P.setLim v) (min (num + 1) 6) (uN n1 1 v) := by
  obtain ⟨z0, z1, z2, z3, z4, z5⟩ := hz
  exact ⟨(h1 0 (by decide)).trans z0, uN_at _ _ _, (h1 2 (by decide)).trans z2, (h1 3 (by decide)).trans z3, (h1 4 (by decide)).trans z4, h5⟩
theorem addP_num (P : PV) (v : Nat) : (P.addPart v).sv.num = 0 := by
  have eP : P.addPart v = mkP (onesW P.wt P.parts (v + 1)) (onesW P.tl P.parts (v + 1)) P.sv.clr (P.parts + 1) P.limit P.seed := adN_eq P.addE P.parts (v + 1)
  rw [eP]
  rfl
def adInv (p r i : Nat) (ww uu w1 u1 : Nat → Nat) : Prop := ∀ q l, q < 4 → l < 6 → w1 (6 * q + l) = (if q = p ∧ l < i then (if l ≤ r then 1 else 0) else ww (6 * q + l)) ∧ u1 (6 * q + l) = (if q = p ∧ l < i then (if l ≤ r then 1 else 0) else uu (6 * q + l))
theorem adInv.step {p r i v : Nat} {ww uu w1 u1 : Nat → Nat} (h : adInv p r i ww uu w1 u1) (hi : i < 6) (hv : v = if i ≤ r then 1 else 0) : adInv p r (i + 1) ww uu (uN w1 (6 * p + i) v) (uN u1 (6 * p + i) (uN w1 (6 * p + i) v (6 * p + i))) := by
  intro q l hq hl
  obtain ⟨a, b⟩ := h q l hq hl
  rw [uN_at]
  by_cases y : q = p ∧ l = i
  · obtain ⟨rfl, rfl⟩ := y
    have z2 : q = q ∧ l < l + 1 := ⟨rfl, Nat.lt_succ_self _⟩
    exact ⟨(uN_at _ _ _).trans (hv.trans (if_pos z2).symm), (uN_at _ _ _).trans (hv.trans (if_pos z2).symm)⟩
  · have ne : ¬ 6 * q + l = 6 * p + i := by omega
    rw [uN_ne ne, uN_ne ne, a, b]
    by_cases z : q = p ∧ l < i
    · have z2 : q = p ∧ l < i + 1 := by omega
      rw [if_pos z, if_pos z, if_pos z2, if_pos z2]; exact ⟨rfl, rfl⟩
    · have z2 : ¬ (q = p ∧ l < i + 1) := by omega
      rw [if_neg z, if_neg z, if_neg z2, if_neg z2]; exact ⟨rfl, rfl⟩
theorem adInv.zero {p r : Nat} {ww uu : Nat → Nat} : adInv p r 0 ww uu ww uu := by
  intro q l _ _
  have z2 : ¬ (q = p ∧ l < 0) := by omega
  rw [if_neg z2, if_neg z2]
  exact ⟨rfl, rfl⟩
set_option maxHeartbeats 4000000 in
set_option maxRecDepth 100000 in
theorem ps_add {G : GP} {B : Bd} {na wa ua la : Nat} {xa pa : Nat → Nat} {qs : Nat → Nat → Nat} {mk : Nat} {P : PV} {num : Nat} {nE nn ww uu ll : Nat → Nat} {wC : va_W} {x y : Int32} {act : Nat} (hB : Bok G sL_parts B) (hR : B.room sL_parts 8 96) (hE : BE G B (w4 G na wa ua la nE ww uu ll ++ wC) 8 96 (StQ G na wa ua la xa pa qs mk 0)) (hK : KW G xa pa qs mk P num wC) (h : LI P num nE ww uu ll) (hz : nnZ P num nn) (hp3 : nn 0 < 3) : aW G sL_parts B 34 [(0, .ref (xa 0)), (1, .int x), (2, .int y), (3, .ref na), (4, .ref wa), (5, .ref ua), (6, .int (nI act))] [] (w4 G na wa ua la nn ww uu ll ++ wC) 0 0 := by
  obtain ⟨z0, z1, z2, z3, z4, z5⟩ := id hz
  have h3 := h.2.1
  have h15 := h.2.2.1
  have h6 := h.2.2.2.1
  have hw := h.2.2.2.2.2.1
  have hc := h.c
  refine a_aload_n hB dL_parts_34 rfl ?_
  refine a_iconstN (v := 0) hB dL_parts_35 (by decide) ?_
  refine a_dup2_11 hB dL_parts_36 rfl rfl ?_
  refine a_ialoadN hB dL_parts_37 0 rfl (by omega) (by decide) ?_
  refine a_dup_x2 hB dL_parts_38 rfl rfl rfl ?_
  refine a_iconstN (v := 1) hB dL_parts_39 (by decide) ?_
  refine a_iaddN hB dL_parts_40 ?_
  refine a_st0 hB dL_parts_41 (by omega) ?_
  refine a_istore hB dL_parts_42 (by decide) ?_
  refine a_iload_n hB dL_parts_44 rfl ?_
  refine a_bipushN (v := 6) hB dL_parts_45 (by decide) ?_
  refine a_callS hB (c_L_at (by omega) (by omega)) mk_L_at ml_L_20 dL_parts_47 rfl rfl [] rfl (by decide) (fit_of hR (by decide)) (Nat.le_of_ble_eq_true rfl) (fun v47 w47 hq47 hk47 => ?_)
  obtain ⟨⟨r47, hr47, rfl⟩, rfl⟩ := hq47
  refine aW_w (wput_e _) ?_
  refine a_istore hB dL_parts_50 (by decide) ?_
  refine a_iconstN (v := 0) hB dL_parts_52 (by decide) ?_
  refine a_istore hB dL_parts_53 (by decide) ?_
  have lp55 : ∀ (j55 i : Nat) (w1 u1 : Nat → Nat), i + j55 = 6 → adInv (nn 0) r47 i ww uu w1 u1 → aW G sL_parts B 55 [(0, .ref (xa 0)), (3, .ref na), (4, .ref wa), (5, .ref ua), (7, .int (nI (nn 0))), (8, .int (nI r47)), (9, .int (nI i))] [] (w4 G na wa ua la (uN nn 0 (nn 0 + 1)) w1 u1 ll ++ wC) 0 0 := by
    intro j55
    induction j55 with
    | zero =>
      intro i w1 u1 hi hv
      refine a_iload hB dL_parts_55 rfl ?_
      refine a_bipushN (v := 6) hB dL_parts_57 (by decide) ?_
      refine a_icmp_geN_t (tgt := 113) hB dL_parts_59 (by decide) (by omega) (by omega) (by omega) ?_
      have hfin : ∀ q l, q < 4 → l < 6 → w1 (6 * q + l) = (if q = P.parts then (if l ≤ r47 then 1 else 0) else ww (6 * q + l)) ∧ u1 (6 * q + l) = (if q = P.parts then (if l ≤ r47 then 1 else 0) else uu (6 * q + l)) := fun q l hq hl => by
        obtain ⟨a, b⟩ := hv q l hq hl
        rw [a, b]
        by_cases e : q = P.parts
        · rw [if_pos (show q = nn 0 ∧ l < i by omega), if_pos (show q = nn 0 ∧ l < i by omega), if_pos e, if_pos e]; exact ⟨rfl, rfl⟩
        · rw [if_neg (show ¬ (q = nn 0 ∧ l < i) by omega), if_neg (show ¬ (q = nn 0 ∧ l < i) by omega), if_neg e, if_neg e]; exact ⟨rfl, rfl⟩
      refine a_inc5 hB dL_parts_113 dL_parts_114 dL_parts_115 dL_parts_116 dL_parts_118 dL_parts_121 dL_parts_122 dL_parts_123 dL_parts_124 dL_parts_125 dL_parts_126 dL_parts_127 rfl rfl (by decide) ⟨z5, h6⟩ (fun n1 hn1 gn1 => ?_)
      refine a_aload_n hB dL_parts_128 rfl ?_
      refine a_iload hB dL_parts_129 rfl ?_
      refine a_K hB hR (K_addPart hc hr47 (by omega)) mk_X9_addPart ml_L_24 dL_parts_131 rfl rfl hK ⟨by decide, by decide, by omega, by omega⟩ (Nat.le_of_ble_eq_true rfl) (fun qs131 mk131 wD131 he131 hK131 => ?_)
      refine a_iload hB dL_parts_134 rfl ?_
      refine a_icmp_neN_f (tgt := 143) hB dL_parts_136 (by decide) (by omega) (by omega) z0.symm ?_
      refine a_iconstN (v := 1) hB dL_parts_139 (by decide) ?_
      refine a_goto (tgt := 144) hB dL_parts_140 (by decide) ?_
      exact a_zret hB hE rfl (by decide) dL_parts_144 (Nat.le_of_ble_eq_true rfl) (Nat.le_of_ble_eq_true rfl) (hK.keep hK131 he131 rfl) ⟨rfl, qs131, mk131, _, _, _, _, _, _, wD131, rfl, he131, hK131, h.addPart hr47 (by omega) (nn_add hz hn1 gn1) hfin, Nat.le_of_eq (addP_num P r47)⟩
    | succ j55 ih55 =>
      intro i w1 u1 hi hv
      refine a_iload hB dL_parts_55 rfl ?_
      refine a_bipushN (v := 6) hB dL_parts_57 (by decide) ?_
      refine a_icmp_geN_f (tgt := 113) hB dL_parts_59 (by decide) (by omega) (by omega) (by omega) ?_
      refine a_aload hB dL_parts_62 rfl ?_
      refine a_bipushN (v := 6) hB dL_parts_64 (by decide) ?_
      refine a_iload hB dL_parts_66 rfl ?_
      refine a_imulN hB dL_parts_68 ?_
      refine a_iload hB dL_parts_69 rfl ?_
      refine a_iaddN hB dL_parts_71 ?_
      refine a_iload hB dL_parts_72 rfl ?_
      refine a_iload hB dL_parts_74 rfl ?_
      refine a_icmp_gtN (tgt := 83) hB dL_parts_76 (by decide) (by omega) (by omega) (fun c76 => ?_) (fun c76 => ?_)
      · refine a_iconstN (v := 0) hB dL_parts_83 (by decide) ?_
        refine a_st1 hB dL_parts_84 (by omega) ?_
        refine a_aload hB dL_parts_85 rfl ?_
        refine a_bipushN (v := 6) hB dL_parts_87 (by decide) ?_
        refine a_iload hB dL_parts_89 rfl ?_
        refine a_imulN hB dL_parts_91 ?_
        refine a_iload hB dL_parts_92 rfl ?_
        refine a_iaddN hB dL_parts_94 ?_
        refine a_aload hB dL_parts_95 rfl ?_
        refine a_bipushN (v := 6) hB dL_parts_97 (by decide) ?_
        refine a_iload hB dL_parts_99 rfl ?_
        refine a_imulN hB dL_parts_101 ?_
        refine a_iload hB dL_parts_102 rfl ?_
        refine a_iaddN hB dL_parts_104 ?_
        refine a_ialoadN hB dL_parts_105 1 rfl (by omega) (by decide) ?_
        refine a_st2 hB dL_parts_106 (by omega) ?_
        refine a_iincN (b := 1) hB dL_parts_107 rfl (by decide) (by decide) ?_
        refine a_goto (tgt := 55) hB dL_parts_110 (by decide) ?_
        exact aW_at [0, 1, 2, 3, 4, 5, 6] rfl rfl rfl (ih55 (i + 1) _ _ (by omega) (hv.step (by omega) (by first | exact (if_neg (Nat.not_le.mpr c76)).symm | exact (if_pos (Nat.not_lt.mp c76)).symm)))
      · refine a_iconstN (v := 1) hB dL_parts_79 (by decide) ?_
        refine a_goto (tgt := 84) hB dL_parts_80 (by decide) ?_
        refine a_st1 hB dL_parts_84 (by omega) ?_
        refine a_aload hB dL_parts_85 rfl ?_
        refine a_bipushN (v := 6) hB dL_parts_87 (by decide) ?_
        refine a_iload hB dL_parts_89 rfl ?_
        refine a_imulN hB dL_parts_91 ?_
        refine a_iload hB dL_parts_92 rfl ?_
        refine a_iaddN hB dL_parts_94 ?_
        refine a_aload hB dL_parts_95 rfl ?_
        refine a_bipushN (v := 6) hB dL_parts_97 (by decide) ?_
        refine a_iload hB dL_parts_99 rfl ?_
        refine a_imulN hB dL_parts_101 ?_
        refine a_iload hB dL_parts_102 rfl ?_
        refine a_iaddN hB dL_parts_104 ?_
        refine a_ialoadN hB dL_parts_105 1 rfl (by omega) (by decide) ?_
        refine a_st2 hB dL_parts_106 (by omega) ?_
        refine a_iincN (b := 1) hB dL_parts_107 rfl (by decide) (by decide) ?_
        refine a_goto (tgt := 55) hB dL_parts_110 (by decide) ?_
        exact aW_at [0, 1, 2, 3, 4, 5, 6] rfl rfl rfl (ih55 (i + 1) _ _ (by omega) (hv.step (by omega) (by first | exact (if_neg (Nat.not_le.mpr c76)).symm | exact (if_pos (Nat.not_lt.mp c76)).symm)))
  exact aW_at [0, 3, 4, 5, 7, 8, 9] rfl rfl rfl (lp55 6 0 ww uu (by omega) adInv.zero)
set_option maxHeartbeats 4000000 in
set_option maxRecDepth 100000 in
theorem ps_weigh {G : GP} {B : Bd} {na wa ua la : Nat} {xa pa : Nat → Nat} {qs : Nat → Nat → Nat} {mk : Nat} {P : PV} {num : Nat} {nE nn ww uu ll : Nat → Nat} {wC : va_W} {x y : Int32} {act p l : Nat} (hB : Bok G sL_parts B) (hR : B.room sL_parts 8 96) (hE : BE G B (w4 G na wa ua la nE ww uu ll ++ wC) 8 96 (StQ G na wa ua la xa pa qs mk 0)) (hK : KW G xa pa qs mk P num wC) (h : LI P num nE ww uu ll) (hz : nnZ P num nn) (hp : p < nn 0) (hl : l < 6) : aW G sL_parts B 170 [(0, .ref (xa 0)), (1, .int x), (2, .int y), (3, .ref na), (4, .ref wa), (5, .ref ua), (6, .int (nI act)), (7, .int (nI p)), (8, .int (nI l))] [] (w4 G na wa ua la nn ww uu ll ++ wC) 0 0 := by
  obtain ⟨z0, z1, z2, z3, z4, z5⟩ := id hz
  have h3 := h.2.1
  have h15 := h.2.2.1
  have h6 := h.2.2.2.1
  have hw := h.2.2.2.2.2.1
  have hc := h.c
  have hpP : p < P.parts := by omega
  obtain ⟨ew, eu⟩ := hw p l hpP hl
  have htw : sumN (fun l => ww (6 * p + l)) 6 = tot P.wt p := h.tw hpP
  have hge : gt P.wt p l ≤ tot P.wt p := sumN_ge (f := fun l => gt P.wt p l) hl
  have ht54 : tot P.wt p ≤ 54 := hc.1.1.t54 (by omega)
  have hg9 : gt P.wt p l ≤ 9 := hc.1.1.2.1 p l (by omega) hl
  have j248 : ∀ v, v ≤ 9 → ¬ tot P.wt p - gt P.wt p l + v = 0 → ∀ u1, (u1 = if v = 0 ∨ gt P.wt p l = 0 then uN uu (6 * p + l) v else uu) → aW G sL_parts B 248 [(0, .ref (xa 0)), (3, .ref na), (4, .ref wa), (5, .ref ua), (7, .int (nI p)), (8, .int (nI l)), (9, .int (nI (ww (6 * p + l)))), (10, .int (nI v))] [] (w4 G na wa ua la nn (uN ww (6 * p + l) v) u1 ll ++ wC) 0 0 := by
    intro v hv9 hvn u1 hu1
    have hvz : ¬ (v = 0 ∧ tot P.wt p = gt P.wt p l) := by omega
    refine a_inc5 hB dL_parts_248 dL_parts_249 dL_parts_250 dL_parts_251 dL_parts_253 dL_parts_256 dL_parts_257 dL_parts_258 dL_parts_259 dL_parts_260 dL_parts_261 dL_parts_262 rfl rfl (by decide) ⟨z5, h6⟩ (fun n1 hn1 gn1 => ?_)
    refine a_aload_n hB dL_parts_263 rfl ?_
    refine a_iload hB dL_parts_264 rfl ?_
    refine a_iload hB dL_parts_266 rfl ?_
    refine a_iload hB dL_parts_268 rfl ?_
    refine a_K hB hR (K_weigh hc hpP hl hv9 hvz) mk_X9_weigh ml_L_30 dL_parts_270 rfl rfl hK ⟨by decide, by decide, by omega, by omega⟩ (Nat.le_of_ble_eq_true rfl) (fun qs270 mk270 wD270 he270 hK270 => ?_)
    refine a_iload hB dL_parts_273 rfl ?_
    refine a_icmp_neN_f (tgt := 282) hB dL_parts_275 (by decide) (by omega) (by omega) ew.symm ?_
    refine a_iconstN (v := 1) hB dL_parts_278 (by decide) ?_
    refine a_goto (tgt := 283) hB dL_parts_279 (by decide) ?_
    exact a_zret hB hE rfl (by decide) dL_parts_283 (Nat.le_of_ble_eq_true rfl) (Nat.le_of_ble_eq_true rfl) (hK.keep hK270 he270 rfl) ⟨rfl, qs270, mk270, _, _, _, _, _, _, wD270, rfl, he270, hK270, h.weigh hpP hl hv9 hvn (nn_same hz hn1 gn1 rfl rfl rfl rfl rfl) hu1, Nat.le_refl _⟩
  have j212 : ∀ v, v ≤ 9 → ¬ tot P.wt p - gt P.wt p l + v = 0 → aW G sL_parts B 212 [(0, .ref (xa 0)), (3, .ref na), (4, .ref wa), (5, .ref ua), (7, .int (nI p)), (8, .int (nI l)), (9, .int (nI (ww (6 * p + l)))), (10, .int (nI v))] [] (w4 G na wa ua la nn ww uu ll ++ wC) 0 0 := by
    intro v hv9 hvn
    refine a_aload hB dL_parts_212 rfl ?_
    refine a_bipushN (v := 6) hB dL_parts_214 (by decide) ?_
    refine a_iload hB dL_parts_216 rfl ?_
    refine a_imulN hB dL_parts_218 ?_
    refine a_iload hB dL_parts_219 rfl ?_
    refine a_iaddN hB dL_parts_221 ?_
    refine a_iload hB dL_parts_222 rfl ?_
    refine a_st1 hB dL_parts_224 (by omega) ?_
    refine a_iload hB dL_parts_225 rfl ?_
    refine a_if_eqN (tgt := 235) hB dL_parts_227 (by decide) (by omega) (fun c227 => ?_) (fun c227 => ?_)
    · refine a_aload hB dL_parts_235 rfl ?_
      refine a_bipushN (v := 6) hB dL_parts_237 (by decide) ?_
      refine a_iload hB dL_parts_239 rfl ?_
      refine a_imulN hB dL_parts_241 ?_
      refine a_iload hB dL_parts_242 rfl ?_
      refine a_iaddN hB dL_parts_244 ?_
      refine a_iload hB dL_parts_245 rfl ?_
      refine a_st2 hB dL_parts_247 (by omega) ?_
      exact aW_at [0, 1, 2, 3, 4, 5, 6, 7] rfl rfl rfl (j248 v hv9 hvn _ (by first | exact (if_pos (Or.inr (by omega))).symm | exact (if_pos (Or.inl (by omega))).symm | exact (if_neg (by omega)).symm))
    · refine a_iload hB dL_parts_230 rfl ?_
      refine a_if_neN (tgt := 248) hB dL_parts_232 (by decide) (by omega) (fun c232 => ?_) (fun c232 => ?_)
      · exact aW_at [0, 1, 2, 3, 4, 5, 6, 7] rfl rfl rfl (j248 v hv9 hvn _ (by first | exact (if_pos (Or.inr (by omega))).symm | exact (if_pos (Or.inl (by omega))).symm | exact (if_neg (by omega)).symm))
      · refine a_aload hB dL_parts_235 rfl ?_
        refine a_bipushN (v := 6) hB dL_parts_237 (by decide) ?_
        refine a_iload hB dL_parts_239 rfl ?_
        refine a_imulN hB dL_parts_241 ?_
        refine a_iload hB dL_parts_242 rfl ?_
        refine a_iaddN hB dL_parts_244 ?_
        refine a_iload hB dL_parts_245 rfl ?_
        refine a_st2 hB dL_parts_247 (by omega) ?_
        exact aW_at [0, 1, 2, 3, 4, 5, 6, 7] rfl rfl rfl (j248 v hv9 hvn _ (by first | exact (if_pos (Or.inr (by omega))).symm | exact (if_pos (Or.inl (by omega))).symm | exact (if_neg (by omega)).symm))
  refine a_aload hB dL_parts_170 rfl ?_
  refine a_bipushN (v := 6) hB dL_parts_172 (by decide) ?_
  refine a_iload hB dL_parts_174 rfl ?_
  refine a_imulN hB dL_parts_176 ?_
  refine a_iload hB dL_parts_177 rfl ?_
  refine a_iaddN hB dL_parts_179 ?_
  refine a_ialoadN hB dL_parts_180 1 rfl (by omega) (by decide) ?_
  refine a_istore hB dL_parts_181 (by decide) ?_
  refine a_iload_n hB dL_parts_183 rfl ?_
  refine a_iconstN (v := 5) hB dL_parts_184 (by decide) ?_
  refine a_ishr hB dL_parts_185 ?_
  refine a_bipushN (v := 10) hB dL_parts_186 (by decide) ?_
  refine a_callS hB (c_L_at (by omega) (by omega)) mk_L_at ml_L_20 dL_parts_188 rfl rfl [] rfl (by decide) (fit_of hR (by decide)) (Nat.le_of_ble_eq_true rfl) (fun v188 w188 hq188 hk188 => ?_)
  obtain ⟨⟨r188, hr188, rfl⟩, rfl⟩ := hq188
  refine aW_w (wput_e _) ?_
  refine a_istore hB dL_parts_191 (by decide) ?_
  have hrv : r188 ≤ 9 := by omega
  refine a_aload hB dL_parts_193 rfl ?_
  refine a_iload hB dL_parts_195 rfl ?_
  refine a_callSr hB (c_L_total (by omega)) mk_L_total ml_L_14 dL_parts_197 rfl rfl [1] rfl (by decide) (fit_of hR (by decide)) (Nat.le_of_ble_eq_true rfl) ?_
  refine a_iload hB dL_parts_200 rfl ?_
  refine a_isubN hB dL_parts_202 (by rw [htw]; omega) ?_
  refine a_iload hB dL_parts_203 rfl ?_
  refine a_iaddN hB dL_parts_205 ?_
  rw [htw]
  refine a_if_neN (tgt := 212) hB dL_parts_206 (by decide) (by omega) (fun c206 => ?_) (fun c206 => ?_)
  · exact aW_at [0, 3, 4, 5, 7, 8, 9, 10] rfl rfl rfl (j212 _ (by omega) (by first | omega | (intro q; omega)))
  · refine a_iconstN (v := 3) hB dL_parts_209 (by decide) ?_
    refine a_istore hB dL_parts_210 (by decide) ?_
    exact aW_at [0, 3, 4, 5, 7, 8, 9, 10] rfl rfl rfl (j212 _ (by omega) (by first | omega | (intro q; omega)))
set_option maxHeartbeats 4000000 in
set_option maxRecDepth 100000 in
theorem ps_tiltAll {G : GP} {B : Bd} {na wa ua la : Nat} {xa pa : Nat → Nat} {qs : Nat → Nat → Nat} {mk : Nat} {P : PV} {num : Nat} {nE nn ww uu ll : Nat → Nat} {wC : va_W} {x y : Int32} {act p l : Nat} (hB : Bok G sL_parts B) (hR : B.room sL_parts 8 96) (hE : BE G B (w4 G na wa ua la nE ww uu ll ++ wC) 8 96 (StQ G na wa ua la xa pa qs mk 0)) (hK : KW G xa pa qs mk P num wC) (h : LI P num nE ww uu ll) (hz : nnZ P num nn) : aW G sL_parts B 290 [(0, .ref (xa 0)), (1, .int x), (2, .int y), (3, .ref na), (4, .ref wa), (5, .ref ua), (6, .int (nI act)), (7, .int (nI p)), (8, .int (nI l))] [] (w4 G na wa ua la nn ww uu ll ++ wC) 0 0 := by
  obtain ⟨z0, z1, z2, z3, z4, z5⟩ := id hz
  have h3 := h.2.1
  have h15 := h.2.2.1
  have h6 := h.2.2.2.1
  have hw := h.2.2.2.2.2.1
  have hc := h.c
  refine a_iload_n hB dL_parts_290 rfl ?_
  refine a_bipushN (v := 10) hB dL_parts_291 (by decide) ?_
  refine a_callS hB (c_L_at (by omega) (by omega)) mk_L_at ml_L_20 dL_parts_293 rfl rfl [] rfl (by decide) (fit_of hR (by decide)) (Nat.le_of_ble_eq_true rfl) (fun v293 w293 hq293 hk293 => ?_)
  obtain ⟨⟨r293, hr293, rfl⟩, rfl⟩ := hq293
  refine aW_w (wput_e _) ?_
  refine a_istore hB dL_parts_296 (by decide) ?_
  refine a_iconstN (v := 0) hB dL_parts_298 (by decide) ?_
  refine a_istore hB dL_parts_299 (by decide) ?_
  refine a_iconstN (v := 0) hB dL_parts_301 (by decide) ?_
  refine a_istore hB dL_parts_302 (by decide) ?_
  have lp304 : ∀ (j304 i : Nat) (u1 : Nat → Nat), i + j304 = 6 * nn 0 → (∀ j, j < i → u1 j = (fun j => min (ww j * (1 + j % 6 * r293)) 99) j) → aW G sL_parts B 304 [(0, .ref (xa 0)), (3, .ref na), (4, .ref wa), (5, .ref ua), (9, .int (nI r293)), (10, .int (nI (sumN (fun j => min (ww j * (1 + j % 6 * r293)) 99) i))), (11, .int (nI i))] [] (w4 G na wa ua la nn ww u1 ll ++ wC) 0 0 := by
    intro j304
    induction j304 with
    | zero =>
      intro i u1 hi hv
      refine a_iload hB dL_parts_304 rfl ?_
      refine a_bipushN (v := 6) hB dL_parts_306 (by decide) ?_
      refine a_aload_n hB dL_parts_308 rfl ?_
      refine a_iconstN (v := 0) hB dL_parts_309 (by decide) ?_
      refine a_ialoadN hB dL_parts_310 0 rfl (by omega) (by decide) ?_
      refine a_imulN hB dL_parts_311 ?_
      refine a_icmp_geN_t (tgt := 369) hB dL_parts_312 (by decide) (by omega) (by omega) (by omega) ?_
      have hi6 : i = 6 * nn 0 := by omega
      have hu4 : ∀ q m, q < P.parts → m < 6 → u1 (6 * q + m) = min (ww (6 * q + m) * (1 + m * r293)) 99 := fun q m hq hm => by
        have e := hv (6 * q + m) (by omega)
        rw [e]
        show min (ww (6 * q + m) * (1 + (6 * q + m) % 6 * r293)) 99 = _
        rw [show (6 * q + m) % 6 = m by omega]
      have hle : sumN (fun j => min (ww j * (1 + j % 6 * r293)) 99) i ≤ i * 99 := sumN_leN i (fun j _ => Nat.min_le_right _ _)
      have hsum : sumN (fun j => min (ww j * (1 + j % 6 * r293)) 99) i = sumN u1 (6 * P.parts) := by
        rw [hi6, z0]
        exact sumN_eq _ (fun j hj => (hv j (by omega)).symm)
      refine a_inc5 hB dL_parts_369 dL_parts_370 dL_parts_371 dL_parts_372 dL_parts_374 dL_parts_377 dL_parts_378 dL_parts_379 dL_parts_380 dL_parts_381 dL_parts_382 dL_parts_383 rfl rfl (by decide) ⟨z5, h6⟩ (fun n1 hn1 gn1 => ?_)
      refine a_aload_n hB dL_parts_384 rfl ?_
      refine a_iload hB dL_parts_385 rfl ?_
      refine a_K hB hR (K_tiltAll hc (by omega)) mk_X9_tiltAll ml_L_34 dL_parts_387 rfl rfl hK ⟨by decide, by decide, by omega, by omega⟩ (Nat.le_of_ble_eq_true rfl) (fun qs387 mk387 wD387 he387 hK387 => ?_)
      obtain ⟨hLI, hans0⟩ := h.tiltAll (nn_same hz hn1 gn1 rfl rfl rfl rfl rfl) hu4
      have hans := hsum.trans hans0
      refine a_iload hB dL_parts_390 rfl ?_
      refine a_icmp_neN_f (tgt := 399) hB dL_parts_392 (by decide) (by omega) (by omega) hans.symm ?_
      refine a_iconstN (v := 1) hB dL_parts_395 (by decide) ?_
      refine a_goto (tgt := 400) hB dL_parts_396 (by decide) ?_
      exact a_zret hB hE rfl (by decide) dL_parts_400 (Nat.le_of_ble_eq_true rfl) (Nat.le_of_ble_eq_true rfl) (hK.keep hK387 he387 rfl) ⟨rfl, qs387, mk387, _, _, _, _, _, _, wD387, rfl, he387, hK387, hLI, Nat.le_refl _⟩
    | succ j304 ih304 =>
      intro i u1 hi hv
      have hi18 : i < 18 := by omega
      have ew9 : ww i ≤ 9 := by
        have e9 := (hw (i / 6) (i % 6) (by omega) (Nat.mod_lt _ (by decide))).1
        rw [show 6 * (i / 6) + i % 6 = i by omega] at e9
        rw [e9]
        exact hc.1.1.2.1 _ _ (by omega) (Nat.mod_lt _ (by decide))
      have hm5 : i % 6 * r293 ≤ 5 * 9 := Nat.mul_le_mul (by omega) (by omega)
      have hv414 : ww i * (1 + i % 6 * r293) ≤ 9 * 46 := Nat.mul_le_mul ew9 (by omega)
      have hsA : ww i * (1 + i % 6 * r293) ≤ 99 → sumN (fun j => min (ww j * (1 + j % 6 * r293)) 99) (i + 1) = sumN (fun j => min (ww j * (1 + j % 6 * r293)) 99) i + ww i * (1 + i % 6 * r293) := fun c => congrArg (sumN (fun j => min (ww j * (1 + j % 6 * r293)) 99) i + ·) (Nat.min_eq_left c)
      have hsB : ¬ ww i * (1 + i % 6 * r293) ≤ 99 → sumN (fun j => min (ww j * (1 + j % 6 * r293)) 99) (i + 1) = sumN (fun j => min (ww j * (1 + j % 6 * r293)) 99) i + 99 := fun c => congrArg (sumN (fun j => min (ww j * (1 + j % 6 * r293)) 99) i + ·) (Nat.min_eq_right (by omega))
      have iA : ww i * (1 + i % 6 * r293) ≤ 99 → ∀ j, j < i + 1 → uN u1 i (ww i * (1 + i % 6 * r293)) j = (fun j => min (ww j * (1 + j % 6 * r293)) 99) j := fun c j hj => by
        by_cases e : j = i
        · subst e; rw [uN_at]; exact (Nat.min_eq_left c).symm
        · rw [uN_ne e]; exact hv j (by omega)
      have iB : ¬ ww i * (1 + i % 6 * r293) ≤ 99 → ∀ j, j < i + 1 → uN (uN u1 i (ww i * (1 + i % 6 * r293))) i 99 j = (fun j => min (ww j * (1 + j % 6 * r293)) 99) j := fun c j hj => by
        by_cases e : j = i
        · subst e; rw [uN_at]; exact (Nat.min_eq_right (by omega)).symm
        · rw [uN_ne e, uN_ne e]; exact hv j (by omega)
      refine a_iload hB dL_parts_304 rfl ?_
      refine a_bipushN (v := 6) hB dL_parts_306 (by decide) ?_
      refine a_aload_n hB dL_parts_308 rfl ?_
      refine a_iconstN (v := 0) hB dL_parts_309 (by decide) ?_
      refine a_ialoadN hB dL_parts_310 0 rfl (by omega) (by decide) ?_
      refine a_imulN hB dL_parts_311 ?_
      refine a_icmp_geN_f (tgt := 369) hB dL_parts_312 (by decide) (by omega) (by omega) (by omega) ?_
      refine a_aload hB dL_parts_315 rfl ?_
      refine a_iload hB dL_parts_317 rfl ?_
      refine a_aload hB dL_parts_319 rfl ?_
      refine a_iload hB dL_parts_321 rfl ?_
      refine a_ialoadN hB dL_parts_323 1 rfl (by omega) (by decide) ?_
      refine a_iconstN (v := 1) hB dL_parts_324 (by decide) ?_
      refine a_iload hB dL_parts_325 rfl ?_
      refine a_bipushN (v := 6) hB dL_parts_327 (by decide) ?_
      refine a_iremN hB dL_parts_329 (by omega) (by omega) (by omega) ?_
      refine a_iload hB dL_parts_330 rfl ?_
      refine a_imulN hB dL_parts_332 ?_
      refine a_iaddN hB dL_parts_333 ?_
      refine a_imulN hB dL_parts_334 ?_
      refine a_st2 hB dL_parts_335 (by omega) ?_
      refine a_aload hB dL_parts_336 rfl ?_
      refine a_iload hB dL_parts_338 rfl ?_
      refine a_ialoadN hB dL_parts_340 2 rfl (by omega) (by decide) ?_
      rw [uN_at]
      refine a_bipushN (v := 99) hB dL_parts_341 (by decide) ?_
      refine a_icmp_leN (tgt := 353) hB dL_parts_343 (by decide) (by omega) (by omega) (fun c341 => ?_) (fun c341 => ?_)
      · refine a_iload hB dL_parts_353 rfl ?_
        refine a_aload hB dL_parts_355 rfl ?_
        refine a_iload hB dL_parts_357 rfl ?_
        refine a_ialoadN hB dL_parts_359 2 rfl (by omega) (by decide) ?_
        rw [uN_at]
        refine a_iaddN hB dL_parts_360 ?_
        refine a_istore hB dL_parts_361 (by decide) ?_
        refine a_iincN (b := 1) hB dL_parts_363 rfl (by decide) (by decide) ?_
        refine a_goto (tgt := 304) hB dL_parts_366 (by decide) ?_
        exact aW_at [0, 1, 2, 3, 4, 5, 6] (by first | (rw [hsA c341]; rfl) | (rw [hsB c341]; rfl)) rfl rfl (ih304 (i + 1) _ (by omega) (by first | exact iA c341 | exact iB c341))
      · refine a_aload hB dL_parts_346 rfl ?_
        refine a_iload hB dL_parts_348 rfl ?_
        refine a_bipushN (v := 99) hB dL_parts_350 (by decide) ?_
        refine a_st2 hB dL_parts_352 (by omega) ?_
        refine a_iload hB dL_parts_353 rfl ?_
        refine a_aload hB dL_parts_355 rfl ?_
        refine a_iload hB dL_parts_357 rfl ?_
        refine a_ialoadN hB dL_parts_359 2 rfl (by omega) (by decide) ?_
        rw [uN_at]
        refine a_iaddN hB dL_parts_360 ?_
        refine a_istore hB dL_parts_361 (by decide) ?_
        refine a_iincN (b := 1) hB dL_parts_363 rfl (by decide) (by decide) ?_
        refine a_goto (tgt := 304) hB dL_parts_366 (by decide) ?_
        exact aW_at [0, 1, 2, 3, 4, 5, 6] (by first | (rw [hsA c341]; rfl) | (rw [hsB c341]; rfl)) rfl rfl (ih304 (i + 1) _ (by omega) (by first | exact iA c341 | exact iB c341))
  exact aW_at [0, 3, 4, 5, 9, 10, 11] rfl rfl rfl (lp304 (6 * nn 0) 0 uu (by omega) (fun j hj => absurd hj (Nat.not_lt_zero j)))
set_option maxHeartbeats 4000000 in
set_option maxRecDepth 100000 in
theorem ps_tilt {G : GP} {B : Bd} {na wa ua la : Nat} {xa pa : Nat → Nat} {qs : Nat → Nat → Nat} {mk : Nat} {P : PV} {num : Nat} {nE nn ww uu ll : Nat → Nat} {wC : va_W} {x y : Int32} {act p l : Nat} (hB : Bok G sL_parts B) (hR : B.room sL_parts 8 96) (hE : BE G B (w4 G na wa ua la nE ww uu ll ++ wC) 8 96 (StQ G na wa ua la xa pa qs mk 0)) (hK : KW G xa pa qs mk P num wC) (h : LI P num nE ww uu ll) (hz : nnZ P num nn) (hp : p < nn 0) (hl : l < 6) (hw0 : ¬ ww (6 * p + l) = 0) : aW G sL_parts B 422 [(0, .ref (xa 0)), (1, .int x), (2, .int y), (3, .ref na), (4, .ref wa), (5, .ref ua), (6, .int (nI act)), (7, .int (nI p)), (8, .int (nI l))] [] (w4 G na wa ua la nn ww uu ll ++ wC) 0 0 := by
  obtain ⟨z0, z1, z2, z3, z4, z5⟩ := id hz
  have h3 := h.2.1
  have h15 := h.2.2.1
  have h6 := h.2.2.2.1
  have hw := h.2.2.2.2.2.1
  have hc := h.c
  have hpP : p < P.parts := by omega
  obtain ⟨ew, eu⟩ := hw p l hpP hl
  have hg0 : ¬ gt P.wt p l = 0 := by rw [← ew]; exact hw0
  have hg99 : gt P.tl p l ≤ 99 := hc.1.2.2.2.1 p l (by omega) hl
  refine a_aload hB dL_parts_422 rfl ?_
  refine a_bipushN (v := 6) hB dL_parts_424 (by decide) ?_
  refine a_iload hB dL_parts_426 rfl ?_
  refine a_imulN hB dL_parts_428 ?_
  refine a_iload hB dL_parts_429 rfl ?_
  refine a_iaddN hB dL_parts_431 ?_
  refine a_ialoadN hB dL_parts_432 2 rfl (by omega) (by decide) ?_
  refine a_istore hB dL_parts_433 (by decide) ?_
  refine a_aload hB dL_parts_435 rfl ?_
  refine a_bipushN (v := 6) hB dL_parts_437 (by decide) ?_
  refine a_iload hB dL_parts_439 rfl ?_
  refine a_imulN hB dL_parts_441 ?_
  refine a_iload hB dL_parts_442 rfl ?_
  refine a_iaddN hB dL_parts_444 ?_
  refine a_iconstN (v := 1) hB dL_parts_445 (by decide) ?_
  refine a_iload_n hB dL_parts_446 rfl ?_
  refine a_iconstN (v := 5) hB dL_parts_447 (by decide) ?_
  refine a_ishr hB dL_parts_448 ?_
  refine a_bipushN (v := 99) hB dL_parts_449 (by decide) ?_
  refine a_callS hB (c_L_at (by omega) (by omega)) mk_L_at ml_L_20 dL_parts_451 rfl rfl [] rfl (by decide) (fit_of hR (by decide)) (Nat.le_of_ble_eq_true rfl) (fun v451 w451 hq451 hk451 => ?_)
  obtain ⟨⟨r451, hr451, rfl⟩, rfl⟩ := hq451
  refine aW_w (wput_e _) ?_
  refine a_iaddN hB dL_parts_454 ?_
  refine a_st2 hB dL_parts_455 (by omega) ?_
  have hr98 : r451 < 99 := hr451
  refine a_inc5 hB dL_parts_456 dL_parts_457 dL_parts_458 dL_parts_459 dL_parts_461 dL_parts_464 dL_parts_465 dL_parts_466 dL_parts_467 dL_parts_468 dL_parts_469 dL_parts_470 rfl rfl (by decide) ⟨z5, h6⟩ (fun n1 hn1 gn1 => ?_)
  refine a_aload_n hB dL_parts_471 rfl ?_
  refine a_iload hB dL_parts_472 rfl ?_
  refine a_iload hB dL_parts_474 rfl ?_
  refine a_aload hB dL_parts_476 rfl ?_
  refine a_bipushN (v := 6) hB dL_parts_478 (by decide) ?_
  refine a_iload hB dL_parts_480 rfl ?_
  refine a_imulN hB dL_parts_482 ?_
  refine a_iload hB dL_parts_483 rfl ?_
  refine a_iaddN hB dL_parts_485 ?_
  refine a_ialoadN hB dL_parts_486 2 rfl (by omega) (by decide) ?_
  rw [uN_at]
  refine a_K hB hR (K_tilt hc hpP hl (by omega) (by omega) hg0) mk_X9_tilt ml_L_37 dL_parts_487 rfl rfl hK ⟨by decide, by decide, by omega, by omega⟩ (Nat.le_of_ble_eq_true rfl) (fun qs487 mk487 wD487 he487 hK487 => ?_)
  refine a_iload hB dL_parts_490 rfl ?_
  refine a_icmp_neN_f (tgt := 499) hB dL_parts_492 (by decide) (by omega) (by omega) eu.symm ?_
  refine a_iconstN (v := 1) hB dL_parts_495 (by decide) ?_
  refine a_goto (tgt := 500) hB dL_parts_496 (by decide) ?_
  exact a_zret hB hE rfl (by decide) dL_parts_500 (Nat.le_of_ble_eq_true rfl) (Nat.le_of_ble_eq_true rfl) (hK.keep hK487 he487 rfl) ⟨rfl, qs487, mk487, _, _, _, _, _, _, wD487, rfl, he487, hK487, h.tilt hpP hl (by omega) (by omega) hg0 (nn_same hz hn1 gn1 rfl rfl rfl rfl rfl), Nat.le_refl _⟩
set_option maxHeartbeats 4000000 in
set_option maxRecDepth 100000 in
theorem ps_lim {G : GP} {B : Bd} {na wa ua la : Nat} {xa pa : Nat → Nat} {qs : Nat → Nat → Nat} {mk : Nat} {P : PV} {num : Nat} {nE nn ww uu ll : Nat → Nat} {wC : va_W} {x y : Int32} {act p l : Nat} (hB : Bok G sL_parts B) (hR : B.room sL_parts 8 96) (hE : BE G B (w4 G na wa ua la nE ww uu ll ++ wC) 8 96 (StQ G na wa ua la xa pa qs mk 0)) (hK : KW G xa pa qs mk P num wC) (h : LI P num nE ww uu ll) (hz : nnZ P num nn) {n1 : Nat → Nat} (hn1 : ∀ j, ¬ j = 5 → n1 j = nn j) (gn1 : n1 5 = min (num + 1) 6) : aW G sL_parts B 608 [(0, .ref (xa 0)), (1, .int x), (2, .int y), (3, .ref na), (4, .ref wa), (5, .ref ua), (6, .int (nI act)), (7, .int (nI p)), (8, .int (nI l))] [] (w4 G na wa ua la n1 ww uu ll ++ wC) 0 0 := by
  obtain ⟨z0, z1, z2, z3, z4, z5⟩ := id hz
  have h3 := h.2.1
  have h15 := h.2.2.1
  have h6 := h.2.2.2.1
  have hw := h.2.2.2.2.2.1
  have hc := h.c
  have hlim : P.limit = n1 1 := by rw [hn1 1 (by decide), z1]
  refine a_aload_n hB dL_parts_608 rfl ?_
  refine a_iconstN (v := 1) hB dL_parts_609 (by decide) ?_
  refine a_ialoadN hB dL_parts_610 0 rfl (by omega) (by decide) ?_
  refine a_istore hB dL_parts_611 (by decide) ?_
  refine a_aload_n hB dL_parts_613 rfl ?_
  refine a_iconstN (v := 1) hB dL_parts_614 (by decide) ?_
  refine a_iload_n hB dL_parts_615 rfl ?_
  refine a_bipushN (v := 16) hB dL_parts_616 (by decide) ?_
  refine a_callS hB (c_L_at (by omega) (by omega)) mk_L_at ml_L_20 dL_parts_618 rfl rfl [] rfl (by decide) (fit_of hR (by decide)) (Nat.le_of_ble_eq_true rfl) (fun v618 w618 hq618 hk618 => ?_)
  obtain ⟨⟨r618, hr618, rfl⟩, rfl⟩ := hq618
  refine aW_w (wput_e _) ?_
  refine a_st0 hB dL_parts_621 (by omega) ?_
  refine a_aload_n hB dL_parts_622 rfl ?_
  refine a_aload_n hB dL_parts_623 rfl ?_
  refine a_iconstN (v := 1) hB dL_parts_624 (by decide) ?_
  refine a_ialoadN hB dL_parts_625 0 rfl (by omega) (by decide) ?_
  rw [uN_at]
  refine a_K hB hR (K_limit (by omega)) mk_X9_limit ml_L_43 dL_parts_626 rfl rfl hK ⟨by decide, by decide, by omega, by omega⟩ (Nat.le_of_ble_eq_true rfl) (fun qs626 mk626 wD626 he626 hK626 => ?_)
  refine a_iload hB dL_parts_629 rfl ?_
  refine a_icmp_neN_f (tgt := 638) hB dL_parts_631 (by decide) (by omega) (by omega) hlim ?_
  refine a_iconstN (v := 1) hB dL_parts_634 (by decide) ?_
  refine a_goto (tgt := 639) hB dL_parts_635 (by decide) ?_
  exact a_zret hB hE rfl (by decide) dL_parts_639 (Nat.le_of_ble_eq_true rfl) (Nat.le_of_ble_eq_true rfl) (hK.keep hK626 he626 rfl) ⟨rfl, qs626, mk626, _, _, _, _, _, _, wD626, rfl, he626, hK626, h.lim (by omega) (nn_lim hz hn1 gn1), Nat.le_refl _⟩
def dpInv (p i : Nat) (ww w1 : Nat → Nat) : Prop := ∀ j, w1 j = if 6 * p ≤ j ∧ j < i then ww (j + 6) else ww j
theorem dpInv.step {p i : Nat} {ww w1 : Nat → Nat} (h : dpInv p i ww w1) (hi : 6 * p ≤ i) : dpInv p (i + 1) ww (uN w1 i (w1 (i + 6))) := by
  intro j
  by_cases e : j = i
  · subst e
    rw [uN_at, h (j + 6), if_neg (by omega), if_pos (by omega)]
  · rw [uN_ne e, h j]
    by_cases y : 6 * p ≤ j ∧ j < i
    · rw [if_pos y, if_pos (by omega)]
    · rw [if_neg y, if_neg (by omega)]
theorem ite6 {p i j a b : Nat} (h : j < i) : (if 6 * p ≤ j ∧ j < i then a else b) = if 6 * p ≤ j then a else b := by
  by_cases e : 6 * p ≤ j
  · rw [if_pos ⟨e, h⟩, if_pos e]
  · rw [if_neg (fun z => e z.1), if_neg e]
set_option maxHeartbeats 4000000 in
set_option maxRecDepth 100000 in
theorem ps_rem {G : GP} {B : Bd} {na wa ua la : Nat} {xa pa : Nat → Nat} {qs : Nat → Nat → Nat} {mk : Nat} {P : PV} {num : Nat} {nE nn ww uu ll : Nat → Nat} {wC : va_W} {x y : Int32} {act p l : Nat} (hB : Bok G sL_parts B) (hR : B.room sL_parts 8 96) (hE : BE G B (w4 G na wa ua la nE ww uu ll ++ wC) 8 96 (StQ G na wa ua la xa pa qs mk 0)) (hK : KW G xa pa qs mk P num wC) (h : LI P num nE ww uu ll) (hz : nnZ P num nn) (hp : p < nn 0) (hl : l < 6) {n1 : Nat → Nat} (hn1 : ∀ j, ¬ j = 5 → n1 j = nn j) (gn1 : n1 5 = min (num + 1) 6) : aW G sL_parts B 533 [(0, .ref (xa 0)), (1, .int x), (2, .int y), (3, .ref na), (4, .ref wa), (5, .ref ua), (6, .int (nI act)), (7, .int (nI p)), (8, .int (nI l))] [] (w4 G na wa ua la n1 ww uu ll ++ wC) 0 0 := by
  obtain ⟨z0, z1, z2, z3, z4, z5⟩ := id hz
  have h3 := h.2.1
  have h15 := h.2.2.1
  have h6 := h.2.2.2.1
  have hw := h.2.2.2.2.2.1
  have hc := h.c
  have hpP : p < P.parts := by omega
  have e0 : n1 0 = P.parts := (hn1 0 (by decide)).trans z0
  have hlen : P.parts - 1 = n1 0 - 1 := by rw [e0]
  refine a_aload_n hB dL_parts_533 rfl ?_
  refine a_iconstN (v := 0) hB dL_parts_534 (by decide) ?_
  refine a_dup2_11 hB dL_parts_535 rfl rfl ?_
  refine a_ialoadN hB dL_parts_536 0 rfl (by omega) (by decide) ?_
  refine a_iconstN (v := 1) hB dL_parts_537 (by decide) ?_
  refine a_isubN hB dL_parts_538 (by omega) ?_
  refine a_st0 hB dL_parts_539 (by omega) ?_
  refine a_bipushN (v := 6) hB dL_parts_540 (by decide) ?_
  refine a_iload hB dL_parts_542 rfl ?_
  refine a_imulN hB dL_parts_544 ?_
  refine a_istore hB dL_parts_545 (by decide) ?_
  have lp547 : ∀ (j547 i : Nat) (w1 u1 : Nat → Nat), i + j547 = 6 * (n1 0 - 1) ∧ 6 * p ≤ i → dpInv p i ww w1 ∧ dpInv p i uu u1 → aW G sL_parts B 547 [(0, .ref (xa 0)), (3, .ref na), (4, .ref wa), (5, .ref ua), (7, .int (nI p)), (9, .int (nI i))] [] (w4 G na wa ua la (uN n1 0 (n1 0 - 1)) w1 u1 ll ++ wC) 0 0 := by
    intro j547
    induction j547 with
    | zero =>
      intro i w1 u1 hi hv
      refine a_iload hB dL_parts_547 rfl ?_
      refine a_bipushN (v := 6) hB dL_parts_549 (by decide) ?_
      refine a_aload_n hB dL_parts_551 rfl ?_
      refine a_iconstN (v := 0) hB dL_parts_552 (by decide) ?_
      refine a_ialoadN hB dL_parts_553 0 rfl (by omega) (by decide) ?_
      rw [uN_at]
      refine a_imulN hB dL_parts_554 ?_
      refine a_icmp_geN_t (tgt := 590) hB dL_parts_555 (by decide) (by omega) (by omega) (by omega) ?_
      refine a_aload_n hB dL_parts_590 rfl ?_
      refine a_iload hB dL_parts_591 rfl ?_
      refine a_K hB hR (K_removePart hc hpP) mk_X9_removePart ml_L_40 dL_parts_593 rfl rfl hK ⟨by decide, by decide, by omega, by omega⟩ (Nat.le_of_ble_eq_true rfl) (fun qs593 mk593 wD593 he593 hK593 => ?_)
      refine a_aload_n hB dL_parts_596 rfl ?_
      refine a_iconstN (v := 0) hB dL_parts_597 (by decide) ?_
      refine a_ialoadN hB dL_parts_598 0 rfl (by omega) (by decide) ?_
      rw [uN_at]
      refine a_icmp_neN_f (tgt := 606) hB dL_parts_599 (by decide) (by omega) (by omega) hlen ?_
      refine a_iconstN (v := 1) hB dL_parts_602 (by decide) ?_
      refine a_goto (tgt := 607) hB dL_parts_603 (by decide) ?_
      exact a_zret hB hE rfl (by decide) dL_parts_607 (Nat.le_of_ble_eq_true rfl) (Nat.le_of_ble_eq_true rfl) (hK.keep hK593 he593 rfl) ⟨rfl, qs593, mk593, _, _, _, _, _, _, wD593, rfl, he593, hK593, h.drop hpP (nn_drop hz hn1 gn1) (fun j hj => ⟨(hv.1 j).trans (ite6 (by omega)), (hv.2 j).trans (ite6 (by omega))⟩), Nat.le_refl _⟩
    | succ j547 ih547 =>
      intro i w1 u1 hi hv
      refine a_iload hB dL_parts_547 rfl ?_
      refine a_bipushN (v := 6) hB dL_parts_549 (by decide) ?_
      refine a_aload_n hB dL_parts_551 rfl ?_
      refine a_iconstN (v := 0) hB dL_parts_552 (by decide) ?_
      refine a_ialoadN hB dL_parts_553 0 rfl (by omega) (by decide) ?_
      rw [uN_at]
      refine a_imulN hB dL_parts_554 ?_
      refine a_icmp_geN_f (tgt := 590) hB dL_parts_555 (by decide) (by omega) (by omega) (by omega) ?_
      refine a_aload hB dL_parts_558 rfl ?_
      refine a_iload hB dL_parts_560 rfl ?_
      refine a_aload hB dL_parts_562 rfl ?_
      refine a_iload hB dL_parts_564 rfl ?_
      refine a_bipushN (v := 6) hB dL_parts_566 (by decide) ?_
      refine a_iaddN hB dL_parts_568 ?_
      refine a_ialoadN hB dL_parts_569 1 rfl (by omega) (by decide) ?_
      refine a_st1 hB dL_parts_570 (by omega) ?_
      refine a_aload hB dL_parts_571 rfl ?_
      refine a_iload hB dL_parts_573 rfl ?_
      refine a_aload hB dL_parts_575 rfl ?_
      refine a_iload hB dL_parts_577 rfl ?_
      refine a_bipushN (v := 6) hB dL_parts_579 (by decide) ?_
      refine a_iaddN hB dL_parts_581 ?_
      refine a_ialoadN hB dL_parts_582 2 rfl (by omega) (by decide) ?_
      refine a_st2 hB dL_parts_583 (by omega) ?_
      refine a_iincN (b := 1) hB dL_parts_584 rfl (by decide) (by decide) ?_
      refine a_goto (tgt := 547) hB dL_parts_587 (by decide) ?_
      exact aW_at [0, 1, 2, 3, 4, 5] rfl rfl rfl (ih547 (i + 1) _ _ (by omega) ⟨hv.1.step (by omega), hv.2.step (by omega)⟩)
  exact aW_at [0, 3, 4, 5, 7, 9] rfl rfl rfl (lp547 (6 * (n1 0 - 1) - 6 * p) (6 * p) ww uu (by omega) ⟨fun j => (if_neg (by omega)).symm, fun j => (if_neg (by omega)).symm⟩)
set_option maxHeartbeats 4000000 in
set_option maxRecDepth 100000 in
theorem ps_end {G : GP} {B : Bd} {na wa ua la : Nat} {xa pa : Nat → Nat} {qs : Nat → Nat → Nat} {mk : Nat} {P : PV} {num : Nat} {nE nn ww uu ll : Nat → Nat} {wC : va_W} {x y : Int32} {act p l : Nat} (hB : Bok G sL_parts B) (hR : B.room sL_parts 8 96) (hE : BE G B (w4 G na wa ua la nE ww uu ll ++ wC) 8 96 (StQ G na wa ua la xa pa qs mk 0)) (hK : KW G xa pa qs mk P num wC) (h : LI P num nE ww uu ll) (hz : nnZ P num nn) (hp : p < nn 0) (hl : l < 6) (ha : act < 9) : aW G sL_parts B 501 [(0, .ref (xa 0)), (1, .int x), (2, .int y), (3, .ref na), (4, .ref wa), (5, .ref ua), (6, .int (nI act)), (7, .int (nI p)), (8, .int (nI l))] [] (w4 G na wa ua la nn ww uu ll ++ wC) 0 0 := by
  obtain ⟨z0, z1, z2, z3, z4, z5⟩ := id hz
  have h3 := h.2.1
  have h15 := h.2.2.1
  have h6 := h.2.2.2.1
  have hw := h.2.2.2.2.2.1
  have hc := h.c
  refine a_inc5 hB dL_parts_501 dL_parts_502 dL_parts_503 dL_parts_504 dL_parts_506 dL_parts_509 dL_parts_510 dL_parts_511 dL_parts_512 dL_parts_513 dL_parts_514 dL_parts_515 rfl rfl (by decide) ⟨z5, h6⟩ (fun n1 hn1 gn1 => ?_)
  refine a_iload hB dL_parts_516 rfl ?_
  refine a_bipushN (v := 7) hB dL_parts_518 (by decide) ?_
  refine a_icmp_neN (tgt := 608) hB dL_parts_520 (by decide) (by omega) (by omega) (fun c520 => ?_) (fun c520 => ?_)
  · exact aW_at [0, 1, 2, 3, 4, 5, 6, 7, 8] rfl rfl rfl (ps_lim hB hR hE hK h hz hn1 gn1)
  · refine a_iload_n hB dL_parts_523 rfl ?_
    refine a_iconstN (v := 5) hB dL_parts_524 (by decide) ?_
    refine a_ishr hB dL_parts_525 ?_
    refine a_iconstN (v := 2) hB dL_parts_526 (by decide) ?_
    refine a_callS hB (c_L_at (by omega) (by omega)) mk_L_at ml_L_20 dL_parts_527 rfl rfl [] rfl (by decide) (fit_of hR (by decide)) (Nat.le_of_ble_eq_true rfl) (fun v527 w527 hq527 hk527 => ?_)
    obtain ⟨⟨r527, hr527, rfl⟩, rfl⟩ := hq527
    refine aW_w (wput_e _) ?_
    refine a_if_neN (tgt := 608) hB dL_parts_530 (by decide) (by omega) (fun c530 => ?_) (fun c530 => ?_)
    · exact aW_at [0, 1, 2, 3, 4, 5, 6, 7, 8] rfl rfl rfl (ps_lim hB hR hE hK h hz hn1 gn1)
    · exact aW_at [0, 1, 2, 3, 4, 5, 6, 7, 8] rfl rfl rfl (ps_rem hB hR hE hK h hz hp hl hn1 gn1)
set_option maxHeartbeats 4000000 in
set_option maxRecDepth 100000 in
theorem ps_rest {G : GP} {B : Bd} {na wa ua la : Nat} {xa pa : Nat → Nat} {qs : Nat → Nat → Nat} {mk : Nat} {P : PV} {num : Nat} {nE nn ww uu ll : Nat → Nat} {wC : va_W} {x y : Int32} {act : Nat} (hB : Bok G sL_parts B) (hR : B.room sL_parts 8 96) (hE : BE G B (w4 G na wa ua la nE ww uu ll ++ wC) 8 96 (StQ G na wa ua la xa pa qs mk 0)) (hK : KW G xa pa qs mk P num wC) (h : LI P num nE ww uu ll) (hz : nnZ P num nn) (hn0 : 0 < nn 0) (ha : act < 9) : aW G sL_parts B 145 [(0, .ref (xa 0)), (1, .int x), (2, .int y), (3, .ref na), (4, .ref wa), (5, .ref ua), (6, .int (nI act))] [] (w4 G na wa ua la nn ww uu ll ++ wC) 0 0 := by
  obtain ⟨z0, z1, z2, z3, z4, z5⟩ := id hz
  have h3 := h.2.1
  have h15 := h.2.2.1
  have h6 := h.2.2.2.1
  have hw := h.2.2.2.2.2.1
  have hc := h.c
  refine a_iload_n hB dL_parts_145 rfl ?_
  refine a_aload_n hB dL_parts_146 rfl ?_
  refine a_iconstN (v := 0) hB dL_parts_147 (by decide) ?_
  refine a_ialoadN hB dL_parts_148 0 rfl (by omega) (by decide) ?_
  refine a_callS hB (c_L_at (by omega) (by omega)) mk_L_at ml_L_20 dL_parts_149 rfl rfl [] rfl (by decide) (fit_of hR (by decide)) (Nat.le_of_ble_eq_true rfl) (fun v149 w149 hq149 hk149 => ?_)
  obtain ⟨⟨r149, hr149, rfl⟩, rfl⟩ := hq149
  refine aW_w (wput_e _) ?_
  refine a_istore hB dL_parts_152 (by decide) ?_
  refine a_iload_n hB dL_parts_154 rfl ?_
  refine a_iconstN (v := 2) hB dL_parts_155 (by decide) ?_
  refine a_ishr hB dL_parts_156 ?_
  refine a_bipushN (v := 6) hB dL_parts_157 (by decide) ?_
  refine a_callS hB (c_L_at (by omega) (by omega)) mk_L_at ml_L_20 dL_parts_159 rfl rfl [] rfl (by decide) (fit_of hR (by decide)) (Nat.le_of_ble_eq_true rfl) (fun v159 w159 hq159 hk159 => ?_)
  obtain ⟨⟨r159, hr159, rfl⟩, rfl⟩ := hq159
  refine aW_w (wput_e _) ?_
  refine a_istore hB dL_parts_162 (by decide) ?_
  refine a_iload hB dL_parts_164 rfl ?_
  refine a_iconstN (v := 5) hB dL_parts_166 (by decide) ?_
  refine a_icmp_geN (tgt := 284) hB dL_parts_167 (by decide) (by omega) (by omega) (fun c167 => ?_) (fun c167 => ?_)
  · refine a_iload hB dL_parts_284 rfl ?_
    refine a_iconstN (v := 5) hB dL_parts_286 (by decide) ?_
    refine a_icmp_neN (tgt := 401) hB dL_parts_287 (by decide) (by omega) (by omega) (fun c287 => ?_) (fun c287 => ?_)
    · refine a_iload hB dL_parts_401 rfl ?_
      refine a_bipushN (v := 6) hB dL_parts_403 (by decide) ?_
      refine a_icmp_neN (tgt := 501) hB dL_parts_405 (by decide) (by omega) (by omega) (fun c405 => ?_) (fun c405 => ?_)
      · exact aW_at [0, 1, 2, 3, 4, 5, 6, 7, 8] rfl rfl rfl (ps_end hB hR hE hK h hz hr149 hr159 ha)
      · have hw9 : ww (6 * r149 + r159) ≤ 9 := by
          rw [(hw r149 r159 (by omega) hr159).1]
          exact hc.1.1.2.1 _ _ (by omega) hr159
        refine a_aload hB dL_parts_408 rfl ?_
        refine a_bipushN (v := 6) hB dL_parts_410 (by decide) ?_
        refine a_iload hB dL_parts_412 rfl ?_
        refine a_imulN hB dL_parts_414 ?_
        refine a_iload hB dL_parts_415 rfl ?_
        refine a_iaddN hB dL_parts_417 ?_
        refine a_ialoadN hB dL_parts_418 1 rfl (by omega) (by decide) ?_
        refine a_if_leN (tgt := 501) hB dL_parts_419 (by decide) (by omega) (fun c419 => ?_) (fun c419 => ?_)
        · exact aW_at [0, 1, 2, 3, 4, 5, 6, 7, 8] rfl rfl rfl (ps_end hB hR hE hK h hz hr149 hr159 ha)
        · exact aW_at [0, 1, 2, 3, 4, 5, 6, 7, 8] rfl rfl rfl (ps_tilt hB hR hE hK h hz hr149 hr159 (by omega))
    · exact aW_at [0, 1, 2, 3, 4, 5, 6, 7, 8] rfl rfl rfl (ps_tiltAll hB hR hE hK h hz)
  · exact aW_at [0, 1, 2, 3, 4, 5, 6, 7, 8] rfl rfl rfl (ps_weigh hB hR hE hK h hz hr149 hr159)
set_option maxHeartbeats 4000000 in
set_option maxRecDepth 100000 in
theorem c_L_parts {G : GP} {na wa ua la : Nat} {xa pa : Nat → Nat} {qs : Nat → Nat → Nat} {mk : Nat} {P : PV} {num : Nat} {nn ww uu ll : Nat → Nat} {wC : va_W} {x y : Int32} (hK : KW G xa pa qs mk P num wC) (h : LI P num nn ww uu ll) : AM G sL_parts 8 96 [.ref (xa 0), .int x, .int y, .ref na, .ref wa, .ref ua] (w4 G na wa ua la nn ww uu ll ++ wC) (StQ G na wa ua la xa pa qs mk 0) := by
  refine AM.of (σ := sL_parts) (by decide +kernel) (by decide +kernel) (Nat.le_of_ble_eq_true rfl) (fun B hB hR hE0 hN => ?_)
  have hE := BE.of hE0
  refine a_iload_n hB dL_parts_0 rfl ?_
  refine a_bipushN (v := 9) hB dL_parts_1 (by decide) ?_
  refine a_callS hB (c_L_at (by omega) (by omega)) mk_L_at ml_L_20 dL_parts_3 rfl rfl [] rfl (by decide) (fit_of hR (by decide)) (Nat.le_of_ble_eq_true rfl) (fun v3 w3 hq3 hk3 => ?_)
  obtain ⟨⟨r3, hr3, rfl⟩, rfl⟩ := hq3
  refine aW_w (wput_e _) ?_
  refine a_istore hB dL_parts_6 (by decide) ?_
  refine a_aload_n hB dL_parts_8 rfl ?_
  refine a_iconstN (v := 3) hB dL_parts_9 (by decide) ?_
  refine a_iconstN (v := 0) hB dL_parts_10 (by decide) ?_
  refine a_st0 hB dL_parts_11 (by omega) ?_
  refine a_aload_n hB dL_parts_12 rfl ?_
  refine a_iconstN (v := 4) hB dL_parts_13 (by decide) ?_
  refine a_iconstN (v := 0) hB dL_parts_14 (by decide) ?_
  refine a_st0 hB dL_parts_15 (by omega) ?_
  have hz : nnZ P num (uN (uN nn 3 0) 4 0) := ⟨h.2.2.2.2.1.1, h.2.2.2.2.1.2.1, h.2.2.2.2.1.2.2.1, rfl, rfl, h.2.2.2.2.1.2.2.2.2.2⟩
  generalize uN (uN nn 3 0) 4 0 = n0 at hz ⊢
  have hz0 := hz.1
  have h3 := h.2.1
  refine a_aload_n hB dL_parts_16 rfl ?_
  refine a_iconstN (v := 0) hB dL_parts_17 (by decide) ?_
  refine a_ialoadN hB dL_parts_18 0 rfl (by omega) (by decide) ?_
  refine a_if_eqN (tgt := 34) hB dL_parts_19 (by decide) (by omega) (fun c19 => ?_) (fun c19 => ?_)
  · exact aW_at [0, 1, 2, 3, 4, 5, 6] rfl rfl rfl (ps_add hB hR hE hK h hz (by omega))
  · refine a_iload hB dL_parts_22 rfl ?_
    refine a_if_neN (tgt := 145) hB dL_parts_24 (by decide) (by omega) (fun c24 => ?_) (fun c24 => ?_)
    · exact aW_at [0, 1, 2, 3, 4, 5, 6] rfl rfl rfl (ps_rest hB hR hE hK h hz (by omega) hr3)
    · refine a_aload_n hB dL_parts_27 rfl ?_
      refine a_iconstN (v := 0) hB dL_parts_28 (by decide) ?_
      refine a_ialoadN hB dL_parts_29 0 rfl (by omega) (by decide) ?_
      refine a_iconstN (v := 3) hB dL_parts_30 (by decide) ?_
      refine a_icmp_geN (tgt := 145) hB dL_parts_31 (by decide) (by omega) (by omega) (fun c31 => ?_) (fun c31 => ?_)
      · exact aW_at [0, 1, 2, 3, 4, 5, 6] rfl rfl rfl (ps_rest hB hR hE hK h hz (by omega) hr3)
      · exact aW_at [0, 1, 2, 3, 4, 5, 6] rfl rfl rfl (ps_add hB hR hE hK h hz (by omega))
