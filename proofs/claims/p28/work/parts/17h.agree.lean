set_option maxHeartbeats 20000000 in
set_option maxRecDepth 100000 in
theorem ag_end {G : GP} {B : Bd} {na wa ua la : Nat} {xa pa : Nat → Nat} {qs : Nat → Nat → Nat} {mk : Nat} {P : PV} {num : Nat} {nn ww uu ll : Nat → Nat} {wC : va_W} {y : Int32} (hB : Bok G sL_agree B) (hR : B.room sL_agree 0 0) (hE : BE G B (w4 G na wa ua la nn ww uu ll ++ wC) 0 0 (RwQ G na wa ua la xa pa qs mk P num nn ww uu ll)) (hK : KW G xa pa qs mk P num wC) (h : LI P num nn ww uu ll) {qs1 : Nat → Nat → Nat} {mk1 : Nat} {wD1 : va_W} (hx : Ext qs qs1 mk mk1) (hKc : KW G xa pa qs1 mk1 P num wD1) : aW G sL_agree B 141 [(0, .ref (xa 0)), (1, .int y), (2, .ref na), (3, .ref wa)] [] (w4 G na wa ua la nn ww uu ll ++ wD1) 0 0 := by
  obtain ⟨z0, z1, z2, z3, z4, z5⟩ := h.2.2.2.2.1
  have h3 := h.2.1
  have h15 := h.2.2.1
  have hw := h.2.2.2.2.2.1
  have hc := h.c
  have hll := h.2.2.2.2.2.2
  have hsd : P.seed < 2147483648 := hc.1.2.2.1
  have hnum : P.sv.num ≤ 9999 := hc.1.2.2.2.2.2.1
  have hflt : P.sv.flt ≤ P.sv.num := hc.1.2.2.2.2.2.2.1
  have hW : ∀ p l, p < P.parts → l < 6 → Wf ww p l = gt P.wt p l := fun p l hp hl => (hw p l hp hl).1
  have h6 := h.2.2.2.1
  have v0 : vC P num 0 = nn 0 := z0.symm
  have v1 : vC P num 1 = nn 1 := z1.symm
  have v2 : vC P num 2 = nn 2 := z2.symm
  have v3 : vC P num 3 = nn 3 := z3.symm
  have v4 : vC P num 4 = nn 4 := z4.symm
  have v5 : vC P num 8 = nn 5 := z5.symm
  refine a_aload_n hB dL_agree_141 rfl ?_
  refine a_iconstN (v := 0) hB dL_agree_142 (by decide) ?_
  refine a_K hB hR (K_count hc (by decide)) mk_X9_count ml_L_59 dL_agree_143 rfl rfl hKc ⟨by decide, by decide, by omega, by omega⟩ (Nat.le_of_ble_eq_true rfl) (fun qs143 mk143 wD143 he143 hK143 => ?_)
  have hx := hx.trans he143
  have hKc := hK143
  refine a_aload_n hB dL_agree_146 rfl ?_
  refine a_iconstN (v := 0) hB dL_agree_147 (by decide) ?_
  refine a_ialoadN hB dL_agree_148 0 rfl (by omega) (by decide) ?_
  refine a_icmp_neN_f (tgt := 222) hB dL_agree_149 (by decide) (by omega) (by omega) v0 ?_
  refine a_aload_n hB dL_agree_152 rfl ?_
  refine a_iconstN (v := 1) hB dL_agree_153 (by decide) ?_
  refine a_K hB hR (K_count hc (by decide)) mk_X9_count ml_L_59 dL_agree_154 rfl rfl hKc ⟨by decide, by decide, by omega, by omega⟩ (Nat.le_of_ble_eq_true rfl) (fun qs154 mk154 wD154 he154 hK154 => ?_)
  have hx := hx.trans he154
  have hKc := hK154
  refine a_aload_n hB dL_agree_157 rfl ?_
  refine a_iconstN (v := 1) hB dL_agree_158 (by decide) ?_
  refine a_ialoadN hB dL_agree_159 0 rfl (by omega) (by decide) ?_
  refine a_icmp_neN_f (tgt := 222) hB dL_agree_160 (by decide) (by omega) (by omega) v1 ?_
  refine a_aload_n hB dL_agree_163 rfl ?_
  refine a_iconstN (v := 2) hB dL_agree_164 (by decide) ?_
  refine a_K hB hR (K_count hc (by decide)) mk_X9_count ml_L_59 dL_agree_165 rfl rfl hKc ⟨by decide, by decide, by omega, by omega⟩ (Nat.le_of_ble_eq_true rfl) (fun qs165 mk165 wD165 he165 hK165 => ?_)
  have hx := hx.trans he165
  have hKc := hK165
  refine a_aload_n hB dL_agree_168 rfl ?_
  refine a_iconstN (v := 2) hB dL_agree_169 (by decide) ?_
  refine a_ialoadN hB dL_agree_170 0 rfl (by omega) (by decide) ?_
  refine a_icmp_neN_f (tgt := 222) hB dL_agree_171 (by decide) (by omega) (by omega) v2 ?_
  refine a_aload_n hB dL_agree_174 rfl ?_
  refine a_iconstN (v := 3) hB dL_agree_175 (by decide) ?_
  refine a_K hB hR (K_count hc (by decide)) mk_X9_count ml_L_59 dL_agree_176 rfl rfl hKc ⟨by decide, by decide, by omega, by omega⟩ (Nat.le_of_ble_eq_true rfl) (fun qs176 mk176 wD176 he176 hK176 => ?_)
  have hx := hx.trans he176
  have hKc := hK176
  refine a_aload_n hB dL_agree_179 rfl ?_
  refine a_iconstN (v := 3) hB dL_agree_180 (by decide) ?_
  refine a_ialoadN hB dL_agree_181 0 rfl (by omega) (by decide) ?_
  refine a_icmp_neN_f (tgt := 222) hB dL_agree_182 (by decide) (by omega) (by omega) v3 ?_
  refine a_aload_n hB dL_agree_185 rfl ?_
  refine a_iconstN (v := 4) hB dL_agree_186 (by decide) ?_
  refine a_K hB hR (K_count hc (by decide)) mk_X9_count ml_L_59 dL_agree_187 rfl rfl hKc ⟨by decide, by decide, by omega, by omega⟩ (Nat.le_of_ble_eq_true rfl) (fun qs187 mk187 wD187 he187 hK187 => ?_)
  have hx := hx.trans he187
  have hKc := hK187
  refine a_aload_n hB dL_agree_190 rfl ?_
  refine a_iconstN (v := 4) hB dL_agree_191 (by decide) ?_
  refine a_ialoadN hB dL_agree_192 0 rfl (by omega) (by decide) ?_
  refine a_icmp_neN_f (tgt := 222) hB dL_agree_193 (by decide) (by omega) (by omega) v4 ?_
  refine a_aload_n hB dL_agree_196 rfl ?_
  refine a_bipushN (v := 8) hB dL_agree_197 (by decide) ?_
  refine a_K hB hR (K_count hc (by decide)) mk_X9_count ml_L_59 dL_agree_199 rfl rfl hKc ⟨by decide, by decide, by omega, by omega⟩ (Nat.le_of_ble_eq_true rfl) (fun qs199 mk199 wD199 he199 hK199 => ?_)
  have hx := hx.trans he199
  have hKc := hK199
  refine a_aload_n hB dL_agree_202 rfl ?_
  refine a_iconstN (v := 5) hB dL_agree_203 (by decide) ?_
  refine a_ialoadN hB dL_agree_204 0 rfl (by omega) (by decide) ?_
  refine a_icmp_neN_f (tgt := 222) hB dL_agree_205 (by decide) (by omega) (by omega) v5 ?_
  refine a_aload_n hB dL_agree_208 rfl ?_
  refine a_iload_n hB dL_agree_209 rfl ?_
  refine a_aload_n hB dL_agree_210 rfl ?_
  refine a_aload_n hB dL_agree_211 rfl ?_
  refine a_callSq hB (c_L_rows hKc h) mk_L_rows ml_L_77 dL_agree_212 rfl rfl (fit_of hR ⟨by decide, by decide, by omega, by omega⟩) (Nat.le_of_ble_eq_true rfl) (fun v212 w212 hq212 => ?_)
  obtain ⟨rfl, qs212, mk212, wD212, rfl, he212, hK212⟩ := hq212
  have hx := hx.trans he212
  have hKc := hK212
  refine a_if_eqN_f (tgt := 222) hB dL_agree_215 (by decide) (by omega) (by omega) ?_
  refine a_iconstN (v := 1) hB dL_agree_218 (by decide) ?_
  refine a_goto (tgt := 223) hB dL_agree_219 (by decide) ?_
  exact a_zret hB hE rfl (by decide) dL_agree_223 (Nat.le_of_ble_eq_true rfl) (Nat.le_of_ble_eq_true rfl) (hK.keep hKc hx rfl) ⟨rfl, _, _, _, rfl, hx, hKc⟩
set_option maxHeartbeats 20000000 in
set_option maxRecDepth 100000 in
theorem ag_part {G : GP} {B : Bd} {na wa ua la : Nat} {xa pa : Nat → Nat} {qs : Nat → Nat → Nat} {mk : Nat} {P : PV} {num : Nat} {nn ww uu ll : Nat → Nat} {wC : va_W} {y : Int32} (hB : Bok G sL_agree B) (hR : B.room sL_agree 0 0) (hE : BE G B (w4 G na wa ua la nn ww uu ll ++ wC) 0 0 (RwQ G na wa ua la xa pa qs mk P num nn ww uu ll)) (hK : KW G xa pa qs mk P num wC) (h : LI P num nn ww uu ll) {qs1 : Nat → Nat → Nat} {mk1 : Nat} {wD1 : va_W} (hx : Ext qs qs1 mk mk1) (hKc : KW G xa pa qs1 mk1 P num wD1) {p : Nat} (hp : p < P.parts) (kont : ∀ (qs9 : Nat → Nat → Nat) (mk9 : Nat) (wD9 : va_W), Ext qs qs9 mk mk9 → KW G xa pa qs9 mk9 P num wD9 → aW G sL_agree B 3 [(0, .ref (xa 0)), (1, .int y), (2, .ref na), (3, .ref wa), (4, .ref ua), (5, .ref la), (6, .int (nI (p + 1)))] [] (w4 G na wa ua la nn ww uu ll ++ wD9) 0 0) : aW G sL_agree B 11 [(0, .ref (xa 0)), (1, .int y), (2, .ref na), (3, .ref wa), (4, .ref ua), (5, .ref la), (6, .int (nI p))] [] (w4 G na wa ua la nn ww uu ll ++ wD1) 0 0 := by
  obtain ⟨z0, z1, z2, z3, z4, z5⟩ := h.2.2.2.2.1
  have h3 := h.2.1
  have h15 := h.2.2.1
  have hw := h.2.2.2.2.2.1
  have hc := h.c
  have hll := h.2.2.2.2.2.2
  have hsd : P.seed < 2147483648 := hc.1.2.2.1
  have hnum : P.sv.num ≤ 9999 := hc.1.2.2.2.2.2.1
  have hflt : P.sv.flt ≤ P.sv.num := hc.1.2.2.2.2.2.2.1
  have hW : ∀ p l, p < P.parts → l < 6 → Wf ww p l = gt P.wt p l := fun p l hp hl => (hw p l hp hl).1
  have hv0 : nn 3 = 0 → vP P p 6 = -1 := fun c => by
    show P.sv.latest p = -1
    unfold SV.latest
    rw [if_pos (by omega)]
  have hv1 : ¬ nn 3 = 0 → vP P p 6 = nI (ll p) := fun c => by
    show P.sv.latest p = nI (ll p)
    unfold SV.latest
    rw [if_neg (by omega), hll (by omega) p hp]
  refine a_aload_n hB dL_agree_11 rfl ?_
  refine a_iload hB dL_agree_12 rfl ?_
  refine a_iconstN (v := 0) hB dL_agree_14 (by decide) ?_
  refine a_K hB hR (K_part hc hp (by decide)) mk_X9_part ml_L_70 dL_agree_15 rfl rfl hKc ⟨by decide, by decide, by omega, by omega⟩ (Nat.le_of_ble_eq_true rfl) (fun qs15 mk15 wD15 he15 hK15 => ?_)
  have hx := hx.trans he15
  have hKc := hK15
  refine a_aload_n hB dL_agree_18 rfl ?_
  refine a_iload hB dL_agree_19 rfl ?_
  refine a_callSr hB (c_L_total (by omega)) mk_L_total ml_L_14 dL_agree_21 rfl rfl [1] rfl (by decide) (fit_of hR (by decide)) (Nat.le_of_ble_eq_true rfl) ?_
  refine a_icmp_ne_f (tgt := 70) hB dL_agree_24 (by decide) (congrArg nI (h.tw hp).symm) ?_
  refine a_aload_n hB dL_agree_27 rfl ?_
  refine a_iload hB dL_agree_28 rfl ?_
  refine a_iconstN (v := 1) hB dL_agree_30 (by decide) ?_
  refine a_K hB hR (K_part hc hp (by decide)) mk_X9_part ml_L_70 dL_agree_31 rfl rfl hKc ⟨by decide, by decide, by omega, by omega⟩ (Nat.le_of_ble_eq_true rfl) (fun qs31 mk31 wD31 he31 hK31 => ?_)
  have hx := hx.trans he31
  have hKc := hK31
  refine a_aload hB dL_agree_34 rfl ?_
  refine a_iload hB dL_agree_36 rfl ?_
  refine a_callSr hB (c_L_total (by omega)) mk_L_total ml_L_14 dL_agree_38 rfl rfl [2] rfl (by decide) (fit_of hR (by decide)) (Nat.le_of_ble_eq_true rfl) ?_
  refine a_icmp_ne_f (tgt := 70) hB dL_agree_41 (by decide) (congrArg nI (h.tu hp).symm) ?_
  refine a_aload_n hB dL_agree_44 rfl ?_
  refine a_iload hB dL_agree_45 rfl ?_
  refine a_bipushN (v := 6) hB dL_agree_47 (by decide) ?_
  refine a_K hB hR (K_part hc hp (by decide)) mk_X9_part ml_L_70 dL_agree_49 rfl rfl hKc ⟨by decide, by decide, by omega, by omega⟩ (Nat.le_of_ble_eq_true rfl) (fun qs49 mk49 wD49 he49 hK49 => ?_)
  have hx := hx.trans he49
  have hKc := hK49
  refine a_aload_n hB dL_agree_52 rfl ?_
  refine a_iconstN (v := 3) hB dL_agree_53 (by decide) ?_
  refine a_ialoadN hB dL_agree_54 0 rfl (by omega) (by decide) ?_
  refine a_if_neN (tgt := 62) hB dL_agree_55 (by decide) (by omega) (fun c55 => ?_) (fun c55 => ?_)
  · refine a_aload hB dL_agree_62 rfl ?_
    refine a_iload hB dL_agree_64 rfl ?_
    refine a_ialoadN hB dL_agree_66 3 rfl (by omega) (by decide) ?_
    refine a_icmp_eq_t (tgt := 72) hB dL_agree_67 (by decide) (by first | exact hv0 c55 | exact hv1 c55) ?_
    refine a_iconstN (v := 0) hB dL_agree_72 (by decide) ?_
    refine a_istore hB dL_agree_73 (by decide) ?_
    have lp75 : ∀ (j75 l : Nat) (qs2 : Nat → Nat → Nat) (mk2 : Nat) (wD2 : va_W), l + j75 = 6 → Ext qs qs2 mk mk2 → KW G xa pa qs2 mk2 P num wD2 → aW G sL_agree B 75 [(0, .ref (xa 0)), (1, .int y), (2, .ref na), (3, .ref wa), (4, .ref ua), (5, .ref la), (6, .int (nI p)), (7, .int (nI l))] [] (w4 G na wa ua la nn ww uu ll ++ wD2) 0 0 := by
      intro j75
      induction j75 with
      | zero =>
        intro l qs2 mk2 wD2 hl hx hKc
        refine a_iload hB dL_agree_75 rfl ?_
        refine a_bipushN (v := 6) hB dL_agree_77 (by decide) ?_
        refine a_icmp_geN_t (tgt := 135) hB dL_agree_79 (by decide) (by omega) (by omega) (by omega) ?_
        refine a_iincN (b := 1) hB dL_agree_135 rfl (by decide) (by decide) ?_
        refine a_goto (tgt := 3) hB dL_agree_138 (by decide) ?_
        exact aW_at [0, 1, 2, 3, 4, 5, 6] rfl rfl rfl (kont _ _ _ hx hKc)
      | succ j75 ih75 =>
        intro l qs2 mk2 wD2 hl hx hKc
        have hl6 : l < 6 := by omega
        obtain ⟨ew, eu⟩ := hw p l hp hl6
        have hg9 : gt P.wt p l ≤ 9 := hc.1.1.2.1 p l (by omega) hl6
        have hg99 : gt P.tl p l ≤ 99 := hc.1.2.2.2.1 p l (by omega) hl6
        refine a_iload hB dL_agree_75 rfl ?_
        refine a_bipushN (v := 6) hB dL_agree_77 (by decide) ?_
        refine a_icmp_geN_f (tgt := 135) hB dL_agree_79 (by decide) (by omega) (by omega) (by omega) ?_
        refine a_aload_n hB dL_agree_82 rfl ?_
        refine a_iload hB dL_agree_83 rfl ?_
        refine a_iload hB dL_agree_85 rfl ?_
        refine a_iconstN (v := 0) hB dL_agree_87 (by decide) ?_
        refine a_K hB hR (K_weight0 hc hp hl6) mk_X9_weight ml_L_73 dL_agree_88 rfl rfl hKc ⟨by decide, by decide, by omega, by omega⟩ (Nat.le_of_ble_eq_true rfl) (fun qs88 mk88 wD88 he88 hK88 => ?_)
        have hx := hx.trans he88
        have hKc := hK88
        refine a_aload_n hB dL_agree_91 rfl ?_
        refine a_bipushN (v := 6) hB dL_agree_92 (by decide) ?_
        refine a_iload hB dL_agree_94 rfl ?_
        refine a_imulN hB dL_agree_96 ?_
        refine a_iload hB dL_agree_97 rfl ?_
        refine a_iaddN hB dL_agree_99 ?_
        refine a_ialoadN hB dL_agree_100 1 rfl (by omega) (by decide) ?_
        refine a_icmp_neN_f (tgt := 127) hB dL_agree_101 (by decide) (by omega) (by omega) ew.symm ?_
        refine a_aload_n hB dL_agree_104 rfl ?_
        refine a_iload hB dL_agree_105 rfl ?_
        refine a_iload hB dL_agree_107 rfl ?_
        refine a_iconstN (v := 1) hB dL_agree_109 (by decide) ?_
        refine a_K hB hR (K_weight1 hc hp hl6) mk_X9_weight ml_L_73 dL_agree_110 rfl rfl hKc ⟨by decide, by decide, by omega, by omega⟩ (Nat.le_of_ble_eq_true rfl) (fun qs110 mk110 wD110 he110 hK110 => ?_)
        have hx := hx.trans he110
        have hKc := hK110
        refine a_aload hB dL_agree_113 rfl ?_
        refine a_bipushN (v := 6) hB dL_agree_115 (by decide) ?_
        refine a_iload hB dL_agree_117 rfl ?_
        refine a_imulN hB dL_agree_119 ?_
        refine a_iload hB dL_agree_120 rfl ?_
        refine a_iaddN hB dL_agree_122 ?_
        refine a_ialoadN hB dL_agree_123 2 rfl (by omega) (by decide) ?_
        refine a_icmp_eqN_t (tgt := 129) hB dL_agree_124 (by decide) (by omega) (by omega) eu.symm ?_
        refine a_iincN (b := 1) hB dL_agree_129 rfl (by decide) (by decide) ?_
        refine a_goto (tgt := 75) hB dL_agree_132 (by decide) ?_
        exact aW_at [0, 1, 2, 3, 4, 5, 6, 7] rfl rfl rfl (ih75 (l + 1) _ _ _ (by omega) hx hKc)
    exact aW_at [0, 1, 2, 3, 4, 5, 6, 7] rfl rfl rfl (lp75 6 0 _ _ _ (by omega) hx hKc)
  · refine a_iconst (v := -1) hB dL_agree_58 (by decide) ?_
    refine a_goto (tgt := 67) hB dL_agree_59 (by decide) ?_
    refine a_icmp_eq_t (tgt := 72) hB dL_agree_67 (by decide) (by first | exact hv0 c55 | exact hv1 c55) ?_
    refine a_iconstN (v := 0) hB dL_agree_72 (by decide) ?_
    refine a_istore hB dL_agree_73 (by decide) ?_
    have lp75 : ∀ (j75 l : Nat) (qs2 : Nat → Nat → Nat) (mk2 : Nat) (wD2 : va_W), l + j75 = 6 → Ext qs qs2 mk mk2 → KW G xa pa qs2 mk2 P num wD2 → aW G sL_agree B 75 [(0, .ref (xa 0)), (1, .int y), (2, .ref na), (3, .ref wa), (4, .ref ua), (5, .ref la), (6, .int (nI p)), (7, .int (nI l))] [] (w4 G na wa ua la nn ww uu ll ++ wD2) 0 0 := by
      intro j75
      induction j75 with
      | zero =>
        intro l qs2 mk2 wD2 hl hx hKc
        refine a_iload hB dL_agree_75 rfl ?_
        refine a_bipushN (v := 6) hB dL_agree_77 (by decide) ?_
        refine a_icmp_geN_t (tgt := 135) hB dL_agree_79 (by decide) (by omega) (by omega) (by omega) ?_
        refine a_iincN (b := 1) hB dL_agree_135 rfl (by decide) (by decide) ?_
        refine a_goto (tgt := 3) hB dL_agree_138 (by decide) ?_
        exact aW_at [0, 1, 2, 3, 4, 5, 6] rfl rfl rfl (kont _ _ _ hx hKc)
      | succ j75 ih75 =>
        intro l qs2 mk2 wD2 hl hx hKc
        have hl6 : l < 6 := by omega
        obtain ⟨ew, eu⟩ := hw p l hp hl6
        have hg9 : gt P.wt p l ≤ 9 := hc.1.1.2.1 p l (by omega) hl6
        have hg99 : gt P.tl p l ≤ 99 := hc.1.2.2.2.1 p l (by omega) hl6
        refine a_iload hB dL_agree_75 rfl ?_
        refine a_bipushN (v := 6) hB dL_agree_77 (by decide) ?_
        refine a_icmp_geN_f (tgt := 135) hB dL_agree_79 (by decide) (by omega) (by omega) (by omega) ?_
        refine a_aload_n hB dL_agree_82 rfl ?_
        refine a_iload hB dL_agree_83 rfl ?_
        refine a_iload hB dL_agree_85 rfl ?_
        refine a_iconstN (v := 0) hB dL_agree_87 (by decide) ?_
        refine a_K hB hR (K_weight0 hc hp hl6) mk_X9_weight ml_L_73 dL_agree_88 rfl rfl hKc ⟨by decide, by decide, by omega, by omega⟩ (Nat.le_of_ble_eq_true rfl) (fun qs88 mk88 wD88 he88 hK88 => ?_)
        have hx := hx.trans he88
        have hKc := hK88
        refine a_aload_n hB dL_agree_91 rfl ?_
        refine a_bipushN (v := 6) hB dL_agree_92 (by decide) ?_
        refine a_iload hB dL_agree_94 rfl ?_
        refine a_imulN hB dL_agree_96 ?_
        refine a_iload hB dL_agree_97 rfl ?_
        refine a_iaddN hB dL_agree_99 ?_
        refine a_ialoadN hB dL_agree_100 1 rfl (by omega) (by decide) ?_
        refine a_icmp_neN_f (tgt := 127) hB dL_agree_101 (by decide) (by omega) (by omega) ew.symm ?_
        refine a_aload_n hB dL_agree_104 rfl ?_
        refine a_iload hB dL_agree_105 rfl ?_
        refine a_iload hB dL_agree_107 rfl ?_
        refine a_iconstN (v := 1) hB dL_agree_109 (by decide) ?_
        refine a_K hB hR (K_weight1 hc hp hl6) mk_X9_weight ml_L_73 dL_agree_110 rfl rfl hKc ⟨by decide, by decide, by omega, by omega⟩ (Nat.le_of_ble_eq_true rfl) (fun qs110 mk110 wD110 he110 hK110 => ?_)
        have hx := hx.trans he110
        have hKc := hK110
        refine a_aload hB dL_agree_113 rfl ?_
        refine a_bipushN (v := 6) hB dL_agree_115 (by decide) ?_
        refine a_iload hB dL_agree_117 rfl ?_
        refine a_imulN hB dL_agree_119 ?_
        refine a_iload hB dL_agree_120 rfl ?_
        refine a_iaddN hB dL_agree_122 ?_
        refine a_ialoadN hB dL_agree_123 2 rfl (by omega) (by decide) ?_
        refine a_icmp_eqN_t (tgt := 129) hB dL_agree_124 (by decide) (by omega) (by omega) eu.symm ?_
        refine a_iincN (b := 1) hB dL_agree_129 rfl (by decide) (by decide) ?_
        refine a_goto (tgt := 75) hB dL_agree_132 (by decide) ?_
        exact aW_at [0, 1, 2, 3, 4, 5, 6, 7] rfl rfl rfl (ih75 (l + 1) _ _ _ (by omega) hx hKc)
    exact aW_at [0, 1, 2, 3, 4, 5, 6, 7] rfl rfl rfl (lp75 6 0 _ _ _ (by omega) hx hKc)
set_option maxHeartbeats 4000000 in
set_option maxRecDepth 100000 in
theorem c_L_agree {G : GP} {na wa ua la : Nat} {xa pa : Nat → Nat} {qs : Nat → Nat → Nat} {mk : Nat} {P : PV} {num : Nat} {nn ww uu ll : Nat → Nat} {wC : va_W} {y : Int32} (hK : KW G xa pa qs mk P num wC) (h : LI P num nn ww uu ll) : AM G sL_agree 0 0 [.ref (xa 0), .int y, .ref na, .ref wa, .ref ua, .ref la] (w4 G na wa ua la nn ww uu ll ++ wC) (RwQ G na wa ua la xa pa qs mk P num nn ww uu ll) := by
  refine AM.of (σ := sL_agree) (by decide +kernel) (by decide +kernel) (Nat.le_of_ble_eq_true rfl) (fun B hB hR hE0 hN => ?_)
  have hE := BE.of hE0
  obtain ⟨z0, z1, z2, z3, z4, z5⟩ := id h.2.2.2.2.1
  have h3 := h.2.1
  refine a_iconstN (v := 0) hB dL_agree_0 (by decide) ?_
  refine a_istore hB dL_agree_1 (by decide) ?_
  have lp3 : ∀ (j3 p : Nat) (qs1 : Nat → Nat → Nat) (mk1 : Nat) (wD1 : va_W), p + j3 = P.parts → Ext qs qs1 mk mk1 → KW G xa pa qs1 mk1 P num wD1 → aW G sL_agree B 3 [(0, .ref (xa 0)), (1, .int y), (2, .ref na), (3, .ref wa), (4, .ref ua), (5, .ref la), (6, .int (nI p))] [] (w4 G na wa ua la nn ww uu ll ++ wD1) 0 0 := by
    intro j3
    induction j3 with
    | zero =>
      intro p qs1 mk1 wD1 hp9 hx hKc
      refine a_iload hB dL_agree_3 rfl ?_
      refine a_aload_n hB dL_agree_5 rfl ?_
      refine a_iconstN (v := 0) hB dL_agree_6 (by decide) ?_
      refine a_ialoadN hB dL_agree_7 0 rfl (by omega) (by decide) ?_
      refine a_icmp_geN_t (tgt := 141) hB dL_agree_8 (by decide) (by omega) (by omega) (by omega) ?_
      exact aW_at [0, 1, 2, 3] rfl rfl rfl (ag_end hB hR hE hK h hx hKc)
    | succ j3 ih3 =>
      intro p qs1 mk1 wD1 hp9 hx hKc
      refine a_iload hB dL_agree_3 rfl ?_
      refine a_aload_n hB dL_agree_5 rfl ?_
      refine a_iconstN (v := 0) hB dL_agree_6 (by decide) ?_
      refine a_ialoadN hB dL_agree_7 0 rfl (by omega) (by decide) ?_
      refine a_icmp_geN_f (tgt := 141) hB dL_agree_8 (by decide) (by omega) (by omega) (by omega) ?_
      exact ag_part hB hR hE hK h hx hKc (by omega) (fun qs9 mk9 wD9 g1 g2 => ih3 (p + 1) _ _ _ (by omega) g1 g2)
  exact aW_at [0, 1, 2, 3, 4, 5, 6] rfl rfl rfl (lp3 P.parts 0 _ _ _ (by omega) (Ext.rf _ _) hK)
