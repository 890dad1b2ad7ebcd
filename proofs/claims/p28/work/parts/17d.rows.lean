/-- the law's weights by part and load -/
def Wf (ww : Nat → Nat) (p l : Nat) : Nat := ww (6 * p + l)
def scA (W : Nat → Nat → Nat) (n s k : Nat) : Nat := sumN (fun k => if ldS n k = s then wyS W 0 n k else 0) k
def scB (W : Nat → Nat → Nat) (n s k : Nat) : Nat := sumN (fun k => if s ≤ ldS n k then wyS W 0 n k else 0) k
def scC (W : Nat → Nat → Nat) (n k : Nat) : Nat := sumN (wyS W 0 n) k
theorem scA_y {W : Nat → Nat → Nat} {n s k : Nat} (h : ldS n k = s) : scA W n s (k + 1) = scA W n s k + wyS W 0 n k := congrArg (scA W n s k + ·) (if_pos h)
theorem scA_n {W : Nat → Nat → Nat} {n s k : Nat} (h : ¬ ldS n k = s) : scA W n s (k + 1) = scA W n s k := congrArg (scA W n s k + ·) (if_neg h)
theorem scB_y {W : Nat → Nat → Nat} {n s k : Nat} (h : s ≤ ldS n k) : scB W n s (k + 1) = scB W n s k + wyS W 0 n k := congrArg (scB W n s k + ·) (if_pos h)
theorem scB_n {W : Nat → Nat → Nat} {n s k : Nat} (h : ¬ s ≤ ldS n k) : scB W n s (k + 1) = scB W n s k := congrArg (scB W n s k + ·) (if_neg h)
theorem scS_y {W : Nat → Nat → Nat} {n s k : Nat} (h : s ≤ ldS n k) (h2 : (scS W n s k).1 < wyS W 0 n k) : scS W n s (k + 1) = (wyS W 0 n k, k) := if_pos ⟨h, h2⟩
theorem scS_n {W : Nat → Nat → Nat} {n s k : Nat} (h : ¬ (s ≤ ldS n k ∧ (scS W n s k).1 < wyS W 0 n k)) : scS W n s (k + 1) = scS W n s k := if_neg h
theorem scA_e1 {W : Nat → Nat → Nat} {n s k v : Nat} (h : ldS n k = s) (e : v = scA W n s k + wyS W 0 n k) : v = scA W n s (k + 1) := e.trans (scA_y h).symm
theorem scA_e0 {W : Nat → Nat → Nat} {n s k v : Nat} (h : ¬ ldS n k = s) (e : v = scA W n s k) : v = scA W n s (k + 1) := e.trans (scA_n h).symm
theorem scB_e1 {W : Nat → Nat → Nat} {n s k v : Nat} (h : ¬ ldS n k < s) (e : v = scB W n s k + wyS W 0 n k) : v = scB W n s (k + 1) := e.trans (scB_y (Nat.not_lt.mp h)).symm
theorem scB_e0 {W : Nat → Nat → Nat} {n s k v : Nat} (h : ldS n k < s) (e : v = scB W n s k) : v = scB W n s (k + 1) := e.trans (scB_n (Nat.not_le.mpr h)).symm
theorem scF_e1 {W : Nat → Nat → Nat} {n s k v : Nat} (h : s ≤ ldS n k) (e : v = scB W n s k + wyS W 0 n k) : v = scB W n s (k + 1) := e.trans (scB_y h).symm
theorem scF_e0 {W : Nat → Nat → Nat} {n s k v : Nat} (h : ¬ s ≤ ldS n k) (e : v = scB W n s k) : v = scB W n s (k + 1) := e.trans (scB_n h).symm
theorem scS_e1 {W : Nat → Nat → Nat} {n s k : Nat} {v : Nat × Nat} (h : s ≤ ldS n k) (h2 : ¬ wyS W 0 n k ≤ (scS W n s k).1) (e : v = (wyS W 0 n k, k)) : v = scS W n s (k + 1) := e.trans (scS_y h (Nat.not_le.mp h2)).symm
theorem scS_e2 {W : Nat → Nat → Nat} {n s k : Nat} {v : Nat × Nat} (h2 : wyS W 0 n k ≤ (scS W n s k).1) (e : v = scS W n s k) : v = scS W n s (k + 1) := e.trans (scS_n (fun z => Nat.not_lt.mpr h2 z.2)).symm
theorem scS_e3 {W : Nat → Nat → Nat} {n s k : Nat} {v : Nat × Nat} (h : ¬ s ≤ ldS n k) (e : v = scS W n s k) : v = scS W n s (k + 1) := e.trans (scS_n (fun z => h z.1)).symm
theorem scS_le {W : Nat → Nat → Nat} {n s c : Nat} (h : ∀ k, wyS W 0 n k ≤ c) : ∀ k, (scS W n s k).1 ≤ c ∧ (scS W n s k).2 ≤ k
  | 0 => ⟨Nat.zero_le _, Nat.le_refl _⟩
  | k + 1 => by
    obtain ⟨a, b⟩ := scS_le (s := s) h k
    by_cases q : s ≤ ldS n k ∧ (scS W n s k).1 < wyS W 0 n k
    · rw [scS_y q.1 q.2]; exact ⟨h k, Nat.le_succ k⟩
    · rw [scS_n q]; exact ⟨a, Nat.le_succ_of_le b⟩
theorem sc_le {W : Nat → Nat → Nat} {n s c : Nat} (h : ∀ k, wyS W 0 n k ≤ c) (k : Nat) : scA W n s k ≤ k * c ∧ scB W n s k ≤ k * c ∧ scC W n k ≤ k * c :=
  ⟨sumN_leN k (fun j _ => by split; exact h j; exact Nat.zero_le _), sumN_leN k (fun j _ => by split; exact h j; exact Nat.zero_le _), sumN_leN k (fun j _ => h j)⟩
/-- one less, as an int -/
def pI (c : Nat) : Int32 := nI c - nI 1
theorem pI_s (c : Nat) : pI (c + 1) = nI c := pk_sub (Nat.le_add_left 1 c)
theorem pI_0 : pI 0 < 0 := by decide +kernel
theorem pI_d (c : Nat) : nI c + (-1) = pI c := by
  unfold pI
  rw [Int32.sub_eq_add_neg, show -(nI 1) = (-1 : Int32) by decide +kernel]
theorem meas0 {P : PV} (hP : P.inv0) {f w : Nat} (hf : f = wfrom (cnt P (-1)) P.limit) (hw : w = wfrom (cnt P (-1)) 0) (f31 : f < 2 ^ 31) (w31 : w < 2 ^ 31) : vM P 0 = FP.ddiv (FP.i2d (nI f)) (FP.i2d (nI w)) ∧ vf_n64 (FP.ddiv (FP.i2d (nI f)) (FP.i2d (nI w))) ∧ Op.cmpValue (FP.dcmp (vM P 0) (FP.ddiv (FP.i2d (nI f)) (FP.i2d (nI w)))) .l = 0 := by
  have hd := (vO_Z hP.1 (-1) P.limit).P (by decide)
  have e : vO P (-1) P.limit = FP.ddiv (FP.i2d (nI f)) (FP.i2d (nI w)) := by
    have h0 := cnt_pos hP.1 (-1)
    unfold vO odds
    rw [if_neg (by omega), ← hf, ← hw]
    rw [show FP.i2d (nI f) = FP.l2d (lN f) by rw [← nI_l f31]; exact FP.Core.i2d_l2d _, show FP.i2d (nI w) = FP.l2d (lN w) by rw [← nI_l w31]; exact FP.Core.i2d_l2d _]
  refine ⟨e, by rw [← e]; exact hd.nn, ?_⟩
  have e2 : vM P 0 = vO P (-1) P.limit := rfl
  rw [e2, ← e, show FP.dcmp (vO P (-1) P.limit) (vO P (-1) P.limit) = some .eq from FP.Core.dcmp_refl hd.isNaN]
  rfl
/-- what rows and agree leave: 1, and nothing but the class's own scratch changed -/
def RwQ (G : GP) (na wa ua la : Nat) (xa pa : Nat → Nat) (qs : Nat → Nat → Nat) (mk : Nat) (P : PV) (num : Nat) (nn ww uu ll : Nat → Nat) : Option Value → va_W → Prop := fun v w =>
  v = some (.int (nI 1)) ∧ ∃ (qs' : Nat → Nat → Nat) (mk' : Nat) (wD : va_W), w = w4 G na wa ua la nn ww uu ll ++ wD ∧ Ext qs qs' mk mk' ∧ KW G xa pa qs' mk' P num wD
set_option maxHeartbeats 4000000 in
set_option maxRecDepth 100000 in
theorem rs_end {G : GP} {B : Bd} {na wa ua la : Nat} {xa pa : Nat → Nat} {qs : Nat → Nat → Nat} {mk : Nat} {P : PV} {num : Nat} {nn ww uu ll : Nat → Nat} {wC : va_W} (hB : Bok G sL_rows B) (hR : B.room sL_rows 0 0) (hE : BE G B (w4 G na wa ua la nn ww uu ll ++ wC) 0 0 (RwQ G na wa ua la xa pa qs mk P num nn ww uu ll)) (hK : KW G xa pa qs mk P num wC) (h : LI P num nn ww uu ll) {qs1 : Nat → Nat → Nat} {mk1 : Nat} {wC1 : va_W} (hx1 : Ext qs qs1 mk mk1) (hK1 : KW G xa pa qs1 mk1 P num wC1) {s f : Nat} (hs : s < 31) (w0 : vW P s 0 < 2 ^ 31) (w1 : vW P s 1 < 2 ^ 31) (w2 : vW P 0 1 < 2 ^ 31) (h7 : vC P num 7 < 2 ^ 31) (hf : f = wfrom (cnt P (-1)) P.limit) (f31 : f < 2 ^ 31) : aW G sL_rows B 262 [(0, .ref (xa 0)), (4, .int (nI s)), (6, .int (nI (vW P s 0))), (7, .int (nI (vW P s 1))), (8, .int (nI (vW P 0 1))), (9, .int (nI f)), (10, .int (nI (vC P num 7)))] [] (w4 G na wa ua la nn ww uu ll ++ wC1) 0 0 := by
  have hc := h.c
  obtain ⟨hm1, hm2, hm3⟩ := meas0 hc.1 hf (show vW P 0 1 = wfrom (cnt P (-1)) 0 from rfl) f31 w2
  refine a_aload_n hB dL_rows_262 rfl ?_
  refine a_bipushN (v := 7) hB dL_rows_263 (by decide) ?_
  refine a_K hB hR (K_count hc (by decide)) mk_X9_count ml_L_59 dL_rows_265 rfl rfl hK1 ⟨by decide, by decide, by omega, by omega⟩ (Nat.le_of_ble_eq_true rfl) (fun qs265 mk265 wD265 he265 hK265 => ?_)
  refine a_iload hB dL_rows_268 rfl ?_
  refine a_icmp_neN_f (tgt := 334) hB dL_rows_270 (by decide) h7 h7 rfl ?_
  refine a_aload_n hB dL_rows_273 rfl ?_
  refine a_iload hB dL_rows_274 rfl ?_
  refine a_iconstN (v := 0) hB dL_rows_276 (by decide) ?_
  refine a_K hB hR (K_ways hc (by omega) (by decide)) mk_X9_ways ml_L_62 dL_rows_277 rfl rfl hK265 ⟨by decide, by decide, by omega, by omega⟩ (Nat.le_of_ble_eq_true rfl) (fun qs277 mk277 wD277 he277 hK277 => ?_)
  refine a_iload hB dL_rows_280 rfl ?_
  refine a_i2lN hB dL_rows_282 (by omega) ?_
  refine a_lcmp hB dL_rows_283 ?_
  refine a_if_neL_f (tgt := 334) hB dL_rows_284 (by decide) (by omega) (by omega) rfl ?_
  refine a_aload_n hB dL_rows_287 rfl ?_
  refine a_iload hB dL_rows_288 rfl ?_
  refine a_iconstN (v := 1) hB dL_rows_290 (by decide) ?_
  refine a_K hB hR (K_ways hc (by omega) (by decide)) mk_X9_ways ml_L_62 dL_rows_291 rfl rfl hK277 ⟨by decide, by decide, by omega, by omega⟩ (Nat.le_of_ble_eq_true rfl) (fun qs291 mk291 wD291 he291 hK291 => ?_)
  refine a_iload hB dL_rows_294 rfl ?_
  refine a_i2lN hB dL_rows_296 (by omega) ?_
  refine a_lcmp hB dL_rows_297 ?_
  refine a_if_neL_f (tgt := 334) hB dL_rows_298 (by decide) (by omega) (by omega) rfl ?_
  refine a_aload_n hB dL_rows_301 rfl ?_
  refine a_iconstN (v := 0) hB dL_rows_302 (by decide) ?_
  refine a_iconstN (v := 1) hB dL_rows_303 (by decide) ?_
  refine a_K hB hR (K_ways hc (by decide) (by decide)) mk_X9_ways ml_L_62 dL_rows_304 rfl rfl hK291 ⟨by decide, by decide, by omega, by omega⟩ (Nat.le_of_ble_eq_true rfl) (fun qs304 mk304 wD304 he304 hK304 => ?_)
  refine a_iload hB dL_rows_307 rfl ?_
  refine a_i2lN hB dL_rows_309 (by omega) ?_
  refine a_lcmp hB dL_rows_310 ?_
  refine a_if_neL_f (tgt := 334) hB dL_rows_311 (by decide) (by omega) (by omega) rfl ?_
  refine a_aload_n hB dL_rows_314 rfl ?_
  refine a_iconstN (v := 0) hB dL_rows_315 (by decide) ?_
  refine a_K hB hR (K_measure0 hc) mk_X9_measure ml_L_66 dL_rows_316 rfl rfl hK304 ⟨by decide, by decide, by omega, by omega⟩ (Nat.le_of_ble_eq_true rfl) (fun qs316 mk316 wD316 he316 hK316 => ?_)
  refine a_iload hB dL_rows_319 rfl ?_
  refine a_i2d hB dL_rows_321 ?_
  refine a_iload hB dL_rows_322 rfl ?_
  refine a_i2d hB dL_rows_324 ?_
  refine a_ddiv hB dL_rows_325 hm2 ?_
  refine a_dcmp hB dL_rows_326 ?_
  refine a_if_ne_f (tgt := 334) hB dL_rows_327 (by decide) hm3 ?_
  have hext := (((hx1.trans he265).trans he277).trans (he291.trans he304)).trans he316
  refine a_iconstN (v := 1) hB dL_rows_330 (by decide) ?_
  refine a_goto (tgt := 335) hB dL_rows_331 (by decide) ?_
  exact a_zret hB hE rfl (by decide) dL_rows_335 (Nat.le_of_ble_eq_true rfl) (Nat.le_of_ble_eq_true rfl) (hK.keep hK316 hext rfl) ⟨rfl, qs316, mk316, wD316, rfl, hext, hK316⟩
set_option maxHeartbeats 4000000 in
set_option maxRecDepth 100000 in
theorem rs_like {G : GP} {B : Bd} {na wa ua la : Nat} {xa pa : Nat → Nat} {qs : Nat → Nat → Nat} {mk : Nat} {P : PV} {num : Nat} {nn ww uu ll : Nat → Nat} {wC : va_W} (hB : Bok G sL_rows B) (hR : B.room sL_rows 0 0) (hE : BE G B (w4 G na wa ua la nn ww uu ll ++ wC) 0 0 (RwQ G na wa ua la xa pa qs mk P num nn ww uu ll)) (hK : KW G xa pa qs mk P num wC) (h : LI P num nn ww uu ll) {s f row : Nat} (hs : s < 31) (w0 : vW P s 0 < 2 ^ 31) (w1 : vW P s 1 < 2 ^ 31) (w2 : vW P 0 1 < 2 ^ 31) (h7 : vC P num 7 < 2 ^ 31) (hf : f = wfrom (cnt P (-1)) P.limit) (f31 : f < 2 ^ 31) (hr31 : row < 2 ^ 31) (hL0 : vC P num 7 = 0 → ∀ p, p < P.parts → vL P p = -1) (hL1 : ¬ vC P num 7 = 0 → ∀ p, p < P.parts → vL P p = nI (row / 6 ^ (P.parts - (p + 1)) % 6)) : aW G sL_rows B 212 [(0, .ref (xa 0)), (2, .ref na), (4, .int (nI s)), (6, .int (nI (vW P s 0))), (7, .int (nI (vW P s 1))), (8, .int (nI (vW P 0 1))), (9, .int (nI f)), (10, .int (nI (vC P num 7))), (11, .int (nI row))] [] (w4 G na wa ua la nn ww uu ll ++ wC) 0 0 := by
  obtain ⟨z0, z1, z2, z3, z4, z5⟩ := h.2.2.2.2.1
  have h3 := h.2.1
  have h15 := h.2.2.1
  have hw := h.2.2.2.2.2.1
  have hc := h.c
  have hW : ∀ p l, p < P.parts → l < 6 → Wf ww p l = gt P.wt p l := fun p l hp hl => (hw p l hp hl).1
  refine a_aload_n hB dL_rows_212 rfl ?_
  refine a_iconstN (v := 0) hB dL_rows_213 (by decide) ?_
  refine a_ialoadN hB dL_rows_214 0 rfl (by omega) (by decide) ?_
  refine a_iconstN (v := 1) hB dL_rows_215 (by decide) ?_
  refine a_isub hB dL_rows_216 ?_
  refine a_istore hB dL_rows_217 (by decide) ?_
  have lp219 : ∀ (j219 : Nat) (qs1 : Nat → Nat → Nat) (mk1 : Nat) (wC1 : va_W), j219 ≤ P.parts → Ext qs qs1 mk mk1 → KW G xa pa qs1 mk1 P num wC1 → aW G sL_rows B 219 [(0, .ref (xa 0)), (4, .int (nI s)), (6, .int (nI (vW P s 0))), (7, .int (nI (vW P s 1))), (8, .int (nI (vW P 0 1))), (9, .int (nI f)), (10, .int (nI (vC P num 7))), (11, .int (nI (row / 6 ^ (P.parts - j219)))), (12, .int (pI j219))] [] (w4 G na wa ua la nn ww uu ll ++ wC1) 0 0 := by
    intro j219
    induction j219 with
    | zero =>
      intro qs1 mk1 wC1 hi hx1 hK1
      refine a_iload hB dL_rows_219 rfl ?_
      refine a_if_lt_t (tgt := 262) hB dL_rows_221 (by decide) pI_0 ?_
      exact aW_at [0, 1, 2, 3, 4, 5, 6] rfl rfl rfl (rs_end hB hR hE hK h hx1 hK1 hs w0 w1 w2 h7 hf f31)
    | succ j219 ih219 =>
      intro qs1 mk1 wC1 hi hx1 hK1
      rw [pI_s]
      have hjp : j219 < P.parts := by omega
      have hdiv : row / 6 ^ (P.parts - j219) = row / 6 ^ (P.parts - (j219 + 1)) / 6 := by
        rw [Nat.div_div_eq_div_mul, ← Nat.pow_succ]
        congr 2
        omega
      have hrle : row / 6 ^ (P.parts - (j219 + 1)) ≤ row := Nat.div_le_self _ _
      refine a_iload hB dL_rows_219 rfl ?_
      refine a_if_ltN_f (tgt := 262) hB dL_rows_221 (by decide) (by omega) ?_
      refine a_aload_n hB dL_rows_224 rfl ?_
      refine a_iload hB dL_rows_225 rfl ?_
      refine a_K hB hR (K_likeliest hc hjp) mk_X9_likeliest ml_L_56 dL_rows_227 rfl rfl hK1 ⟨by decide, by decide, by omega, by omega⟩ (Nat.le_of_ble_eq_true rfl) (fun qs227 mk227 wD227 he227 hK227 => ?_)
      refine a_iload hB dL_rows_230 rfl ?_
      refine a_if_neN (tgt := 239) hB dL_rows_232 (by decide) (by omega) (fun c232 => ?_) (fun c232 => ?_)
      · refine a_iload hB dL_rows_239 rfl ?_
        refine a_bipushN (v := 6) hB dL_rows_241 (by decide) ?_
        refine a_iremN hB dL_rows_243 (by omega) (by omega) (by omega) ?_
        refine a_icmp_eq_t (tgt := 249) hB dL_rows_244 (by decide) (by first | exact hL0 c232 _ hjp | exact hL1 c232 _ hjp) ?_
        refine a_iinc (v := -1) hB dL_rows_249 rfl (by decide) (by decide) ?_
        refine a_iload hB dL_rows_252 rfl ?_
        refine a_bipushN (v := 6) hB dL_rows_254 (by decide) ?_
        refine a_idivN hB dL_rows_256 (by omega) (by omega) (by omega) ?_
        refine a_istore hB dL_rows_257 (by decide) ?_
        refine a_goto (tgt := 219) hB dL_rows_259 (by decide) ?_
        exact aW_at [0, 1, 2, 3, 4, 5, 6, 7, 8] (by rw [hdiv, ← pI_d]; rfl) rfl rfl (ih219 _ _ _ (by omega) (hx1.trans he227) hK227)
      · refine a_iconst (v := -1) hB dL_rows_235 (by decide) ?_
        refine a_goto (tgt := 244) hB dL_rows_236 (by decide) ?_
        refine a_icmp_eq_t (tgt := 249) hB dL_rows_244 (by decide) (by first | exact hL0 c232 _ hjp | exact hL1 c232 _ hjp) ?_
        refine a_iinc (v := -1) hB dL_rows_249 rfl (by decide) (by decide) ?_
        refine a_iload hB dL_rows_252 rfl ?_
        refine a_bipushN (v := 6) hB dL_rows_254 (by decide) ?_
        refine a_idivN hB dL_rows_256 (by omega) (by omega) (by omega) ?_
        refine a_istore hB dL_rows_257 (by decide) ?_
        refine a_goto (tgt := 219) hB dL_rows_259 (by decide) ?_
        exact aW_at [0, 1, 2, 3, 4, 5, 6, 7, 8] (by rw [hdiv, ← pI_d]; rfl) rfl rfl (ih219 _ _ _ (by omega) (hx1.trans he227) hK227)
  exact aW_at [0, 2, 3, 4, 5, 6, 7, 8, 9] (by rw [Nat.sub_self, Nat.pow_zero, Nat.div_one, ← z0]; rfl) rfl rfl (lp219 P.parts qs mk wC (Nat.le_refl _) (Ext.rf _ _) hK)
