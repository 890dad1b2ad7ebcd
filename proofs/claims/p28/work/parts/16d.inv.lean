/-! WHAT THE LAW KEEPS BESIDE THE CLASS -/
def nnOK (P : PV) (num : Nat) (nn : Nat → Nat) : Prop := nn 0 = P.parts ∧ nn 1 = P.limit ∧ nn 2 = P.seed ∧ nn 3 = P.sv.num ∧ nn 4 = P.sv.flt ∧ nn 5 = num
def wuOK (P : PV) (ww uu : Nat → Nat) : Prop := ∀ p l, p < P.parts → l < 6 → ww (6 * p + l) = gt P.wt p l ∧ uu (6 * p + l) = gt P.tl p l
def llOK (P : PV) (ll : Nat → Nat) : Prop := ¬ P.sv.num = 0 → ∀ p, p < P.parts → ll p = P.sv.ll p
def LI (P : PV) (num : Nat) (nn ww uu ll : Nat → Nat) : Prop :=
  (∃ z sf, Rel P z sf) ∧ P.parts ≤ 3 ∧ P.limit ≤ 15 ∧ num ≤ 6 ∧ nnOK P num nn ∧ wuOK P ww uu ∧ llOK P ll
theorem LI.c {P : PV} {num : Nat} {nn ww uu ll : Nat → Nat} (h : LI P num nn ww uu ll) : P.cinv := by
  obtain ⟨⟨z, sf, hR⟩, -⟩ := h
  exact hR.1
theorem LI.tw {P : PV} {num : Nat} {nn ww uu ll : Nat → Nat} (h : LI P num nn ww uu ll) {p : Nat} (hp : p < P.parts) : sumN (fun l => ww (6 * p + l)) 6 = tot P.wt p := sumN_eq 6 (fun l hl => (h.2.2.2.2.2.1 p l hp hl).1)
theorem LI.tu {P : PV} {num : Nat} {nn ww uu ll : Nat → Nat} (h : LI P num nn ww uu ll) {p : Nat} (hp : p < P.parts) : sumN (fun l => uu (6 * p + l)) 6 = tot P.tl p := sumN_eq 6 (fun l hl => (h.2.2.2.2.2.1 p l hp hl).2)
theorem wuOK.wt {P : PV} {ww uu : Nat → Nat} (h : wuOK P ww uu) {p : Nat} (hp : p < P.parts) : sumN (fun l => ww (6 * p + l)) 6 = tot P.wt p := sumN_eq 6 (fun l hl => (h p l hp hl).1)
theorem wuOK.ut {P : PV} {ww uu : Nat → Nat} (h : wuOK P ww uu) {p : Nat} (hp : p < P.parts) : sumN (fun l => uu (6 * p + l)) 6 = tot P.tl p := sumN_eq 6 (fun l hl => (h p l hp hl).2)
theorem uN_at (w : Nat → Nat) (i v : Nat) : uN w i v i = v := if_pos rfl
theorem uN_ne {w : Nat → Nat} {i v j : Nat} (h : ¬ j = i) : uN w i v j = w j := if_neg h
theorem m6le (n : Nat) : min (n + 1) 6 ≤ 6 := Nat.min_le_right _ _
section LISteps
variable {P : PV} {num : Nat} {nn ww uu ll nn' ww' uu' ll' : Nat → Nat}
theorem llOK.zero {ll : Nat → Nat} (h : P.sv.num = 0) : llOK P ll := fun q => absurd h q
theorem LI.weigh (h : LI P num nn ww uu ll) {p l v : Nat} (hp : p < P.parts) (hl : l < 6) (hv : v ≤ 9) (hz : ¬ tot P.wt p - gt P.wt p l + v = 0) (hn : nnOK (P.setW p l v) (min (num + 1) 6) nn') (hu : uu' = if v = 0 ∨ gt P.wt p l = 0 then uN uu (6 * p + l) v else uu) : LI (P.setW p l v) (min (num + 1) 6) nn' (uN ww (6 * p + l) v) uu' ll := by
  obtain ⟨⟨z, sf, hR⟩, h3, h15, h6, -, hw, -⟩ := h
  refine ⟨⟨_, _, hR.weigh hp hl hv hz⟩, h3, h15, m6le _, hn, fun q m hq hm => ?_, llOK.zero rfl⟩
  have hq : q < P.parts := hq
  have e1 : gt (P.setW p l v).wt q m = if q = p ∧ m = l then v else gt P.wt q m := gt_uN hl hm (by omega)
  have e2 : gt (P.setW p l v).tl q m = if v = 0 ∨ gt P.wt p l = 0 then (if q = p ∧ m = l then v else gt P.tl q m) else gt P.tl q m := by
    show gt (if v = 0 ∨ gt P.wt p l = 0 then uN P.tl (p * 6 + l) v else P.tl) q m = _
    by_cases x : v = 0 ∨ gt P.wt p l = 0
    · rw [if_pos x, if_pos x]; exact gt_uN hl hm (by omega)
    · rw [if_neg x, if_neg x]
  obtain ⟨g1, g2⟩ := hw q m hq hm
  rw [e1, e2, hu]
  by_cases y : q = p ∧ m = l
  · obtain ⟨rfl, rfl⟩ := y
    refine ⟨(uN_at _ _ _).trans (if_pos ⟨rfl, rfl⟩).symm, ?_⟩
    by_cases x : v = 0 ∨ gt P.wt q m = 0
    · rw [if_pos x, if_pos x, if_pos ⟨rfl, rfl⟩]; exact uN_at _ _ _
    · rw [if_neg x, if_neg x]; exact g2
  · have ne : ¬ 6 * q + m = 6 * p + l := by omega
    refine ⟨by rw [uN_ne ne, if_neg y]; exact g1, ?_⟩
    by_cases x : v = 0 ∨ gt P.wt p l = 0
    · rw [if_pos x, if_pos x, if_neg y, uN_ne ne]; exact g2
    · rw [if_neg x, if_neg x]; exact g2
theorem LI.tilt (h : LI P num nn ww uu ll) {p l v : Nat} (hp : p < P.parts) (hl : l < 6) (h1 : 1 ≤ v) (hv : v ≤ 99) (hz : ¬ gt P.wt p l = 0) (hn : nnOK (P.setT p l v) (min (num + 1) 6) nn') : LI (P.setT p l v) (min (num + 1) 6) nn' ww (uN uu (6 * p + l) v) ll := by
  obtain ⟨⟨z, sf, hR⟩, h3, h15, h6, -, hw, -⟩ := h
  refine ⟨⟨_, _, hR.tilt hp hl h1 hv hz⟩, h3, h15, m6le _, hn, fun q m hq hm => ?_, llOK.zero rfl⟩
  have hq : q < P.parts := hq
  have e2 : gt (P.setT p l v).tl q m = if q = p ∧ m = l then v else gt P.tl q m := gt_uN hl hm (by omega)
  obtain ⟨g1, g2⟩ := hw q m hq hm
  refine ⟨g1, ?_⟩
  rw [e2]
  by_cases y : q = p ∧ m = l
  · rw [if_pos y, y.1, y.2]; exact uN_at _ _ _
  · rw [if_neg y, uN_ne (by omega)]; exact g2
theorem LI.tiltAll (h : LI P num nn ww uu ll) {b : Nat} (hn : nnOK (P.tiltBy b) (min (num + 1) 6) nn') (hu : ∀ p l, p < P.parts → l < 6 → uu' (6 * p + l) = min (ww (6 * p + l) * (1 + l * b)) 99) : LI (P.tiltBy b) (min (num + 1) 6) nn' ww uu' ll ∧ sumN uu' (6 * P.parts) = sumN (tot (P.tiltBy b).tl) P.parts := by
  obtain ⟨⟨z, sf, hR⟩, h3, h15, h6, -, hw, -⟩ := h
  have e : ∀ q m, q < P.parts → m < 6 → uu' (6 * q + m) = gt (P.tiltBy b).tl q m := fun q m hq hm => by
    have e2 : gt (P.tiltBy b).tl q m = if q < P.parts then min (gt P.wt q m * (1 + m * b)) 99 else gt P.tl q m := tbR_gt P.parts (by omega) q m hm
    rw [e2, if_pos hq, hu q m hq hm, (hw q m hq hm).1]
  refine ⟨⟨⟨_, _, hR.tiltAll.1⟩, h3, h15, m6le _, hn, fun q m hq hm => ⟨(hw q m hq hm).1, e q m hq hm⟩, llOK.zero rfl⟩, ?_⟩
  rw [sumN_6]
  exact sumN_eq _ (fun q hq => sumN_eq 6 (fun m hm => e q m hq hm))
theorem LI.lim (h : LI P num nn ww uu ll) {v : Nat} (hv : v ≤ 15) (hn : nnOK (P.setLim v) (min (num + 1) 6) nn') : LI (P.setLim v) (min (num + 1) 6) nn' ww uu ll := by
  obtain ⟨⟨z, sf, hR⟩, h3, h15, h6, -, hw, -⟩ := h
  exact ⟨⟨_, _, hR.lim (by omega)⟩, h3, hv, m6le _, hn, hw, llOK.zero rfl⟩
theorem LI.seed (h : LI P num nn ww uu ll) {v : Nat} (hv : v < 2147483648) (hn : nnOK (P.setSeed v) (min (num + 1) 6) nn') : LI (P.setSeed v) (min (num + 1) 6) nn' ww uu ll := by
  obtain ⟨⟨z, sf, hR⟩, h3, h15, h6, -, hw, hl⟩ := h
  exact ⟨⟨_, _, hR.seed hv⟩, h3, h15, m6le _, hn, hw, hl⟩
theorem LI.addPart (h : LI P num nn ww uu ll) {v : Nat} (hv : v < 6) (h2 : P.parts < 3) (hn : nnOK (P.addPart v) (min (num + 1) 6) nn') (hu : ∀ q l, q < 4 → l < 6 → ww' (6 * q + l) = (if q = P.parts then (if l ≤ v then 1 else 0) else ww (6 * q + l)) ∧ uu' (6 * q + l) = (if q = P.parts then (if l ≤ v then 1 else 0) else uu (6 * q + l))) : LI (P.addPart v) (min (num + 1) 6) nn' ww' uu' ll := by
  obtain ⟨⟨z, sf, hR⟩, h3, h15, h6, -, hw, -⟩ := h
  have eP : P.addPart v = mkP (onesW P.wt P.parts (v + 1)) (onesW P.tl P.parts (v + 1)) P.sv.clr (P.parts + 1) P.limit P.seed := adN_eq P.addE P.parts (v + 1)
  have hc := hR.1.2.2.2
  refine ⟨⟨_, _, hR.addPart hv (by omega)⟩, by rw [eP]; show P.parts + 1 ≤ 3; omega, by rw [eP]; exact h15, m6le _, hn, fun q m hq hm => ?_, llOK.zero (by rw [eP]; rfl)⟩
  rw [eP] at hq
  have hq : q < P.parts + 1 := hq
  obtain ⟨g1, g2⟩ := hu q m (by omega) hm
  have e1 : gt (P.addPart v).wt q m = if q = P.parts ∧ m < v + 1 then 1 else gt P.wt q m := by rw [eP]; exact onesW_gt (by omega) (v + 1) (by omega) q m hm
  have e2 : gt (P.addPart v).tl q m = if q = P.parts ∧ m < v + 1 then 1 else gt P.tl q m := by rw [eP]; exact onesW_gt (by omega) (v + 1) (by omega) q m hm
  rw [e1, e2, g1, g2]
  by_cases x : q = P.parts
  · obtain ⟨c1, c2⟩ := hc q m (by omega) (by omega) hm
    rw [if_pos x, if_pos x]
    by_cases y : m ≤ v
    · rw [if_pos y, if_pos ⟨x, by omega⟩, if_pos ⟨x, by omega⟩]; exact ⟨rfl, rfl⟩
    · rw [if_neg y, if_neg (by omega), if_neg (by omega), c1, c2]; exact ⟨rfl, rfl⟩
  · rw [if_neg x, if_neg x, if_neg (fun z => x z.1), if_neg (fun z => x z.1)]
    exact hw q m (by omega) hm
theorem LI.drop (h : LI P num nn ww uu ll) {p : Nat} (hp : p < P.parts) (hn : nnOK (P.drop p) (min (num + 1) 6) nn') (hu : ∀ j, j < 6 * (P.parts - 1) → ww' j = (if 6 * p ≤ j then ww (j + 6) else ww j) ∧ uu' j = (if 6 * p ≤ j then uu (j + 6) else uu j)) : LI (P.drop p) (min (num + 1) 6) nn' ww' uu' ll := by
  obtain ⟨⟨z, sf, hR⟩, h3, h15, h6, -, hw, -⟩ := h
  refine ⟨⟨_, _, hR.drop hp⟩, by show P.parts - 1 ≤ 3; omega, h15, m6le _, hn, fun q m hq hm => ?_, llOK.zero rfl⟩
  have hq : q < P.parts - 1 := hq
  obtain ⟨g1, g2⟩ := hu (6 * q + m) (by omega)
  have e1 : gt (P.drop p).wt q m = if p ≤ q ∧ q < p + (6 - p) then gt P.wt (q + 1) m else gt P.wt q m := drR_gt (6 - p) (by omega) q m hm
  have e2 : gt (P.drop p).tl q m = if p ≤ q ∧ q < p + (6 - p) then gt P.tl (q + 1) m else gt P.tl q m := drR_gt (6 - p) (by omega) q m hm
  rw [e1, e2, g1, g2]
  by_cases x : p ≤ q
  · rw [if_pos (by omega), if_pos (by omega), if_pos (by omega), if_pos (by omega), show 6 * q + m + 6 = 6 * (q + 1) + m by omega]
    exact hw (q + 1) m (by omega) hm
  · rw [if_neg (by omega), if_neg (by omega), if_neg (by omega), if_neg (by omega)]
    exact hw q m (by omega) hm
theorem LI.draws (h : LI P num nn ww uu ll) {v : Nat} (hs : P.sv.num + v ≤ 9999) (hn : nnOK (drN P v) (min (num + 1) 6) nn') (hl : llOK (drN P v) ll') : LI (drN P v) (min (num + 1) 6) nn' ww uu ll' := by
  obtain ⟨⟨z, sf, hR⟩, h3, h15, h6, -, hw, -⟩ := h
  obtain ⟨k1, k2, k3, k4, -⟩ := drN_keep hR.1.1.1.1 v
  refine ⟨⟨_, _, hR.draws hs⟩, by rw [k3]; exact h3, by rw [k4]; exact h15, m6le _, hn, fun q m hq hm => ?_, hl⟩
  rw [k3] at hq
  rw [k1, k2]
  exact hw q m hq hm
end LISteps
theorem LI.start : LI PV0 0 (uN (uN zN 1 10) 2 1) zN zN zN := by
  refine ⟨⟨_, _, Rel.start⟩, by decide, by decide, by decide, ⟨rfl, rfl, rfl, rfl, rfl, rfl⟩, fun p l hp _ => absurd hp (Nat.not_lt_zero p), llOK.zero rfl⟩
