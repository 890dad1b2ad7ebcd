/-! THE CLASS'S WORLD, with the saved plants behind it -/
def KW (G : GP) (xa pa : Nat → Nat) (qs : Nat → Nat → Nat) (mk : Nat) (P : PV) (num : Nat) (wC : va_W) : Prop :=
  ∃ (pl : Nat → Option Nat) (nx len : Nat) (cs f m : Nat → Nat) (g : Nat → UInt64) (R : Nat → PV), wC = wR G xa pa P pl nx num [] len cs f m g ++ plq G qs R mk ∧ Made mk nx num ∧ (∀ i, pl i = if i < mk then some (qs i 0) else none)
/-- more of the saved plants are there than before, the old ones where they were -/
def Ext (qs qs' : Nat → Nat → Nat) (mk mk' : Nat) : Prop := mk ≤ mk' ∧ ∀ i, i < mk → qs' i = qs i
theorem Ext.rf (qs : Nat → Nat → Nat) (mk : Nat) : Ext qs qs mk mk := ⟨Nat.le_refl _, fun _ _ => rfl⟩
theorem Ext.trans {q1 q2 q3 : Nat → Nat → Nat} {m1 m2 m3 : Nat} (h : Ext q1 q2 m1 m2) (g : Ext q2 q3 m2 m3) : Ext q1 q3 m1 m3 :=
  ⟨Nat.le_trans h.1 g.1, fun i hi => (g.2 i (Nat.lt_of_lt_of_le hi h.1)).trans (h.2 i hi)⟩
/-- the addresses of a saved plant, of the first mk -/
def adP (q : Nat → Nat) : List Nat := [q 0, q 1, q 2, q 3, q 4, q 5, q 6]
def adQ (qs : Nat → Nat → Nat) : Nat → List Nat
  | 0 => []
  | n + 1 => adQ qs n ++ adP (qs n)
theorem plq_ad (G : GP) (qs : Nat → Nat → Nat) (R : Nat → PV) : ∀ n, (plq G qs R n).map (·.1) = adQ qs n
  | 0 => rfl
  | n + 1 => by
    show (plq G qs R n ++ wP G (qs n) (R n)).map (·.1) = adQ qs n ++ adP (qs n)
    rw [List.map_append, plq_ad G qs R n]
    rfl
theorem adQ_ext {qs qs' : Nat → Nat → Nat} : ∀ n, (∀ i, i < n → qs' i = qs i) → adQ qs' n = adQ qs n
  | 0, _ => rfl
  | n + 1, h => by
    show adQ qs' n ++ adP (qs' n) = adQ qs n ++ adP (qs n)
    rw [adQ_ext n (fun i hi => h i (Nat.lt_succ_of_lt hi)), h n (Nat.lt_succ_self n)]
theorem adQ_more (qs : Nat → Nat → Nat) (m : Nat) : ∀ d, ∃ l, adQ qs (m + d) = adQ qs m ++ l
  | 0 => ⟨[], (List.append_nil _).symm⟩
  | d + 1 => by
    obtain ⟨l, h⟩ := adQ_more qs m d
    exact ⟨l ++ adP (qs (m + d)), by show adQ qs (m + d) ++ adP (qs (m + d)) = _; rw [h, List.append_assoc]⟩
def adR (xa pa : Nat → Nat) : List Nat := [xa 0, pa 0, pa 1, pa 2, pa 3, pa 4, pa 5, pa 6, xa 1, xa 2, xa 3, xa 4, xa 5, xa 6, xa 7, xa 8, xa 9, xa 10]
theorem KW.ad {G : GP} {xa pa : Nat → Nat} {qs : Nat → Nat → Nat} {mk num : Nat} {P : PV} {wC : va_W} (h : KW G xa pa qs mk P num wC) : wC.map (·.1) = adR xa pa ++ adQ qs mk := by
  obtain ⟨pl, nx, len, cs, f, m, g, R, rfl, -, -⟩ := h
  rw [List.map_append, plq_ad]
  rfl
theorem take_app {α : Type} (a b : List α) : (a ++ b).take a.length = a := by simp
/-- the order of the addresses is kept -/
theorem KW.keep {G : GP} {xa pa : Nat → Nat} {qs qs' : Nat → Nat → Nat} {mk mk' num num' : Nat} {P P' : PV} {wC wD w0 w1 : va_W} (h : KW G xa pa qs mk P num wC) (h' : KW G xa pa qs' mk' P' num' wD) (he : Ext qs qs' mk mk') (h0 : w1.map (·.1) = w0.map (·.1)) : AKeep (w0 ++ wC) (w1 ++ wD) := by
  unfold AKeep
  obtain ⟨l, hl⟩ := adQ_more qs' mk (mk' - mk)
  rw [show mk + (mk' - mk) = mk' by have := he.1; omega, adQ_ext mk he.2] at hl
  have e : (w1 ++ wD).map (·.1) = (w0 ++ wC).map (·.1) ++ l := by
    rw [List.map_append, List.map_append, h.ad, h'.ad, h0, hl, List.append_assoc, List.append_assoc]
  have e2 : (w0 ++ wC).length = ((w0 ++ wC).map (·.1)).length := by rw [List.length_map]
  rw [e, e2, take_app]
/-- a call of the class: what it answers, and the plant behind it -/
def KS (G : GP) (σ : MS) (mc ms : Nat) (xa pa : Nat → Nat) (args : List Value) (P P' : PV) (num num' : Nat) (a : Value) : Prop :=
  ∀ (qs : Nat → Nat → Nat) (mk : Nat) (wC : va_W), KW G xa pa qs mk P num wC → ∃ (W V : va_W) (m1 s1 : Nat), m1 ≤ mc ∧ s1 ≤ ms ∧ wC.Perm (W ++ V) ∧ (∃ fs, W[0]? = some (xa 0, .inr (9, fs))) ∧
    AM G σ m1 s1 (.ref (xa 0) :: args) W (fun rv w => rv = some a ∧ ∃ (qs' : Nat → Nat → Nat) (mk' : Nat) (wD : va_W), Ext qs qs' mk mk' ∧ (w ++ V).Perm wD ∧ KW G xa pa qs' mk' P' num' wD)
theorem min6 {n : Nat} (h : n ≤ 6) : min (n + 1) 6 = if n < 6 then n + 1 else 6 := by split <;> omega
/-- a call that saves first -/
theorem KS.save {G : GP} {σ : MS} {xa pa : Nat → Nat} {args : List Value} {P P' : PV} {num : Nat} {a : Value}
    (hn : ∀ {pl : Nat → Option Nat} {nx len : Nat} {cs f m : Nat → Nat} {g : Nat → UInt64}, nx < 6 → num ≤ 6 → pl nx = none → AM G σ 7 93 (.ref (xa 0) :: args) (wR G xa pa P pl nx num [] len cs f m g) (fun rv w => rv = some a ∧ ∃ qa : Nat → Nat, w = wR G xa pa P' (va_up pl nx (some (qa 0))) ((nx + 1) % 6) (min (num + 1) 6) [] len cs f m g ++ wP G qa (PV0.cpy P)))
    (ho : ∀ {pl : Nat → Option Nat} {nx len : Nat} {cs f m : Nat → Nat} {g : Nat → UInt64} {qa : Nat → Nat} {O : PV}, nx < 6 → num ≤ 6 → pl nx = some (qa 0) → AMd G σ (.ref (xa 0) :: args) (wR G xa pa P pl nx num (wP G qa O) len cs f m g) (some a) (wR G xa pa P' pl ((nx + 1) % 6) (min (num + 1) 6) (wP G qa (O.cpy P)) len cs f m g)) :
    KS G σ 8 96 xa pa args P P' num (min (num + 1) 6) a := by
  intro qs mk wC hK
  obtain ⟨pl, nx, len, cs, f, m, g, R, rfl, hM, hpl⟩ := hK
  have h6 : num ≤ 6 := hM.2.2.1
  by_cases q : nx < mk
  · have hpn : pl nx = some (qs nx 0) := by rw [hpl nx, if_pos q]
    refine ⟨wR G xa pa P pl nx num (wP G (qs nx) (R nx)) len cs f m g, plx G qs R nx mk, 0, 0, by decide, by decide, ?_, ⟨_, rfl⟩, (ho (O := R nx) hM.2.1 h6 hpn).mono (fun v w h => ⟨h.1, ?_⟩)⟩
    · refine ((plq_get q).append_left _).trans ?_
      rw [← List.append_assoc]
      exact (wR_T.symm.append_right _)
    · obtain ⟨-, rfl⟩ := h
      refine ⟨qs, mk, _, Ext.rf _ _, ?_, ⟨pl, (nx + 1) % 6, len, cs, f, m, g, uN R nx ((R nx).cpy P), rfl, by rw [min6 h6]; exact hM.old q, hpl⟩⟩
      refine (wR_T.append_right _).trans ?_
      rw [List.append_assoc]
      exact (plq_put _ mk q).symm.append_left _
  · obtain ⟨hnm, hm6, hM2⟩ := hM.new q
    have hpn : pl nx = none := by rw [hpl nx, if_neg q]
    refine ⟨wR G xa pa P pl nx num [] len cs f m g, plq G qs R mk, 7, 93, by decide, by decide, List.Perm.refl _, ⟨_, rfl⟩, (hn hM.2.1 h6 hpn).mono (fun v w h => ⟨h.1, ?_⟩)⟩
    obtain ⟨-, qa, rfl⟩ := h
    refine ⟨uN qs nx qa, mk + 1, _, ⟨Nat.le_succ _, fun i hi => show (if i = nx then qa else qs i) = qs i from if_neg (by omega)⟩, ?_, ⟨va_up pl nx (some (qa 0)), (nx + 1) % 6, len, cs, f, m, g, uN R nx (PV0.cpy P), rfl, by rw [min6 h6]; exact hM2, ?_⟩⟩
    · rw [List.append_assoc]
      refine List.Perm.append_left _ ?_
      have e : plq G (uN qs nx qa) (uN R nx (PV0.cpy P)) (mk + 1) = plq G qs R mk ++ wP G qa (PV0.cpy P) := by
        show plq G (uN qs nx qa) (uN R nx (PV0.cpy P)) mk ++ wP G (uN qs nx qa mk) (uN R nx (PV0.cpy P) mk) = _
        have e3 : plq G (uN qs nx qa) (uN R nx (PV0.cpy P)) mk = plq G qs R mk := plq_ext mk (fun i hi => ⟨show (if i = nx then qa else qs i) = qs i from if_neg (by omega), show (if i = nx then PV0.cpy P else R i) = R i from if_neg (by omega)⟩)
        rw [e3, show uN qs nx qa mk = qa from if_pos hnm.symm, show uN R nx (PV0.cpy P) mk = PV0.cpy P from if_pos hnm.symm]
      rw [e]
      exact List.perm_append_comm
    · intro i
      show (if i = nx then some (qa 0) else pl i) = if i < mk + 1 then some ((if i = nx then qa else qs i) 0) else none
      by_cases e : i = nx
      · rw [if_pos e, if_pos (show i < mk + 1 by omega), if_pos e]
      · rw [if_neg e, if_neg e, hpl i]
        by_cases e2 : i < mk
        · rw [if_pos e2, if_pos (show i < mk + 1 by omega)]
        · rw [if_neg e2, if_neg (show ¬ i < mk + 1 by omega)]
/-- a look -/
theorem KS.look {G : GP} {σ : MS} {xa pa : Nat → Nat} {args : List Value} {P : PV} {num : Nat} {a : Value}
    (h : ∀ {pl : Nat → Option Nat} {nx len : Nat} {cs f m : Nat → Nat} {g : Nat → UInt64}, AM G σ 0 0 (.ref (xa 0) :: args) (wR G xa pa P pl nx num [] len cs f m g) (fun rv w => rv = some a ∧ ∃ (f m : Nat → Nat) (g : Nat → UInt64), w = wR G xa pa P pl nx num [] len cs f m g)) :
    KS G σ 0 0 xa pa args P P num num a := by
  intro qs mk wC hK
  obtain ⟨pl, nx, len, cs, f, m, g, R, rfl, hM, hpl⟩ := hK
  refine ⟨wR G xa pa P pl nx num [] len cs f m g, plq G qs R mk, 0, 0, Nat.le_refl _, Nat.le_refl _, List.Perm.refl _, ⟨_, rfl⟩, h.mono (fun v w h => ⟨h.1, ?_⟩)⟩
  obtain ⟨-, f1, m1, g1, rfl⟩ := h
  exact ⟨qs, mk, _, Ext.rf _ _, List.Perm.refl _, ⟨pl, nx, len, cs, f1, m1, g1, R, rfl, hM, hpl⟩⟩
theorem pm_K {α : Type} {w0 C W V : List α} (h : C.Perm (W ++ V)) : (w0 ++ C).Perm (W ++ (V ++ w0)) := by
  rw [← List.append_assoc]
  exact (List.perm_append_comm).trans (h.append_right _)
theorem pm_K' {α : Type} {w0 w V D : List α} (h : (w ++ V).Perm D) : (w ++ (V ++ w0)).Perm (w0 ++ D) := by
  rw [← List.append_assoc]
  exact (h.append_right _).trans List.perm_append_comm
section CallK
variable {G : GP} {σ τ : MS} {B : Bd} {pc k n mc ms idx nA M S num num' mk : Nat} {L : List (Nat × Value)} {st rest As : List Value} {w0 wC : va_W} {xa pa : Nat → Nat} {qs : Nat → Nat → Nat} {P P' : PV} {a : Value}
/-- the law calls the class -/
theorem a_K (hB : Bok G σ B) (hR : B.room σ M S) (hS : KS G τ mc ms xa pa As P P' num num' a) (mkv : MKv τ.y τ.cc τ.nL τ.ret RX9 nA) (hw : Cond.methodLink σ.own idx τ.y ∈ gw) (hd : decode σ.cc pc = .ok (.invokevirtual idx, 3)) (hst : st = As.reverse ++ .ref (xa 0) :: rest) (hnA : As.length = nA) (hK : KW G xa pa qs mk P num wC)
    (hfit : τ.lv + 1 ≤ σ.lv ∧ τ.nL ≤ 17 ∧ k + mc ≤ M ∧ n + ms ≤ S) (hcat : (rest.map fun v => v.category).sum ≤ 8)
    (kk : ∀ (qs' : Nat → Nat → Nat) (mk' : Nat) (wD : va_W), Ext qs qs' mk mk' → KW G xa pa qs' mk' P' num' wD → aW G σ B (pc + 3) L (a :: rest) (w0 ++ wD) (k + mc) (n + ms)) : aW G σ B pc L st (w0 ++ wC) k n := by
  obtain ⟨W, V, m1, s1, h1, h2, hp, ⟨fs, hx⟩, hA⟩ := hS qs mk wC hK
  obtain ⟨f1, f2, f3, f4⟩ := hfit
  refine a_callVp (ci := 9) hB hA mkv hw hd hst hnA (pm_K hp) rfl hx (fit_of hR ⟨f1, f2, by omega, by omega⟩) hcat (fun v w hq => ?_)
  obtain ⟨rfl, qs', mk', wD, he, hp2, hK2⟩ := hq
  exact aW_widen (by omega) (by omega) (aW_perm (pm_K' hp2) (kk qs' mk' wD he hK2))
end CallK
/-! what each command and each look is, of a plant that is as it should be -/
section Steps
variable {G : GP} {xa pa : Nat → Nat} {P : PV} {num : Nat}
theorem K_addPart (hP : P.cinv) {v : Nat} (hv : v < 6) (h6 : P.parts < 6) : KS G sX9_addPart 8 96 xa pa [.int (nI v)] P (P.addPart v) num (min (num + 1) 6) (.int (nI P.parts)) :=
  KS.save (fun h1 h2 h3 => c_X9_addPart_n h1 h2 h3 hv h6) (fun h1 h2 h3 => c_X9_addPart_o h1 h2 h3 hv h6)
theorem K_removePart (hP : P.cinv) {p : Nat} (hp : p < P.parts) : KS G sX9_removePart 8 96 xa pa [.int (nI p)] P (P.drop p) num (min (num + 1) 6) (.int (nI (P.parts - 1))) :=
  KS.save (fun h1 h2 h3 => c_X9_removePart_n h1 h2 h3 hp hP.1.1.1) (fun h1 h2 h3 => c_X9_removePart_o h1 h2 h3 hp hP.1.1.1)
theorem K_weigh (hP : P.cinv) {p l v : Nat} (hp : p < P.parts) (hl : l < 6) (hv : v ≤ 9) (hz : ¬ (v = 0 ∧ tot P.wt p = gt P.wt p l)) : KS G sX9_weigh 8 96 xa pa [.int (nI p), .int (nI l), .int (nI v)] P (P.setW p l v) num (min (num + 1) 6) (.int (nI (gt P.wt p l))) :=
  KS.save (fun h1 h2 h3 => c_X9_weigh_n h1 h2 h3 hp hP.1.1.1 hl hv hP.2.1 hP.2.2.1 hz) (fun h1 h2 h3 => c_X9_weigh_o h1 h2 h3 hp hP.1.1.1 hl hv hP.2.1 hP.2.2.1 hz)
theorem K_tilt (hP : P.cinv) {p l v : Nat} (hp : p < P.parts) (hl : l < 6) (h1 : 1 ≤ v) (hv : v ≤ 99) (hz : ¬ gt P.wt p l = 0) : KS G sX9_tilt 8 96 xa pa [.int (nI p), .int (nI l), .int (nI v)] P (P.setT p l v) num (min (num + 1) 6) (.int (nI (gt P.tl p l))) :=
  KS.save (fun g1 g2 g3 => c_X9_tilt_n g1 g2 g3 hp hP.1.1.1 hl h1 hv hP.2.1 hP.2.2.1 hz) (fun g1 g2 g3 => c_X9_tilt_o g1 g2 g3 hp hP.1.1.1 hl h1 hv hP.2.1 hP.2.2.1 hz)
theorem K_tiltAll (hP : P.cinv) {v : Nat} (hv : v ≤ 9) : KS G sX9_tiltAll 8 96 xa pa [.int (nI v)] P (P.tiltBy v) num (min (num + 1) 6) (.int (nI (sumN (tot (P.tiltBy v).tl) P.parts))) :=
  KS.save (fun h1 h2 h3 => c_X9_tiltAll_n h1 h2 h3 hP.1.1.1 hv hP.2.1 hP.2.2.1) (fun h1 h2 h3 => c_X9_tiltAll_o h1 h2 h3 hP.1.1.1 hv hP.2.1 hP.2.2.1)
theorem K_limit {v : Nat} (hv : v ≤ 99) : KS G sX9_limit 8 96 xa pa [.int (nI v)] P (P.setLim v) num (min (num + 1) 6) (.int (nI P.limit)) :=
  KS.save (fun h1 h2 h3 => c_X9_limit_n h1 h2 h3 hv) (fun h1 h2 h3 => c_X9_limit_o h1 h2 h3 hv)
theorem K_seed {v : Nat} (hv : v < 2147483648) : KS G sX9_seed 8 96 xa pa [.int (nI v)] P (P.setSeed v) num (min (num + 1) 6) (.int (nI P.seed)) :=
  KS.save (fun h1 h2 h3 => c_X9_seed_n h1 h2 h3 hv) (fun h1 h2 h3 => c_X9_seed_o h1 h2 h3 hv)
theorem K_draw (hP : P.cinv) {v : Nat} (h1 : 1 ≤ v) (hv : v ≤ 64) (hs : P.sv.num + v ≤ 9999) (hf : P.sv.flt ≤ (drN P v).sv.flt) : KS G sX9_draw 8 96 xa pa [.int (nI v)] P (drN P v) num (min (num + 1) 6) (.int (nI ((drN P v).sv.flt - P.sv.flt))) := by
  have hr : ∀ i, i < v → (drN P i).rowOK := fun i hi => by
    obtain ⟨a1, a2⟩ := hP.1.draws i (by omega)
    obtain ⟨k1, k2, -⟩ := drN_keep hP.1.1.1 i
    exact a1.ok1 (by rw [k1]; exact hP.2.1) (by rw [k2]; exact hP.2.2.1) (by omega)
  exact KS.save (fun g1 g2 g3 => c_X9_draw_n g1 g2 g3 h1 hv hs hf hr) (fun g1 g2 g3 => c_X9_draw_o g1 g2 g3 h1 hv hs hf hr)
theorem K_part (hP : P.cinv) {p k : Nat} (hp : p < P.parts) (hk : k ≤ 6) : KS G sX9_part 0 0 xa pa [.int (nI p), .int (nI k)] P P num num (.int (vP P p k)) :=
  KS.look (c_X9_part hP.1.1.1 hP.2.1 hP.1.1.2.2 (by have := hP.1.2.2.2.2.2.1; omega) hp hk)
theorem K_weight0 (hP : P.cinv) {p l : Nat} (hp : p < P.parts) (hl : l < 6) : KS G sX9_weight 0 0 xa pa [.int (nI p), .int (nI l), .int (nI 0)] P P num num (.int (nI (gt P.wt p l))) :=
  KS.look (c_X9_weight_0 hP.1.1.1 hp hl)
theorem K_weight1 (hP : P.cinv) {p l : Nat} (hp : p < P.parts) (hl : l < 6) : KS G sX9_weight 0 0 xa pa [.int (nI p), .int (nI l), .int (nI 1)] P P num num (.int (nI (gt P.tl p l))) :=
  KS.look (c_X9_weight_1 hP.1.1.1 hp hl)
theorem K_ways (hP : P.cinv) {s b : Nat} (hs : s ≤ 99) (hb : b ≤ 1) : KS G sX9_ways 0 0 xa pa [.int (nI s), .int (nI b)] P P num num (.long (lN (vW P s b))) :=
  KS.look (c_X9_ways hP.1.1.1 hP.2.1 hs hb)
theorem K_likeliest (hP : P.cinv) {p : Nat} (hp : p < P.parts) : KS G sX9_likeliest 0 0 xa pa [.int (nI p)] P P num num (.int (vL P p)) :=
  KS.look (c_X9_likeliest hP.1.1.1 hP.2.1 hP.1.2.1 hp)
theorem K_count (hP : P.cinv) {k : Nat} (hk : k ≤ 8) : KS G sX9_count 0 0 xa pa [.int (nI k)] P P num num (.int (nI (vC P num k))) :=
  KS.look (c_X9_count hP.1.1.1 hP.2.1 hP.1.2.1 hP.1.1.2.2 hk)
theorem K_measure0 (hP : P.cinv) : KS G sX9_measure 0 0 xa pa [.int (nI 0)] P P num num (.double (vM P 0)) :=
  KS.look (c_X9_measure_0 hP.1.1.1 hP.2.1 hP.1.2.1 (by have := hP.1.2.2.2.2.2.1; omega) hP.1.m)
end Steps
