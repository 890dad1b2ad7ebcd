/-! THE LAW'S CALLS: a callee's cells stand anywhere in the world; and the law's world -/
theorem AM.mono {G : GP} {σ : MS} {mc ms : Nat} {av : List Value} {ws : va_W} {Qf Qg : Option Value → va_W → Prop} (h : AM G σ mc ms av ws Qf) (hq : ∀ v w, Qf v w → Qg v w) : AM G σ mc ms av ws Qg := by
  intro sz hb
  refine MetFree.mono (h sz hb) (fun _ _ h => h) (fun _ _ _ _ _ h => h) (fun a st o t _ hQ => ?_)
  obtain ⟨⟨⟨v, ws', e, q, r⟩, f⟩, g⟩ := hQ
  exact ⟨⟨⟨v, ws', e, hq _ _ q, r⟩, f⟩, g⟩
theorem wput_front {wc w wr : va_W} (h : AKeep wc w) : (wput (wc ++ wr) (segL 0 wc.length) w).Perm (w ++ wr) := by
  have hl := h.len
  have e := wput_segE (ws := wc ++ wr) (w1 := []) (wc := wc) (w3 := wr) (wd := w.take wc.length) (ex := w.drop wc.length) (wdx := w) (ps := segL 0 wc.length) (w2 := (w.take wc.length ++ wr) ++ w.drop wc.length) rfl rfl (by rw [List.length_take]; omega) (List.take_append_drop _ _).symm rfl
  rw [e, List.append_assoc]
  have h2 : w ++ wr = w.take wc.length ++ (w.drop wc.length ++ wr) := by rw [← List.append_assoc, List.take_append_drop]
  rw [h2]
  exact List.Perm.append_left _ List.perm_append_comm
section CallP
variable {G : GP} {σ τ : MS} {B : Bd} {pc k n mc ms idx nA : Nat} {L : List (Nat × Value)} {st rest As : List Value} {ws wc wr : va_W} {Qf : Option Value → va_W → Prop} {C : String}
theorem get0_app {q : Nat × va_E} (h : wc[0]? = some q) : (wc ++ wr)[0]? = some q := by
  cases wc with
  | nil => cases h
  | cons x xs => exact h
theorem a_callVp (hB : Bok G σ B) {a ci N : Nat} {T : u_T} {fs : List Value} (hM : AM G τ mc ms (.ref a :: As) wc Qf) (mk : MKv τ.y τ.cc τ.nL τ.ret C nA) (hw : Cond.methodLink σ.own idx τ.y ∈ gw) (hd : decode σ.cc pc = .ok (.invokevirtual idx, 3)) (hst : st = As.reverse ++ .ref a :: rest) (hnA : As.length = nA) (hp : ws.Perm (wc ++ wr))
    (hc : vwCl[ci]? = some (C, T, N)) (he : wc[0]? = some (a, .inr (ci, fs))) (hfit : B.fits τ k n mc ms) (hcat : (rest.map fun v => v.category).sum ≤ 8)
    (kk : ∀ (v : Option Value) (w : va_W), Qf v w → aW G σ B (pc + 3) L (v.toList ++ rest) (w ++ wr) (k + mc) (n + ms)) : aW G σ B pc L st ws k n :=
  aW_perm hp (a_callV (q0 := 0) hB hM mk hw hd hst hnA (segL 0 wc.length) (seg_map wc [] wr) (segL_nd _ _) hc (get0_app he) hfit hcat (fun v w hq hk => aW_perm (wput_front hk) (kk v w hq)))
/-- the script -/
theorem a_sld (hB : Bok G σ B) {b Ln : Nat} {xs : Nat → Int32} (hX : va_X b Ln xs B.s B.s.heap) (hbl : b < B.s.heap.size) (hbA : ¬ B.A b) {i : Nat} (hin : i < Ln) (hLn : Ln ≤ 2048) (hd : decode σ.cc pc = .ok (.iaload, 1))
    (kk : aW G σ B (pc + 1) L (.int (xs i) :: rest) ws k n) : aW G σ B pc L (.int (nI i) :: .ref b :: rest) ws k n := fun H locs ls hP hD hS hl => by
  refine va_sld hB.hx hB.hb hX hbl hbA hS (i := nI i) (vp_in_nI hin (by omega)) hd ?_
  rw [nI_clamp (by omega)]
  exact kk H locs ls hP hD hS hl
theorem a_slen (hB : Bok G σ B) {b Ln : Nat} {xs : Nat → Int32} (hX : va_X b Ln xs B.s B.s.heap) (hbl : b < B.s.heap.size) (hbA : ¬ B.A b) (hd : decode σ.cc pc = .ok (.arraylength, 1))
    (kk : aW G σ B (pc + 1) L (.int (nI Ln) :: rest) ws k n) : aW G σ B pc L (.ref b :: rest) ws k n := fun H locs ls hP hD hS hl =>
  va_slen hB.hx hB.hb hX hbl hbA hS hd (kk H locs ls hP hD hS hl)
end CallP
-- worlds in another order
section Perms
variable {α : Type} {o d : α} {C W V M X : List α}
theorem pm_o (h : C.Perm (W ++ V)) : (o :: d :: (C ++ M)).Perm ((o :: W) ++ (V ++ d :: M)) := by
  refine List.Perm.cons o ?_
  refine List.perm_middle.symm.trans ?_
  show (C ++ d :: M).Perm (W ++ (V ++ d :: M))
  rw [← List.append_assoc]
  exact h.append_right _
theorem pm_o' : ((o :: W) ++ (V ++ d :: M)).Perm (o :: d :: ((W ++ V) ++ M)) := by
  refine List.Perm.cons o ?_
  show (W ++ (V ++ d :: M)).Perm (d :: ((W ++ V) ++ M))
  rw [← List.append_assoc]
  exact List.perm_middle
theorem pm_d (h : C.Perm (W ++ V)) : (o :: d :: (C ++ M)).Perm ((d :: W) ++ (V ++ o :: M)) :=
  (List.Perm.swap d o _).trans (pm_o h)
theorem pm_d' : ((d :: W) ++ (V ++ o :: M)).Perm (o :: d :: ((W ++ V) ++ M)) := pm_o'.trans (List.Perm.swap o d _)
theorem pm_c (h : C.Perm (W ++ V)) : (o :: d :: (C ++ M)).Perm (W ++ (V ++ o :: d :: M)) := by
  have h1 : (W ++ (V ++ o :: d :: M)).Perm (o :: d :: ((W ++ V) ++ M)) := by
    rw [← List.append_assoc]
    exact List.perm_middle.trans (List.Perm.cons o List.perm_middle)
  exact ((((h.append_right M).cons d).cons o)).trans h1.symm
theorem pm_c' : (W ++ (V ++ o :: d :: M)).Perm (o :: d :: ((W ++ V) ++ M)) := by
  rw [← List.append_assoc]
  exact List.perm_middle.trans (List.Perm.cons o List.perm_middle)
theorem pm_m : (o :: d :: (C ++ M)).Perm (M ++ (o :: d :: C)) := by
  have h1 : (o :: d :: (C ++ M)) = (o :: d :: C) ++ M := rfl
  rw [h1]
  exact List.perm_append_comm
theorem pm_m' (h : C.Perm X) : (M ++ (o :: d :: C)).Perm (o :: d :: (X ++ M)) :=
  pm_m.symm.trans (((h.append_right M).cons d).cons o)
end Perms
/-- the saved plants -/
def plq (G : GP) (qs : Nat → Nat → Nat) (R : Nat → PV) : Nat → va_W
  | 0 => []
  | n + 1 => plq G qs R n ++ wP G (qs n) (R n)
/-- all of them but one -/
def plx (G : GP) (qs : Nat → Nat → Nat) (R : Nat → PV) (k : Nat) : Nat → va_W
  | 0 => []
  | n + 1 => if n = k then plx G qs R k n else plx G qs R k n ++ wP G (qs n) (R n)
theorem plq_ext {G : GP} {qs ps : Nat → Nat → Nat} {R S : Nat → PV} : ∀ n, (∀ i, i < n → qs i = ps i ∧ R i = S i) → plq G qs R n = plq G ps S n
  | 0, _ => rfl
  | n + 1, h => by
    show plq G qs R n ++ wP G (qs n) (R n) = plq G ps S n ++ wP G (ps n) (S n)
    rw [plq_ext n (fun i hi => h i (Nat.lt_succ_of_lt hi)), (h n (Nat.lt_succ_self n)).1, (h n (Nat.lt_succ_self n)).2]
theorem plx_ge {G : GP} {qs : Nat → Nat → Nat} {R : Nat → PV} {k : Nat} : ∀ n, n ≤ k → plx G qs R k n = plq G qs R n
  | 0, _ => rfl
  | n + 1, h => by
    show (if n = k then plx G qs R k n else plx G qs R k n ++ wP G (qs n) (R n)) = plq G qs R n ++ wP G (qs n) (R n)
    rw [if_neg (by omega), plx_ge n (by omega)]
theorem plq_put {G : GP} {qs : Nat → Nat → Nat} {R : Nat → PV} {k : Nat} (C : PV) : ∀ n, k < n → (plq G qs (uN R k C) n).Perm (wP G (qs k) C ++ plx G qs R k n)
  | 0, h => absurd h (Nat.not_lt_zero k)
  | n + 1, h => by
    have e : plx G qs R k (n + 1) = if n = k then plx G qs R k n else plx G qs R k n ++ wP G (qs n) (R n) := rfl
    have e2 : plq G qs (uN R k C) (n + 1) = plq G qs (uN R k C) n ++ wP G (qs n) (uN R k C n) := rfl
    rw [e, e2]
    by_cases hn : n = k
    · subst hn
      have e3 : plq G qs (uN R n C) n = plq G qs R n := plq_ext n (fun i hi => ⟨rfl, show (if i = n then C else R i) = R i from if_neg (by omega)⟩)
      rw [if_pos rfl, plx_ge n (Nat.le_refl n), e3, show uN R n C n = C from if_pos rfl]
      exact List.perm_append_comm
    · rw [if_neg hn, show uN R k C n = R n from if_neg hn, ← List.append_assoc]
      exact (plq_put C n (by omega)).append_right _
theorem uN_self {α : Type} (R : Nat → α) (k : Nat) : uN R k (R k) = R := by
  funext j
  show (if j = k then R k else R j) = R j
  by_cases h : j = k
  · rw [if_pos h, h]
  · rw [if_neg h]
theorem plq_get {G : GP} {qs : Nat → Nat → Nat} {R : Nat → PV} {k n : Nat} (h : k < n) : (plq G qs R n).Perm (wP G (qs k) (R k) ++ plx G qs R k n) := by
  have h1 := plq_put (G := G) (qs := qs) (R := R) (R k) n h
  rw [uN_self] at h1
  exact h1
theorem wR_T {G : GP} {xa pa : Nat → Nat} {P : PV} {pl : Nat → Option Nat} {nx num : Nat} {T : va_W} {len : Nat} {cs f m : Nat → Nat} {g : Nat → UInt64} : (wR G xa pa P pl nx num T len cs f m g).Perm (wR G xa pa P pl nx num [] len cs f m g ++ T) := by
  have h1 : wR G xa pa P pl nx num T len cs f m g = (oR xa pa :: (wP G pa P ++ wH G (xa 1) (xa 2) pl nx num)) ++ (T ++ wZ G xa len cs f m g) := by simp [wR, List.append_assoc]
  have h2 : wR G xa pa P pl nx num [] len cs f m g ++ T = (oR xa pa :: (wP G pa P ++ wH G (xa 1) (xa 2) pl nx num)) ++ (wZ G xa len cs f m g ++ T) := by simp [wR, List.append_assoc]
  rw [h1, h2]
  exact List.Perm.append_left _ List.perm_append_comm
