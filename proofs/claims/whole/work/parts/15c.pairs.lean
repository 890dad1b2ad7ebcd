/-! THE LAW'S STEPS OUT OF BOTH SIDES' CONTRACTS -/
theorem LW.mk {G : GP} {x0 m0 th : Nat} {xa pa : Nat → Nat} {P : PV} {pl : Nat → Option Nat} {nx num len : Nat} {cs f m : Nat → Nat} {g : Nat → UInt64} {qs : Nat → Nat → Nat} {R : Nat → PV} {mk : Nat} {ma z : Nat → Nat} {sf : Nat → UInt64} {hh : Nat → Nat} {sh : Nat → UInt64} {tx : Nat → Nat} {wy mo td : Nat → Nat} {re lo to : Nat} {rw : Nat → Nat} {ha : Int64} (h0 : xa 0 = x0) (h1 : ma 0 = m0) (hI : LInv P pl nx num len cs qs R mk z sf hh sh tx) :
    LW G x0 m0 th (wR G xa pa P pl nx num [] len cs f m g ++ plq G qs R mk) (wM G ma z sf num hh sh len tx th wy mo td re lo to rw ha) :=
  ⟨xa, pa, P, pl, nx, num, len, cs, f, m, g, qs, R, mk, ma, z, sf, hh, sh, tx, wy, mo, td, re, lo, to, rw, ha, h0, h1, rfl, rfl, hI⟩
theorem Rel.cpy {P O : PV} {z : Nat → Nat} {sf : Nat → UInt64} (h : Rel P z sf) (hw : ∀ j, O.wt j ≤ 9) (ht : ∀ j, O.tl j ≤ 99) : Rel (O.cpy P) z sf :=
  ⟨cpy_cinv h.1 hw ht, cpy_eqv h.2.1 h.1.1.1.1, h.2.2⟩
theorem PV0_9 : (∀ j, PV0.wt j ≤ 9) ∧ (∀ j, PV0.tl j ≤ 99) := ⟨fun _ => Nat.zero_le _, fun _ => Nat.zero_le _⟩
/-- the class's world behind a save -/
def SavQ (G : GP) (xa pa : Nat → Nat) (P' : PV) (nx num len' : Nat) (cs f m : Nat → Nat) (g : Nat → UInt64) (z : Nat → Nat) (sf : Nat → UInt64) (hh : Nat → Nat) (sh : Nat → UInt64) (V w : va_W) : Prop :=
  ∃ (pl' : Nat → Option Nat) (qs' : Nat → Nat → Nat) (R' : Nat → PV) (mk' : Nat), (w ++ V).Perm (wR G xa pa P' pl' ((nx + 1) % 6) (min (num + 1) 6) [] len' cs f m g ++ plq G qs' R' mk') ∧ Ring R' ((nx + 1) % 6) (min (num + 1) 6) (svH z hh num) (svT sf sh num) ∧ Made mk' ((nx + 1) % 6) (min (num + 1) 6) ∧ (∀ i, pl' i = if i < mk' then some (qs' i 0) else none) ∧ (∀ i, i < mk' → (∀ j, (R' i).wt j ≤ 9) ∧ (∀ j, (R' i).tl j ≤ 99))
section Save
variable {G : GP} {xa pa : Nat → Nat} {P P' : PV} {pl : Nat → Option Nat} {nx num len len' : Nat} {cs f m : Nat → Nat} {g : Nat → UInt64} {qs : Nat → Nat → Nat} {R : Nat → PV} {mk : Nat} {z : Nat → Nat} {sf : Nat → UInt64} {hh : Nat → Nat} {sh : Nat → UInt64} {tx : Nat → Nat}
theorem min6 {n : Nat} (h : n ≤ 6) : min (n + 1) 6 = if n < 6 then n + 1 else 6 := by split <;> omega
theorem save_C {σ : MS} {args : List Value} {a : Int32} {mcn msn mco mso : Nat} (g1 : mcn ≤ 8) (g2 : msn ≤ 96) (g3 : mco ≤ 8) (g4 : mso ≤ 96) (hI : LInv P pl nx num len cs qs R mk z sf hh sh tx)
    (hn : pl nx = none → AM G σ mcn msn args (wR G xa pa P pl nx num [] len cs f m g) (fun rv w => rv = some (.int a) ∧ ∃ qa : Nat → Nat, w = wR G xa pa P' (va_up pl nx (some (qa 0))) ((nx + 1) % 6) (min (num + 1) 6) [] len' cs f m g ++ wP G qa (PV0.cpy P)))
    (ho : ∀ (qa : Nat → Nat) (O : PV), pl nx = some (qa 0) → AM G σ mco mso args (wR G xa pa P pl nx num (wP G qa O) len cs f m g) (fun rv w => rv = some (.int a) ∧ w = wR G xa pa P' pl ((nx + 1) % 6) (min (num + 1) 6) (wP G qa (O.cpy P)) len' cs f m g)) :
    ∃ (W V : va_W) (mc ms : Nat), mc ≤ 8 ∧ ms ≤ 96 ∧ (wR G xa pa P pl nx num [] len cs f m g ++ plq G qs R mk).Perm (W ++ V) ∧ (∃ fs, W[0]? = some (xa 0, .inr (9, fs))) ∧ AM G σ mc ms args W (fun rv w => rv = some (.int a) ∧ SavQ G xa pa P' nx num len' cs f m g z sf hh sh V w) := by
  obtain ⟨hR, hRg, hM, hpl, hb, -⟩ := hI
  have h6 : num ≤ 6 := hM.2.2.1
  by_cases q : nx < mk
  · have hpn : pl nx = some (qs nx 0) := by rw [hpl nx, if_pos q]
    refine ⟨wR G xa pa P pl nx num (wP G (qs nx) (R nx)) len cs f m g, plx G qs R nx mk, mco, mso, g3, g4, ?_, ⟨_, rfl⟩, (ho (qs nx) (R nx) hpn).mono (fun v w h => ⟨h.1, ?_⟩)⟩
    · refine ((plq_get q).append_left _).trans ?_
      rw [← List.append_assoc]
      exact (wR_T.symm.append_right _)
    · obtain ⟨-, rfl⟩ := h
      have hC := hR.cpy (O := R nx) (hb nx q).1 (hb nx q).2
      refine ⟨pl, qs, uN R nx ((R nx).cpy P), mk, ?_, ?_, ?_, hpl, ?_⟩
      · refine (wR_T.append_right _).trans ?_
        rw [List.append_assoc]
        exact (plq_put _ mk q).symm.append_left _
      · rw [min6 h6]; exact hRg.save (P := P) hC
      · rw [min6 h6]; exact hM.old q
      · intro i hi
        show (∀ j, (if i = nx then (R nx).cpy P else R i).wt j ≤ 9) ∧ (∀ j, (if i = nx then (R nx).cpy P else R i).tl j ≤ 99)
        by_cases e : i = nx
        · rw [if_pos e]; exact ⟨hC.1.2.1, hC.1.2.2.1⟩
        · rw [if_neg e]; exact hb i hi
  · obtain ⟨hnm, hm6, hM2⟩ := hM.new q
    have hpn : pl nx = none := by rw [hpl nx, if_neg q]
    refine ⟨wR G xa pa P pl nx num [] len cs f m g, plq G qs R mk, mcn, msn, g1, g2, List.Perm.refl _, ⟨_, rfl⟩, (hn hpn).mono (fun v w h => ⟨h.1, ?_⟩)⟩
    obtain ⟨-, qa, rfl⟩ := h
    have hC := hR.cpy (O := PV0) PV0_9.1 PV0_9.2
    refine ⟨va_up pl nx (some (qa 0)), uN qs nx qa, uN R nx (PV0.cpy P), mk + 1, ?_, ?_, ?_, ?_, ?_⟩
    · rw [List.append_assoc]
      refine List.Perm.append_left _ ?_
      have e : plq G (uN qs nx qa) (uN R nx (PV0.cpy P)) (mk + 1) = plq G qs R mk ++ wP G qa (PV0.cpy P) := by
        show plq G (uN qs nx qa) (uN R nx (PV0.cpy P)) mk ++ wP G (uN qs nx qa mk) (uN R nx (PV0.cpy P) mk) = _
        have e3 : plq G (uN qs nx qa) (uN R nx (PV0.cpy P)) mk = plq G qs R mk := plq_ext mk (fun i hi => ⟨show (if i = nx then qa else qs i) = qs i from if_neg (by omega), show (if i = nx then PV0.cpy P else R i) = R i from if_neg (by omega)⟩)
        rw [e3, show uN qs nx qa mk = qa from if_pos hnm.symm, show uN R nx (PV0.cpy P) mk = PV0.cpy P from if_pos hnm.symm]
      rw [e]
      exact List.perm_append_comm
    · rw [min6 h6]; exact hRg.save (P := P) hC
    · rw [min6 h6]; exact hM2
    · intro i
      show (if i = nx then some (qa 0) else pl i) = if i < mk + 1 then some ((if i = nx then qa else qs i) 0) else none
      by_cases e : i = nx
      · rw [if_pos e, if_pos (show i < mk + 1 by omega), if_pos e]
      · rw [if_neg e, if_neg e, hpl i]
        by_cases e2 : i < mk
        · rw [if_pos e2, if_pos (show i < mk + 1 by omega)]
        · rw [if_neg e2, if_neg (show ¬ i < mk + 1 by omega)]
    · intro i hi
      show (∀ j, (if i = nx then PV0.cpy P else R i).wt j ≤ 9) ∧ (∀ j, (if i = nx then PV0.cpy P else R i).tl j ≤ 99)
      by_cases e : i = nx
      · rw [if_pos e]; exact ⟨hC.1.2.1, hC.1.2.2.1⟩
      · rw [if_neg e]; exact hb i (by omega)
/-- the new state of both -/
theorem SavQ.lw {cs' : Nat → Nat} {V w : va_W} {ma z' : Nat → Nat} {sf' : Nat → UInt64} {tx' : Nat → Nat} {th : Nat} {wy mo td : Nat → Nat} {re lo to : Nat} {rw : Nat → Nat} {ha : Int64} (h : SavQ G xa pa P' nx num len' cs' f m g z sf hh sh V w) (hR : Rel P' z' sf') (hl : len' ≤ 60) (hc : ∀ i, i < len' → cs' i = tx' i) (ht : ∀ i, i < len' → tx' i ≤ 126) :
    ∃ wD, (w ++ V).Perm wD ∧ LW G (xa 0) (ma 0) th wD (wM G ma z' sf' (min (num + 1) 6) (svH z hh num) (svT sf sh num) len' tx' th wy mo td re lo to rw ha) := by
  obtain ⟨pl', qs', R', mk', hp, h1, h2, h3, h4⟩ := h
  exact ⟨_, hp, LW.mk rfl rfl ⟨hR, h1, h2, h3, h4, hl, hc, ht⟩⟩
end Save
theorem updL0 (fo : Nat → Int64) (x : Int64) : vp_updL fo (nI 0).toNatClampNeg x 0 = x := by
  rw [nI_clamp (by decide)]
  exact if_pos rfl
theorem updD0 (fo : Nat → UInt64) (x : UInt64) : vf_upd fo (nI 0).toNatClampNeg x 0 = x := by
  rw [nI_clamp (by decide)]
  exact if_pos rfl
section Pairs
variable {G : GP} {x0 m0 oa : Nat} {σc σh σm : MS} {hx : List (Nat × Nat × Nat × Nat)} {av : List Value} {wC wN W V : va_W} {mc ms : Nat} {CQ MQ : va_W → Prop}
theorem PairI.ok {a b : Int32} (h1 : mc ≤ 8) (h2 : ms ≤ 96) (hp : wC.Perm (W ++ V)) (hab : a = b)
    (hA : ∀ fo : Nat → Int64, AMH G σh hx mc ms (.ref x0 :: (av ++ [.ref oa])) ((oa, aJ G 1 fo) :: W) (fun v w => v = some (.int (nI 0)) ∧ ∃ (x9 : Int32) (w9 : va_W), (some (Value.int x9) = some (Value.int a) ∧ CQ w9) ∧ w = (oa, aJ G 1 (vp_updL fo (nI 0).toNatClampNeg x9.toInt64)) :: w9))
    (hM : AM G σm 0 0 (.ref m0 :: av) wN (fun v w => v = some (.int b) ∧ MQ w)) (hm : ∃ fs, wN[0]? = some (m0, .inr (10, fs))) (hf : ∀ w9 w : va_W, CQ w9 → MQ w → ∃ wD, (w9 ++ V).Perm wD ∧ LW G x0 m0 0 wD w) : PairI G x0 m0 oa σh hx σm av wC wN := by
  subst hab
  refine ⟨0, a, W, V, mc, ms, CQ, MQ, by decide, h1, h2, hp, fun fo => (hA fo).mono (fun v w h => ?_), hM, hm, hf⟩
  obtain ⟨e, x9, w9, ⟨e2, hc⟩, rfl⟩ := h
  cases e2
  exact ⟨e, _, w9, rfl, fun _ => updL0 _ _, hc⟩
theorem PairI.thr {k : Nat} {b : Int32} {wN' : va_W} (h0 : 0 < k) (h4 : k < 4) (h1 : mc ≤ 8) (h2 : ms ≤ 96) (hp : wC = W ++ V)
    (hA : ∀ fo : Nat → Int64, AMH G σh hx mc ms (.ref x0 :: (av ++ [.ref oa])) ((oa, aJ G 1 fo) :: W) (fun v w => v = some (.int (nI k)) ∧ w = (oa, aJ G 1 fo) :: W))
    (hM : AMd G σm (.ref m0 :: av) wN (some (.int b)) wN') (hm : ∃ fs, wN[0]? = some (m0, .inr (10, fs))) (hf : LW G x0 m0 k wC wN') : PairI G x0 m0 oa σh hx σm av wC wN := by
  refine ⟨k, b, W, V, mc, ms, fun w => w = W, fun w => w = wN', h4, h1, h2, by rw [hp], fun fo => (hA fo).mono (fun v w h => ?_), hM, hm, ?_⟩
  · exact ⟨h.1, fo, W, h.2, fun e => absurd e (by omega), rfl⟩
  · intro w9 w e1 e2
    subst e1; subst e2
    exact ⟨wC, by rw [hp], hf⟩
theorem PairL.ok {a b : Int64} (h1 : mc ≤ 8) (h2 : ms ≤ 96) (hp : wC.Perm (W ++ V)) (hab : a = b)
    (hA : ∀ fo : Nat → Int64, AMH G σh hx mc ms (.ref x0 :: (av ++ [.ref oa])) ((oa, aJ G 1 fo) :: W) (fun v w => v = some (.int (nI 0)) ∧ ∃ (x9 : Int64) (w9 : va_W), (some (Value.long x9) = some (Value.long a) ∧ CQ w9) ∧ w = (oa, aJ G 1 (vp_updL fo (nI 0).toNatClampNeg x9)) :: w9))
    (hM : AM G σm 0 0 (.ref m0 :: av) wN (fun v w => v = some (.long b) ∧ MQ w)) (hm : ∃ fs, wN[0]? = some (m0, .inr (10, fs))) (hf : ∀ w9 w : va_W, CQ w9 → MQ w → ∃ wD, (w9 ++ V).Perm wD ∧ LW G x0 m0 0 wD w) : PairL G x0 m0 oa σh hx σm av wC wN := by
  subst hab
  refine ⟨0, a, W, V, mc, ms, CQ, MQ, by decide, h1, h2, hp, fun fo => (hA fo).mono (fun v w h => ?_), hM, hm, hf⟩
  obtain ⟨e, x9, w9, ⟨e2, hc⟩, rfl⟩ := h
  cases e2
  exact ⟨e, _, w9, rfl, fun _ => updL0 _ _, hc⟩
theorem PairL.thr {k : Nat} {b : Int64} {wN' : va_W} (h0 : 0 < k) (h4 : k < 4) (h1 : mc ≤ 8) (h2 : ms ≤ 96) (hp : wC = W ++ V)
    (hA : ∀ fo : Nat → Int64, AMH G σh hx mc ms (.ref x0 :: (av ++ [.ref oa])) ((oa, aJ G 1 fo) :: W) (fun v w => v = some (.int (nI k)) ∧ w = (oa, aJ G 1 fo) :: W))
    (hM : AMd G σm (.ref m0 :: av) wN (some (.long b)) wN') (hm : ∃ fs, wN[0]? = some (m0, .inr (10, fs))) (hf : LW G x0 m0 k wC wN') : PairL G x0 m0 oa σh hx σm av wC wN := by
  refine ⟨k, b, W, V, mc, ms, fun w => w = W, fun w => w = wN', h4, h1, h2, by rw [hp], fun fo => (hA fo).mono (fun v w h => ?_), hM, hm, ?_⟩
  · exact ⟨h.1, fo, W, h.2, fun e => absurd e (by omega), rfl⟩
  · intro w9 w e1 e2
    subst e1; subst e2
    exact ⟨wC, by rw [hp], hf⟩
theorem PairD.ok {a b : UInt64} (h1 : mc ≤ 8) (h2 : ms ≤ 96) (hp : wC.Perm (W ++ V)) (hab : a = b)
    (hA : ∀ fo : Nat → UInt64, AMH G σh hx mc ms (.ref x0 :: (av ++ [.ref oa])) ((oa, aD G 1 fo) :: W) (fun v w => v = some (.int (nI 0)) ∧ ∃ (x9 : UInt64) (w9 : va_W), (some (Value.double x9) = some (Value.double a) ∧ CQ w9) ∧ w = (oa, aD G 1 (vf_upd fo (nI 0).toNatClampNeg x9)) :: w9))
    (hM : AM G σm 0 0 (.ref m0 :: av) wN (fun v w => v = some (.double b) ∧ MQ w)) (hm : ∃ fs, wN[0]? = some (m0, .inr (10, fs))) (hf : ∀ w9 w : va_W, CQ w9 → MQ w → ∃ wD, (w9 ++ V).Perm wD ∧ LW G x0 m0 0 wD w) : PairD G x0 m0 oa σh hx σm av wC wN := by
  subst hab
  refine ⟨0, a, W, V, mc, ms, CQ, MQ, by decide, h1, h2, hp, fun fo => (hA fo).mono (fun v w h => ?_), hM, hm, hf⟩
  obtain ⟨e, x9, w9, ⟨e2, hc⟩, rfl⟩ := h
  cases e2
  exact ⟨e, _, w9, rfl, fun _ => updD0 _ _, hc⟩
theorem PairD.thr {k : Nat} {b : UInt64} {wN' : va_W} (h0 : 0 < k) (h4 : k < 4) (h1 : mc ≤ 8) (h2 : ms ≤ 96) (hp : wC = W ++ V)
    (hA : ∀ fo : Nat → UInt64, AMH G σh hx mc ms (.ref x0 :: (av ++ [.ref oa])) ((oa, aD G 1 fo) :: W) (fun v w => v = some (.int (nI k)) ∧ w = (oa, aD G 1 fo) :: W))
    (hM : AMd G σm (.ref m0 :: av) wN (some (.double b)) wN') (hm : ∃ fs, wN[0]? = some (m0, .inr (10, fs))) (hf : LW G x0 m0 k wC wN') : PairD G x0 m0 oa σh hx σm av wC wN := by
  refine ⟨k, b, W, V, mc, ms, fun w => w = W, fun w => w = wN', h4, h1, h2, by rw [hp], fun fo => (hA fo).mono (fun v w h => ?_), hM, hm, ?_⟩
  · exact ⟨h.1, fo, W, h.2, fun e => absurd e (by omega), rfl⟩
  · intro w9 w e1 e2
    subst e1; subst e2
    exact ⟨wC, by rw [hp], hf⟩
end Pairs
-- arguments by range
theorem nI_ofR {x : Int32} {a b : Nat} (hb : b < 2 ^ 31) (h1 : (a : Int) ≤ x.toInt) (h2 : x.toInt ≤ (b : Int)) : ∃ v, x = nI v ∧ a ≤ v ∧ v ≤ b := by
  refine ⟨x.toInt.toNat, ?_, by omega, by omega⟩
  apply Int32.toInt_inj.mp
  rw [nI_toInt (by omega)]
  omega
theorem rng (x : Int32) {a b : Nat} (hab : a ≤ b + 1) (hb : b < 2 ^ 30) : (∃ v, x = nI v ∧ a ≤ v ∧ v ≤ b) ∨ (x < nI a ∨ nI b < x) := by
  by_cases h1 : x < nI a
  · exact Or.inr (Or.inl h1)
  · by_cases h2 : nI b < x
    · exact Or.inr (Or.inr h2)
    · rw [Int32.lt_iff_toInt_lt, nI_toInt (by omega)] at h1 h2
      exact Or.inl (nI_ofR (by omega) (by omega) (by omega))
theorem rng_up {x : Int32} {b : Nat} (hb : b < 2 ^ 30) (h : x < nI 0 ∨ nI b < x) : x < 0 ∨ nI (b + 1) ≤ x := by
  rcases h with h | h
  · exact Or.inl h
  · right
    rw [Int32.lt_iff_toInt_lt, nI_toInt (by omega)] at h
    rw [Int32.le_iff_toInt_le, nI_toInt (by omega)]
    omega
/-- a part's number, or none -/
theorem rngP (x : Int32) {N : Nat} (h6 : N ≤ 6) : (∃ p, x = nI p ∧ p < N) ∨ ((x < 0 ∨ nI N ≤ x) ∧ (N = 0 ∨ (1 ≤ N ∧ (x < nI 0 ∨ nI (N - 1) < x)))) := by
  by_cases h0 : N = 0
  · refine Or.inr ⟨?_, Or.inl h0⟩
    subst h0
    by_cases h : x < 0
    · exact Or.inl h
    · exact Or.inr (Int32.not_lt.mp h)
  · rcases rng x (a := 0) (b := N - 1) (by omega) (by omega) with ⟨v, e, -, h⟩ | h
    · exact Or.inl ⟨v, e, by omega⟩
    · have h2 := rng_up (by omega) h
      rw [show N - 1 + 1 = N by omega] at h2
      exact Or.inr ⟨h2, Or.inr ⟨by omega, h⟩⟩
theorem rng0 (x : Int32) : (∃ v, x = nI v ∧ v < 2147483648) ∨ x < 0 := by
  by_cases h : x < 0
  · exact Or.inr h
  · rw [Int32.lt_iff_toInt_lt, Int32.toInt_zero] at h
    have h2 := x.toInt_lt
    obtain ⟨v, e, -, h3⟩ := nI_ofR (x := x) (a := 0) (b := 2147483647) (by decide) (by omega) (by omega)
    exact Or.inl ⟨v, e, by omega⟩
