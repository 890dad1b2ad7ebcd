/-! THE LAW'S COMMANDS: looks -/
theorem PairI.look {G : GP} {oa : Nat} {σc σh σm : MS} {hx : List (Nat × Nat × Nat × Nat)} {av : List Value} {xa pa : Nat → Nat} {P : PV} {pl : Nat → Option Nat} {nx num len : Nat} {cs f m : Nat → Nat} {g : Nat → UInt64} {qs : Nat → Nat → Nat} {R : Nat → PV} {mk : Nat} {ma z : Nat → Nat} {sf : Nat → UInt64} {hh : Nat → Nat} {sh : Nat → UInt64} {tx wy mo td : Nat → Nat} {th re lo to : Nat} {r9 : Nat → Nat} {ha : Int64} {a b : Int32} {MQ : va_W → Prop} (hI : LInv P pl nx num len cs qs R mk z sf hh sh tx)
    (hC : AM G σc 0 0 (.ref (xa 0) :: av) (wR G xa pa P pl nx num [] len cs f m g) (fun rv w => rv = some (.int a) ∧ ∃ (f m : Nat → Nat) (g : Nat → UInt64), w = wR G xa pa P pl nx num [] len cs f m g))
    (hH : ∀ (W : va_W) (fs : List Value) (Qf : Option Value → va_W → Prop) (fo : Nat → Int64), W[0]? = some (xa 0, .inr (9, fs)) → (∀ v w, Qf v w → ∃ x9 : Int32, v = some (.int x9)) → AM G σc 0 0 (.ref (xa 0) :: av) W Qf →
      AMH G σh hx 0 0 (.ref (xa 0) :: (av ++ [.ref oa])) ((oa, aJ G 1 fo) :: W) (fun v w => v = some (.int (nI 0)) ∧ ∃ (x9 : Int32) (w9 : va_W), Qf (some (.int x9)) w9 ∧ w = (oa, aJ G 1 (vp_updL fo (nI 0).toNatClampNeg x9.toInt64)) :: w9))
    (hab : a = b) (hM : AM G σm 0 0 (.ref (ma 0) :: av) (wM G ma z sf num hh sh len tx th wy mo td re lo to r9 ha) (fun v w => v = some (.int b) ∧ MQ w))
    (hMQ : ∀ w, MQ w → ∃ (wy mo td : Nat → Nat) (re lo to : Nat) (r9 : Nat → Nat) (ha : Int64), w = wM G ma z sf num hh sh len tx 0 wy mo td re lo to r9 ha) : PairI G (xa 0) (ma 0) oa σh hx σm av (wR G xa pa P pl nx num [] len cs f m g ++ plq G qs R mk) (wM G ma z sf num hh sh len tx th wy mo td re lo to r9 ha) := by
  refine PairI.ok (V := plq G qs R mk) (mc := 0) (ms := 0) (by decide) (by decide) (List.Perm.refl _) hab (fun fo => hH _ _ _ fo rfl (fun v w q => ⟨_, q.1⟩) hC) hM ⟨_, rfl⟩ (fun w9 w e1 e2 => ?_)
  obtain ⟨f2, m2, g2, rfl⟩ := e1
  obtain ⟨wy2, mo2, td2, re2, lo2, to2, r2, ha2, rfl⟩ := hMQ _ e2
  exact ⟨_, List.Perm.refl _, LW.mk rfl rfl hI⟩
theorem PairL.look {G : GP} {oa : Nat} {σc σh σm : MS} {hx : List (Nat × Nat × Nat × Nat)} {av : List Value} {xa pa : Nat → Nat} {P : PV} {pl : Nat → Option Nat} {nx num len : Nat} {cs f m : Nat → Nat} {g : Nat → UInt64} {qs : Nat → Nat → Nat} {R : Nat → PV} {mk : Nat} {ma z : Nat → Nat} {sf : Nat → UInt64} {hh : Nat → Nat} {sh : Nat → UInt64} {tx wy mo td : Nat → Nat} {th re lo to : Nat} {r9 : Nat → Nat} {ha : Int64} {a b : Int64} {MQ : va_W → Prop} (hI : LInv P pl nx num len cs qs R mk z sf hh sh tx)
    (hC : AM G σc 0 0 (.ref (xa 0) :: av) (wR G xa pa P pl nx num [] len cs f m g) (fun rv w => rv = some (.long a) ∧ ∃ (f m : Nat → Nat) (g : Nat → UInt64), w = wR G xa pa P pl nx num [] len cs f m g))
    (hH : ∀ (W : va_W) (fs : List Value) (Qf : Option Value → va_W → Prop) (fo : Nat → Int64), W[0]? = some (xa 0, .inr (9, fs)) → (∀ v w, Qf v w → ∃ x9 : Int64, v = some (.long x9)) → AM G σc 0 0 (.ref (xa 0) :: av) W Qf →
      AMH G σh hx 0 0 (.ref (xa 0) :: (av ++ [.ref oa])) ((oa, aJ G 1 fo) :: W) (fun v w => v = some (.int (nI 0)) ∧ ∃ (x9 : Int64) (w9 : va_W), Qf (some (.long x9)) w9 ∧ w = (oa, aJ G 1 (vp_updL fo (nI 0).toNatClampNeg x9)) :: w9))
    (hab : a = b) (hM : AM G σm 0 0 (.ref (ma 0) :: av) (wM G ma z sf num hh sh len tx th wy mo td re lo to r9 ha) (fun v w => v = some (.long b) ∧ MQ w))
    (hMQ : ∀ w, MQ w → ∃ (wy mo td : Nat → Nat) (re lo to : Nat) (r9 : Nat → Nat) (ha : Int64), w = wM G ma z sf num hh sh len tx 0 wy mo td re lo to r9 ha) : PairL G (xa 0) (ma 0) oa σh hx σm av (wR G xa pa P pl nx num [] len cs f m g ++ plq G qs R mk) (wM G ma z sf num hh sh len tx th wy mo td re lo to r9 ha) := by
  refine PairL.ok (V := plq G qs R mk) (mc := 0) (ms := 0) (by decide) (by decide) (List.Perm.refl _) hab (fun fo => hH _ _ _ fo rfl (fun v w q => ⟨_, q.1⟩) hC) hM ⟨_, rfl⟩ (fun w9 w e1 e2 => ?_)
  obtain ⟨f2, m2, g2, rfl⟩ := e1
  obtain ⟨wy2, mo2, td2, re2, lo2, to2, r2, ha2, rfl⟩ := hMQ _ e2
  exact ⟨_, List.Perm.refl _, LW.mk rfl rfl hI⟩
theorem PairD.look {G : GP} {oa : Nat} {σc σh σm : MS} {hx : List (Nat × Nat × Nat × Nat)} {av : List Value} {xa pa : Nat → Nat} {P : PV} {pl : Nat → Option Nat} {nx num len : Nat} {cs f m : Nat → Nat} {g : Nat → UInt64} {qs : Nat → Nat → Nat} {R : Nat → PV} {mk : Nat} {ma z : Nat → Nat} {sf : Nat → UInt64} {hh : Nat → Nat} {sh : Nat → UInt64} {tx wy mo td : Nat → Nat} {th re lo to : Nat} {r9 : Nat → Nat} {ha : Int64} {a b : UInt64} {MQ : va_W → Prop} (hI : LInv P pl nx num len cs qs R mk z sf hh sh tx)
    (hC : AM G σc 0 0 (.ref (xa 0) :: av) (wR G xa pa P pl nx num [] len cs f m g) (fun rv w => rv = some (.double a) ∧ ∃ (f m : Nat → Nat) (g : Nat → UInt64), w = wR G xa pa P pl nx num [] len cs f m g))
    (hH : ∀ (W : va_W) (fs : List Value) (Qf : Option Value → va_W → Prop) (fo : Nat → UInt64), W[0]? = some (xa 0, .inr (9, fs)) → (∀ v w, Qf v w → ∃ x9 : UInt64, v = some (.double x9)) → AM G σc 0 0 (.ref (xa 0) :: av) W Qf →
      AMH G σh hx 0 0 (.ref (xa 0) :: (av ++ [.ref oa])) ((oa, aD G 1 fo) :: W) (fun v w => v = some (.int (nI 0)) ∧ ∃ (x9 : UInt64) (w9 : va_W), Qf (some (.double x9)) w9 ∧ w = (oa, aD G 1 (vf_upd fo (nI 0).toNatClampNeg x9)) :: w9))
    (hab : a = b) (hM : AM G σm 0 0 (.ref (ma 0) :: av) (wM G ma z sf num hh sh len tx th wy mo td re lo to r9 ha) (fun v w => v = some (.double b) ∧ MQ w))
    (hMQ : ∀ w, MQ w → ∃ (wy mo td : Nat → Nat) (re lo to : Nat) (r9 : Nat → Nat) (ha : Int64), w = wM G ma z sf num hh sh len tx 0 wy mo td re lo to r9 ha) : PairD G (xa 0) (ma 0) oa σh hx σm av (wR G xa pa P pl nx num [] len cs f m g ++ plq G qs R mk) (wM G ma z sf num hh sh len tx th wy mo td re lo to r9 ha) := by
  refine PairD.ok (V := plq G qs R mk) (mc := 0) (ms := 0) (by decide) (by decide) (List.Perm.refl _) hab (fun fo => hH _ _ _ fo rfl (fun v w q => ⟨_, q.1⟩) hC) hM ⟨_, rfl⟩ (fun w9 w e1 e2 => ?_)
  obtain ⟨f2, m2, g2, rfl⟩ := e1
  obtain ⟨wy2, mo2, td2, re2, lo2, to2, r2, ha2, rfl⟩ := hMQ _ e2
  exact ⟨_, List.Perm.refl _, LW.mk rfl rfl hI⟩
theorem PairV.look {G : GP} {σc σm : MS} {av : List Value} {xa pa : Nat → Nat} {P : PV} {pl : Nat → Option Nat} {nx num len : Nat} {cs f m : Nat → Nat} {g : Nat → UInt64} {qs : Nat → Nat → Nat} {R : Nat → PV} {mk : Nat} {ma z : Nat → Nat} {sf : Nat → UInt64} {hh : Nat → Nat} {sh : Nat → UInt64} {tx wy mo td : Nat → Nat} {th re lo to : Nat} {r9 : Nat → Nat} {ha : Int64} {a b : Value} {An : Value → Prop} {MQ : va_W → Prop} (hI : LInv P pl nx num len cs qs R mk z sf hh sh tx) (hA : An b)
    (hC : AM G σc 0 0 (.ref (xa 0) :: av) (wR G xa pa P pl nx num [] len cs f m g) (fun rv w => rv = some a ∧ ∃ (f m : Nat → Nat) (g : Nat → UInt64), w = wR G xa pa P pl nx num [] len cs f m g))
    (hab : a = b) (hM : AM G σm 0 0 (.ref (ma 0) :: av) (wM G ma z sf num hh sh len tx th wy mo td re lo to r9 ha) (fun v w => v = some b ∧ MQ w))
    (hMQ : ∀ w, MQ w → ∃ (wy mo td : Nat → Nat) (re lo to : Nat) (r9 : Nat → Nat) (ha : Int64), w = wM G ma z sf num hh sh len tx 0 wy mo td re lo to r9 ha) : PairV G (xa 0) (ma 0) σc σm av (wR G xa pa P pl nx num [] len cs f m g ++ plq G qs R mk) (wM G ma z sf num hh sh len tx th wy mo td re lo to r9 ha) An := by
  subst hab
  refine ⟨a, _, plq G qs R mk, 0, 0, _, MQ, hA, by decide, by decide, List.Perm.refl _, ⟨_, rfl⟩, hC, hM, ⟨_, rfl⟩, fun w9 w e1 e2 => ?_⟩
  obtain ⟨f2, m2, g2, rfl⟩ := e1
  obtain ⟨wy2, mo2, td2, re2, lo2, to2, r2, ha2, rfl⟩ := hMQ _ e2
  exact ⟨_, 0, List.Perm.refl _, LW.mk rfl rfl hI⟩
set_option maxHeartbeats 4000000 in
set_option maxRecDepth 100000 in
theorem st_part {G : GP} (hF : G.l.stackTraces = false) {x0 m0 oa th : Nat} {wC wN : va_W} (hW : LW G x0 m0 th wC wN) (x y : Int32) : PairI G x0 m0 oa sL_part [(0, 10, 13, 20), (0, 10, 17, 13)] sX10_part [.int x, .int y] wC wN := by
  obtain ⟨xa, pa, P, pl, nx, num, len, cs, f, m, g, qs, R, mk, ma, z, sf, hh, sh, tx, wy, mo, td, re, lo, to, r9, ha, rfl, rfl, rfl, rfl, hI⟩ := hW
  obtain ⟨hR, hRg, hM, hpl, hb, hl, hc, ht⟩ := id hI
  have h6 : P.parts ≤ 6 := hR.1.1.1.1
  have hz : P.parts = z 0 := hR.2.1.1
  have hq := hR.q
  have hn9 : P.sv.num < 2 ^ 31 := by
    have h99 : P.sv.num ≤ 9999 := hR.1.1.2.2.2.2.2.1
    omega
  have en : P.sv.num = z 3 := hR.2.1.2.2.2.2.2.1
  have el : P.limit = z 1 := hR.2.1.2.1
  have hlim : P.limit ≤ 99 := hR.1.1.2.1
  have hpos := hR.1.1.1.2.2
  have hw9 := hR.2.2.1
  have hw31 : ∀ p, p < z 0 → ∀ l, l < 6 → gt (wq z) p l < 2 ^ 31 := fun p hp l hl9 => by
    have h1 := hw9 p l (by omega) hl9
    omega
  have hqpos : ∀ p, p < z 0 → ∃ l, l < 6 ∧ 0 < gt (wq z) p l := hq.1.2.2
  have hnz : ∀ wo, ¬ wfrom (cnt (ZP z sf) wo) 0 = 0 := fun wo => by
    have h1 := cnt_pos hq.1 wo
    omega
  have hsq : (z 3 = 0 → Op.cmpValue (FP.dcmp (sf 2) FP.dconst0) .l ≤ 0) ∧ (¬ z 3 = 0 → ¬ Op.cmpValue (FP.dcmp (sf 2) FP.dconst0) .l ≤ 0) := hq.2.2.2.2.2.sq0
  rcases rngP x h6 with ⟨p, rfl, hp⟩ | ⟨h1, h2⟩
  rotate_left
  · rcases h2 with h0 | ⟨hz1, h⟩
    · exact PairI.thr (k := 1) (by decide) (by decide) (by decide) (by decide) rfl (fun fo => hL_part_1 rfl (x_X9_part_p hF h1)) (c_X10_part_0 (by omega)) ⟨_, rfl⟩ (LW.mk rfl rfl hI)
    · exact PairI.thr (k := 1) (by decide) (by decide) (by decide) (by decide) rfl (fun fo => hL_part_1 rfl (x_X9_part_p hF h1)) (c_X10_part_p (by omega) (by rw [← hz]; exact h)) ⟨_, rfl⟩ (LW.mk rfl rfl hI)
  rcases rng y (a := 0) (b := 6) (by decide) (by decide) with ⟨k, rfl, -, hk⟩ | h
  rotate_left
  · exact PairI.thr (k := 2) (by decide) (by decide) (by decide) (by decide) rfl (fun fo => hL_part_2 rfl (x_X9_part_r hF hp h6 h)) (c_X10_part_r (by omega) (by omega) h) ⟨_, rfl⟩ (LW.mk rfl rfl hI)
  exact PairI.look hI (c_X9_part h6 hR.1.2.1 hpos hn9 hp hk) (fun W fs Qf fo h1 h2 h3 => hL_part_ok h1 h2 h3) ((eqv_vP hR.2.1 hp k).trans (mP_eq (z := z) (sf := sf) (p := p) k).symm) (c_X10_part_ok (by omega) (by omega) (fun l hl9 => hw9 p l (by omega) hl9) (hqpos p (by omega)) (by omega) hk) (fun w q => ⟨_, _, _, _, _, _, _, _, q⟩)
set_option maxHeartbeats 4000000 in
set_option maxRecDepth 100000 in
theorem st_weight {G : GP} (hF : G.l.stackTraces = false) {x0 m0 oa th : Nat} {wC wN : va_W} (hW : LW G x0 m0 th wC wN) (x y : Int32) {b9 : Nat} (hb9 : b9 ≤ 1) : PairI G x0 m0 oa sL_weight [(0, 12, 15, 20)] sX10_weight [.int x, .int y, .int (nI b9)] wC wN := by
  obtain ⟨xa, pa, P, pl, nx, num, len, cs, f, m, g, qs, R, mk, ma, z, sf, hh, sh, tx, wy, mo, td, re, lo, to, r9, ha, rfl, rfl, rfl, rfl, hI⟩ := hW
  obtain ⟨hR, hRg, hM, hpl, hb, hl, hc, ht⟩ := id hI
  have h6 : P.parts ≤ 6 := hR.1.1.1.1
  have hz : P.parts = z 0 := hR.2.1.1
  have hq := hR.q
  have hn9 : P.sv.num < 2 ^ 31 := by
    have h99 : P.sv.num ≤ 9999 := hR.1.1.2.2.2.2.2.1
    omega
  have en : P.sv.num = z 3 := hR.2.1.2.2.2.2.2.1
  have el : P.limit = z 1 := hR.2.1.2.1
  have hlim : P.limit ≤ 99 := hR.1.1.2.1
  have hpos := hR.1.1.1.2.2
  have hw9 := hR.2.2.1
  have hw31 : ∀ p, p < z 0 → ∀ l, l < 6 → gt (wq z) p l < 2 ^ 31 := fun p hp l hl9 => by
    have h1 := hw9 p l (by omega) hl9
    omega
  have hqpos : ∀ p, p < z 0 → ∃ l, l < 6 ∧ 0 < gt (wq z) p l := hq.1.2.2
  have hnz : ∀ wo, ¬ wfrom (cnt (ZP z sf) wo) 0 = 0 := fun wo => by
    have h1 := cnt_pos hq.1 wo
    omega
  have hsq : (z 3 = 0 → Op.cmpValue (FP.dcmp (sf 2) FP.dconst0) .l ≤ 0) ∧ (¬ z 3 = 0 → ¬ Op.cmpValue (FP.dcmp (sf 2) FP.dconst0) .l ≤ 0) := hq.2.2.2.2.2.sq0
  rcases rngP x h6 with ⟨p, rfl, hp⟩ | ⟨h1, h2⟩
  rotate_left
  · rcases h2 with h0 | ⟨hz1, h⟩
    · exact PairI.thr (k := 1) (by decide) (by decide) (by decide) (by decide) rfl (fun fo => hL_weight_1 rfl (x_X9_weight_p hF h1)) (c_X10_weight_0 (by omega)) ⟨_, rfl⟩ (LW.mk rfl rfl hI)
    · exact PairI.thr (k := 1) (by decide) (by decide) (by decide) (by decide) rfl (fun fo => hL_weight_1 rfl (x_X9_weight_p hF h1)) (c_X10_weight_p (by omega) (by rw [← hz]; exact h)) ⟨_, rfl⟩ (LW.mk rfl rfl hI)
  rcases rng y (a := 0) (b := 5) (by decide) (by decide) with ⟨l, rfl, -, hl5⟩ | h
  rotate_left
  · exact PairI.thr (k := 1) (by decide) (by decide) (by decide) (by decide) rfl (fun fo => hL_weight_1 rfl (x_X9_weight_l hF hp h6 (rng_up (by decide) h))) (c_X10_weight_l (by omega) (by omega) h) ⟨_, rfl⟩ (LW.mk rfl rfl hI)
  have hl6 : l < 6 := by omega
  rcases (show b9 = 0 ∨ b9 = 1 by omega) with rfl | rfl
  · exact PairI.look hI (c_X9_weight_0 h6 hp hl6) (fun W fs Qf fo h1 h2 h3 => hL_weight_ok h1 h2 h3) (congrArg nI (eqvw hR.2.1 hp hl6)) (c_X10_weight_ok0 (by omega) (by omega) hl5) (fun w q => ⟨_, _, _, _, _, _, _, _, q⟩)
  · exact PairI.look hI (c_X9_weight_1 h6 hp hl6) (fun W fs Qf fo h1 h2 h3 => hL_weight_ok h1 h2 h3) (congrArg nI (eqvt hR.2.1 hp hl6)) (c_X10_weight_ok1 (by omega) (by omega) hl5) (fun w q => ⟨_, _, _, _, _, _, _, _, q⟩)
set_option maxHeartbeats 4000000 in
set_option maxRecDepth 100000 in
theorem st_ways {G : GP} (hF : G.l.stackTraces = false) {x0 m0 oa th : Nat} {wC wN : va_W} (hW : LW G x0 m0 th wC wN) (x : Int32) {b9 : Nat} (hb9 : b9 ≤ 1) : PairL G x0 m0 oa sL_ways [(0, 9, 12, 13)] sX10_ways [.int x, .int (nI b9)] wC wN := by
  obtain ⟨xa, pa, P, pl, nx, num, len, cs, f, m, g, qs, R, mk, ma, z, sf, hh, sh, tx, wy, mo, td, re, lo, to, r9, ha, rfl, rfl, rfl, rfl, hI⟩ := hW
  obtain ⟨hR, hRg, hM, hpl, hb, hl, hc, ht⟩ := id hI
  have h6 : P.parts ≤ 6 := hR.1.1.1.1
  have hz : P.parts = z 0 := hR.2.1.1
  have hq := hR.q
  have hn9 : P.sv.num < 2 ^ 31 := by
    have h99 : P.sv.num ≤ 9999 := hR.1.1.2.2.2.2.2.1
    omega
  have en : P.sv.num = z 3 := hR.2.1.2.2.2.2.2.1
  have el : P.limit = z 1 := hR.2.1.2.1
  have hlim : P.limit ≤ 99 := hR.1.1.2.1
  have hpos := hR.1.1.1.2.2
  have hw9 := hR.2.2.1
  have hw31 : ∀ p, p < z 0 → ∀ l, l < 6 → gt (wq z) p l < 2 ^ 31 := fun p hp l hl9 => by
    have h1 := hw9 p l (by omega) hl9
    omega
  have hqpos : ∀ p, p < z 0 → ∃ l, l < 6 ∧ 0 < gt (wq z) p l := hq.1.2.2
  have hnz : ∀ wo, ¬ wfrom (cnt (ZP z sf) wo) 0 = 0 := fun wo => by
    have h1 := cnt_pos hq.1 wo
    omega
  have hsq : (z 3 = 0 → Op.cmpValue (FP.dcmp (sf 2) FP.dconst0) .l ≤ 0) ∧ (¬ z 3 = 0 → ¬ Op.cmpValue (FP.dcmp (sf 2) FP.dconst0) .l ≤ 0) := hq.2.2.2.2.2.sq0
  rcases rng x (a := 0) (b := 99) (by decide) (by decide) with ⟨v, rfl, -, hv⟩ | h
  · exact PairL.look hI (c_X9_ways h6 hR.1.2.1 hv hb9) (fun W fs Qf fo h1 h2 h3 => hL_ways_ok h1 h2 h3) (congrArg lN (eqv_vW hR.2.1 v b9)) (c_X10_ways_v (by omega) hw31 hv hb9) (fun w q => ⟨_, _, _, _, _, _, _, _, q⟩)
  · exact PairL.thr (k := 1) (by decide) (by decide) (by decide) (by decide) rfl (fun fo => hL_ways_1 rfl (x_X9_ways_r hF h)) (c_X10_ways_r h) ⟨_, rfl⟩ (LW.mk rfl rfl hI)
set_option maxHeartbeats 4000000 in
set_option maxRecDepth 100000 in
theorem st_likeliest {G : GP} (hF : G.l.stackTraces = false) {x0 m0 oa th : Nat} {wC wN : va_W} (hW : LW G x0 m0 th wC wN) (x : Int32) : PairI G x0 m0 oa sL_likeliest [(0, 9, 12, 20)] sX10_likeliest [.int x] wC wN := by
  obtain ⟨xa, pa, P, pl, nx, num, len, cs, f, m, g, qs, R, mk, ma, z, sf, hh, sh, tx, wy, mo, td, re, lo, to, r9, ha, rfl, rfl, rfl, rfl, hI⟩ := hW
  obtain ⟨hR, hRg, hM, hpl, hb, hl, hc, ht⟩ := id hI
  have h6 : P.parts ≤ 6 := hR.1.1.1.1
  have hz : P.parts = z 0 := hR.2.1.1
  have hq := hR.q
  have hn9 : P.sv.num < 2 ^ 31 := by
    have h99 : P.sv.num ≤ 9999 := hR.1.1.2.2.2.2.2.1
    omega
  have en : P.sv.num = z 3 := hR.2.1.2.2.2.2.2.1
  have el : P.limit = z 1 := hR.2.1.2.1
  have hlim : P.limit ≤ 99 := hR.1.1.2.1
  have hpos := hR.1.1.1.2.2
  have hw9 := hR.2.2.1
  have hw31 : ∀ p, p < z 0 → ∀ l, l < 6 → gt (wq z) p l < 2 ^ 31 := fun p hp l hl9 => by
    have h1 := hw9 p l (by omega) hl9
    omega
  have hqpos : ∀ p, p < z 0 → ∃ l, l < 6 ∧ 0 < gt (wq z) p l := hq.1.2.2
  have hnz : ∀ wo, ¬ wfrom (cnt (ZP z sf) wo) 0 = 0 := fun wo => by
    have h1 := cnt_pos hq.1 wo
    omega
  have hsq : (z 3 = 0 → Op.cmpValue (FP.dcmp (sf 2) FP.dconst0) .l ≤ 0) ∧ (¬ z 3 = 0 → ¬ Op.cmpValue (FP.dcmp (sf 2) FP.dconst0) .l ≤ 0) := hq.2.2.2.2.2.sq0
  rcases rngP x h6 with ⟨p, rfl, hp⟩ | ⟨h1, h2⟩
  rotate_left
  · rcases h2 with h0 | ⟨hz1, h⟩
    · exact PairI.thr (k := 1) (by decide) (by decide) (by decide) (by decide) rfl (fun fo => hL_likeliest_1 rfl (x_X9_likeliest_p hF h1)) (c_X10_likeliest_0 (by omega)) ⟨_, rfl⟩ (LW.mk rfl rfl hI)
    · exact PairI.thr (k := 1) (by decide) (by decide) (by decide) (by decide) rfl (fun fo => hL_likeliest_1 rfl (x_X9_likeliest_p hF h1)) (c_X10_likeliest_p (by omega) (by rw [← hz]; exact h)) ⟨_, rfl⟩ (LW.mk rfl rfl hI)
  exact PairI.look hI (c_X9_likeliest h6 hR.1.2.1 hlim hp) (fun W fs Qf fo h1 h2 h3 => hL_likeliest_ok h1 h2 h3) (eqv_vL hR.2.1 hp) (c_X10_likeliest_ok (by omega) hw9 (by omega) (by omega)) (fun w q => by obtain ⟨y1, y2, y3, q⟩ := q; exact ⟨_, _, _, _, _, _, _, _, q⟩)
set_option maxHeartbeats 4000000 in
set_option maxRecDepth 100000 in
theorem st_count {G : GP} (hF : G.l.stackTraces = false) {x0 m0 oa th : Nat} {wC wN : va_W} (hW : LW G x0 m0 th wC wN) (x : Int32) : PairI G x0 m0 oa sL_count [(0, 9, 12, 13)] sX10_count [.int x] wC wN := by
  obtain ⟨xa, pa, P, pl, nx, num, len, cs, f, m, g, qs, R, mk, ma, z, sf, hh, sh, tx, wy, mo, td, re, lo, to, r9, ha, rfl, rfl, rfl, rfl, hI⟩ := hW
  obtain ⟨hR, hRg, hM, hpl, hb, hl, hc, ht⟩ := id hI
  have h6 : P.parts ≤ 6 := hR.1.1.1.1
  have hz : P.parts = z 0 := hR.2.1.1
  have hq := hR.q
  have hn9 : P.sv.num < 2 ^ 31 := by
    have h99 : P.sv.num ≤ 9999 := hR.1.1.2.2.2.2.2.1
    omega
  have en : P.sv.num = z 3 := hR.2.1.2.2.2.2.2.1
  have el : P.limit = z 1 := hR.2.1.2.1
  have hlim : P.limit ≤ 99 := hR.1.1.2.1
  have hpos := hR.1.1.1.2.2
  have hw9 := hR.2.2.1
  have hw31 : ∀ p, p < z 0 → ∀ l, l < 6 → gt (wq z) p l < 2 ^ 31 := fun p hp l hl9 => by
    have h1 := hw9 p l (by omega) hl9
    omega
  have hqpos : ∀ p, p < z 0 → ∃ l, l < 6 ∧ 0 < gt (wq z) p l := hq.1.2.2
  have hnz : ∀ wo, ¬ wfrom (cnt (ZP z sf) wo) 0 = 0 := fun wo => by
    have h1 := cnt_pos hq.1 wo
    omega
  have hsq : (z 3 = 0 → Op.cmpValue (FP.dcmp (sf 2) FP.dconst0) .l ≤ 0) ∧ (¬ z 3 = 0 → ¬ Op.cmpValue (FP.dcmp (sf 2) FP.dconst0) .l ≤ 0) := hq.2.2.2.2.2.sq0
  rcases rng x (a := 0) (b := 8) (by decide) (by decide) with ⟨v, rfl, -, hv⟩ | h
  · exact PairI.look hI (c_X9_count h6 hR.1.2.1 hlim hpos hv) (fun W fs Qf fo h1 h2 h3 => hL_count_ok h1 h2 h3) (congrArg nI (eqv_vC hR.2.1 num v)) (c_X10_count_ok (by omega) hw9 hqpos (by omega) hv) (fun w q => by obtain ⟨y1, y2, y3, q⟩ := q; exact ⟨_, _, _, _, _, _, _, _, q⟩)
  · exact PairI.thr (k := 1) (by decide) (by decide) (by decide) (by decide) rfl (fun fo => hL_count_1 rfl (x_X9_count_r hF h)) (c_X10_count_r h) ⟨_, rfl⟩ (LW.mk rfl rfl hI)
set_option maxHeartbeats 4000000 in
set_option maxRecDepth 100000 in
theorem st_measure {G : GP} (hF : G.l.stackTraces = false) {x0 m0 oa th : Nat} {wC wN : va_W} (hW : LW G x0 m0 th wC wN) (x : Int32) : PairD G x0 m0 oa sL_measure [(0, 8, 11, 13)] sX10_measure [.int x] wC wN := by
  obtain ⟨xa, pa, P, pl, nx, num, len, cs, f, m, g, qs, R, mk, ma, z, sf, hh, sh, tx, wy, mo, td, re, lo, to, r9, ha, rfl, rfl, rfl, rfl, hI⟩ := hW
  obtain ⟨hR, hRg, hM, hpl, hb, hl, hc, ht⟩ := id hI
  have h6 : P.parts ≤ 6 := hR.1.1.1.1
  have hz : P.parts = z 0 := hR.2.1.1
  have hq := hR.q
  have hn9 : P.sv.num < 2 ^ 31 := by
    have h99 : P.sv.num ≤ 9999 := hR.1.1.2.2.2.2.2.1
    omega
  have en : P.sv.num = z 3 := hR.2.1.2.2.2.2.2.1
  have el : P.limit = z 1 := hR.2.1.2.1
  have hlim : P.limit ≤ 99 := hR.1.1.2.1
  have hpos := hR.1.1.1.2.2
  have hw9 := hR.2.2.1
  have hw31 : ∀ p, p < z 0 → ∀ l, l < 6 → gt (wq z) p l < 2 ^ 31 := fun p hp l hl9 => by
    have h1 := hw9 p l (by omega) hl9
    omega
  have hqpos : ∀ p, p < z 0 → ∃ l, l < 6 ∧ 0 < gt (wq z) p l := hq.1.2.2
  have hnz : ∀ wo, ¬ wfrom (cnt (ZP z sf) wo) 0 = 0 := fun wo => by
    have h1 := cnt_pos hq.1 wo
    omega
  have hsq : (z 3 = 0 → Op.cmpValue (FP.dcmp (sf 2) FP.dconst0) .l ≤ 0) ∧ (¬ z 3 = 0 → ¬ Op.cmpValue (FP.dcmp (sf 2) FP.dconst0) .l ≤ 0) := hq.2.2.2.2.2.sq0
  rcases rng x (a := 0) (b := 6) (by decide) (by decide) with ⟨v, rfl, -, hv⟩ | h
  · exact PairD.look hI (c_X9_measure h6 hR.1.2.1 hlim hn9 hR.1.1.m hv) (fun W fs Qf fo h1 h2 h3 => hL_measure_ok h1 h2 h3) (eqv_vM hR.2.1 v) (c_X10_measure_ok (by omega) hw31 (by omega) (by omega) hq.m (hnz _) hsq hv) (fun w q => by obtain ⟨y1, y2, y3, q⟩ := q; exact ⟨_, _, _, _, _, _, _, _, q⟩)
  · exact PairD.thr (k := 1) (by decide) (by decide) (by decide) (by decide) rfl (fun fo => hL_measure_1 rfl (x_X9_measure_r hF h)) (c_X10_measure_r h) ⟨_, rfl⟩ (LW.mk rfl rfl hI)
set_option maxHeartbeats 4000000 in
set_option maxRecDepth 100000 in
theorem st_ifLimit {G : GP} (hF : G.l.stackTraces = false) {x0 m0 oa th : Nat} {wC wN : va_W} (hW : LW G x0 m0 th wC wN) (x : Int32) : PairD G x0 m0 oa sL_ifLimit [(0, 8, 11, 13)] sX10_ifLimit [.int x] wC wN := by
  obtain ⟨xa, pa, P, pl, nx, num, len, cs, f, m, g, qs, R, mk, ma, z, sf, hh, sh, tx, wy, mo, td, re, lo, to, r9, ha, rfl, rfl, rfl, rfl, hI⟩ := hW
  obtain ⟨hR, hRg, hM, hpl, hb, hl, hc, ht⟩ := id hI
  have h6 : P.parts ≤ 6 := hR.1.1.1.1
  have hz : P.parts = z 0 := hR.2.1.1
  have hq := hR.q
  have hn9 : P.sv.num < 2 ^ 31 := by
    have h99 : P.sv.num ≤ 9999 := hR.1.1.2.2.2.2.2.1
    omega
  have en : P.sv.num = z 3 := hR.2.1.2.2.2.2.2.1
  have el : P.limit = z 1 := hR.2.1.2.1
  have hlim : P.limit ≤ 99 := hR.1.1.2.1
  have hpos := hR.1.1.1.2.2
  have hw9 := hR.2.2.1
  have hw31 : ∀ p, p < z 0 → ∀ l, l < 6 → gt (wq z) p l < 2 ^ 31 := fun p hp l hl9 => by
    have h1 := hw9 p l (by omega) hl9
    omega
  have hqpos : ∀ p, p < z 0 → ∃ l, l < 6 ∧ 0 < gt (wq z) p l := hq.1.2.2
  have hnz : ∀ wo, ¬ wfrom (cnt (ZP z sf) wo) 0 = 0 := fun wo => by
    have h1 := cnt_pos hq.1 wo
    omega
  have hsq : (z 3 = 0 → Op.cmpValue (FP.dcmp (sf 2) FP.dconst0) .l ≤ 0) ∧ (¬ z 3 = 0 → ¬ Op.cmpValue (FP.dcmp (sf 2) FP.dconst0) .l ≤ 0) := hq.2.2.2.2.2.sq0
  rcases rng x (a := 0) (b := 99) (by decide) (by decide) with ⟨v, rfl, -, hv⟩ | h
  · exact PairD.look hI (c_X9_ifLimit h6 hR.1.2.1 hv (cnt_OK hR.1.1.1 (-1) v)) (fun W fs Qf fo h1 h2 h3 => hL_ifLimit_ok h1 h2 h3) (eqv_vO hR.2.1 (-1) v) (c_X10_ifLimit_v (by omega) hw31 hv (cnt_OK hq.1 (-1) v) (hnz _)) (fun w q => by obtain ⟨y1, y2, y3, q⟩ := q; exact ⟨_, _, _, _, _, _, _, _, q⟩)
  · exact PairD.thr (k := 1) (by decide) (by decide) (by decide) (by decide) rfl (fun fo => hL_ifLimit_1 rfl (x_X9_ifLimit_r hF h)) (c_X10_ifLimit_r h) ⟨_, rfl⟩ (LW.mk rfl rfl hI)
set_option maxHeartbeats 4000000 in
set_option maxRecDepth 100000 in
theorem st_limitFor {G : GP} (hF : G.l.stackTraces = false) {x0 m0 oa th : Nat} {wC wN : va_W} (hW : LW G x0 m0 th wC wN) (x : Int32) : PairI G x0 m0 oa sL_limitFor [(0, 9, 12, 13)] sX10_limitFor [.int x] wC wN := by
  obtain ⟨xa, pa, P, pl, nx, num, len, cs, f, m, g, qs, R, mk, ma, z, sf, hh, sh, tx, wy, mo, td, re, lo, to, r9, ha, rfl, rfl, rfl, rfl, hI⟩ := hW
  obtain ⟨hR, hRg, hM, hpl, hb, hl, hc, ht⟩ := id hI
  have h6 : P.parts ≤ 6 := hR.1.1.1.1
  have hz : P.parts = z 0 := hR.2.1.1
  have hq := hR.q
  have hn9 : P.sv.num < 2 ^ 31 := by
    have h99 : P.sv.num ≤ 9999 := hR.1.1.2.2.2.2.2.1
    omega
  have en : P.sv.num = z 3 := hR.2.1.2.2.2.2.2.1
  have el : P.limit = z 1 := hR.2.1.2.1
  have hlim : P.limit ≤ 99 := hR.1.1.2.1
  have hpos := hR.1.1.1.2.2
  have hw9 := hR.2.2.1
  have hw31 : ∀ p, p < z 0 → ∀ l, l < 6 → gt (wq z) p l < 2 ^ 31 := fun p hp l hl9 => by
    have h1 := hw9 p l (by omega) hl9
    omega
  have hqpos : ∀ p, p < z 0 → ∃ l, l < 6 ∧ 0 < gt (wq z) p l := hq.1.2.2
  have hnz : ∀ wo, ¬ wfrom (cnt (ZP z sf) wo) 0 = 0 := fun wo => by
    have h1 := cnt_pos hq.1 wo
    omega
  have hsq : (z 3 = 0 → Op.cmpValue (FP.dcmp (sf 2) FP.dconst0) .l ≤ 0) ∧ (¬ z 3 = 0 → ¬ Op.cmpValue (FP.dcmp (sf 2) FP.dconst0) .l ≤ 0) := hq.2.2.2.2.2.sq0
  rcases rng x (a := 0) (b := 1000) (by decide) (by decide) with ⟨v, rfl, -, hv⟩ | h
  · exact PairI.look hI (c_X9_limitFor h6 hR.1.2.1 hv (fun s9 => cnt_le hR.1.1.1 (-1) s9)) (fun W fs Qf fo h1 h2 h3 => hL_limitFor_ok h1 h2 h3) (congrArg nI (eqv_vF hR.2.1 v)) (c_X10_limitFor_ok (by omega) hw31 hv (fun s9 => cnt_le hq.1 (-1) s9) rfl) (fun w q => by obtain ⟨y1, y2, y3, q⟩ := q; exact ⟨_, _, _, _, _, _, _, _, q⟩)
  · exact PairI.thr (k := 1) (by decide) (by decide) (by decide) (by decide) rfl (fun fo => hL_limitFor_1 rfl (x_X9_limitFor_r hF h)) (c_X10_limitFor_r h) ⟨_, rfl⟩ (LW.mk rfl rfl hI)
set_option maxHeartbeats 4000000 in
set_option maxRecDepth 100000 in
theorem st_greatest {G : GP} {x0 m0 th : Nat} {wC wN : va_W} (hW : LW G x0 m0 th wC wN) {b9 : Nat} (hb9 : b9 ≤ 1) : PairV G x0 m0 sX9_greatest sX10_greatest [.int (nI b9)] wC wN (fun v => ∃ x9 : UInt64, v = .double x9) := by
  obtain ⟨xa, pa, P, pl, nx, num, len, cs, f, m, g, qs, R, mk, ma, z, sf, hh, sh, tx, wy, mo, td, re, lo, to, r9, ha, rfl, rfl, rfl, rfl, hI⟩ := hW
  obtain ⟨hR, hRg, hM, hpl, hb, hl, hc, ht⟩ := id hI
  have h6 : P.parts ≤ 6 := hR.1.1.1.1
  have hz : P.parts = z 0 := hR.2.1.1
  have hq := hR.q
  have hn9 : P.sv.num < 2 ^ 31 := by
    have h99 : P.sv.num ≤ 9999 := hR.1.1.2.2.2.2.2.1
    omega
  have en : P.sv.num = z 3 := hR.2.1.2.2.2.2.2.1
  have el : P.limit = z 1 := hR.2.1.2.1
  have hlim : P.limit ≤ 99 := hR.1.1.2.1
  have hpos := hR.1.1.1.2.2
  have hw9 := hR.2.2.1
  have hw31 : ∀ p, p < z 0 → ∀ l, l < 6 → gt (wq z) p l < 2 ^ 31 := fun p hp l hl9 => by
    have h1 := hw9 p l (by omega) hl9
    omega
  have hqpos : ∀ p, p < z 0 → ∃ l, l < 6 ∧ 0 < gt (wq z) p l := hq.1.2.2
  have hnz : ∀ wo, ¬ wfrom (cnt (ZP z sf) wo) 0 = 0 := fun wo => by
    have h1 := cnt_pos hq.1 wo
    omega
  have hsq : (z 3 = 0 → Op.cmpValue (FP.dcmp (sf 2) FP.dconst0) .l ≤ 0) ∧ (¬ z 3 = 0 → ¬ Op.cmpValue (FP.dcmp (sf 2) FP.dconst0) .l ≤ 0) := hq.2.2.2.2.2.sq0
  have hC : AM G sX9_greatest 0 0 [.ref (xa 0), .int (nI b9)] (wR G xa pa P pl nx num [] len cs f m g) (fun rv w => rv = some (.double (vG P b9)) ∧ ∃ (f m : Nat → Nat) (g : Nat → UInt64), w = wR G xa pa P pl nx num [] len cs f m g) := by
    rcases (show b9 = 0 ∨ b9 = 1 by omega) with rfl | rfl
    · exact c_X9_greatest_0 h6 hR.1.2.1 hR.1.2.2.1 hlim hR.1.1.cf
    · exact c_X9_greatest_1 h6 hR.1.2.1 hR.1.2.2.1 hlim hR.1.1.cf
  exact PairV.look hI ⟨_, rfl⟩ hC (congrArg Value.double (eqv_vG hR.2.1 b9)) (c_X10_greatest_v hb9 (by omega) hw9 (by omega) hq.cr (great_eq hq hb9)) (fun w q => ⟨_, _, _, _, _, _, _, _, q⟩)
set_option maxHeartbeats 4000000 in
set_option maxRecDepth 100000 in
theorem st_slightest {G : GP} {x0 m0 th : Nat} {wC wN : va_W} (hW : LW G x0 m0 th wC wN) : PairV G x0 m0 sX9_slightest sX10_slightest [] wC wN (fun v => ∃ x9 : Int32, v = .int x9) := by
  obtain ⟨xa, pa, P, pl, nx, num, len, cs, f, m, g, qs, R, mk, ma, z, sf, hh, sh, tx, wy, mo, td, re, lo, to, r9, ha, rfl, rfl, rfl, rfl, hI⟩ := hW
  obtain ⟨hR, hRg, hM, hpl, hb, hl, hc, ht⟩ := id hI
  have h6 : P.parts ≤ 6 := hR.1.1.1.1
  have hz : P.parts = z 0 := hR.2.1.1
  have hq := hR.q
  have hn9 : P.sv.num < 2 ^ 31 := by
    have h99 : P.sv.num ≤ 9999 := hR.1.1.2.2.2.2.2.1
    omega
  have en : P.sv.num = z 3 := hR.2.1.2.2.2.2.2.1
  have el : P.limit = z 1 := hR.2.1.2.1
  have hlim : P.limit ≤ 99 := hR.1.1.2.1
  have hpos := hR.1.1.1.2.2
  have hw9 := hR.2.2.1
  have hw31 : ∀ p, p < z 0 → ∀ l, l < 6 → gt (wq z) p l < 2 ^ 31 := fun p hp l hl9 => by
    have h1 := hw9 p l (by omega) hl9
    omega
  have hqpos : ∀ p, p < z 0 → ∃ l, l < 6 ∧ 0 < gt (wq z) p l := hq.1.2.2
  have hnz : ∀ wo, ¬ wfrom (cnt (ZP z sf) wo) 0 = 0 := fun wo => by
    have h1 := cnt_pos hq.1 wo
    omega
  have hsq : (z 3 = 0 → Op.cmpValue (FP.dcmp (sf 2) FP.dconst0) .l ≤ 0) ∧ (¬ z 3 = 0 → ¬ Op.cmpValue (FP.dcmp (sf 2) FP.dconst0) .l ≤ 0) := hq.2.2.2.2.2.sq0
  exact PairV.look hI ⟨_, rfl⟩ (c_X9_slightest h6 hR.1.2.1 hlim (fun i _ => cnt_OK hR.1.1.1 (nI i) P.limit)) (congrArg Value.int (eqv_vSl hR.2.1)) (c_X10_slightest_v (by omega) hw31 (by omega) (fun i _ => cnt_OK hq.1 (nI i) (z 1)) (fun i _ => hnz _) (slight_eq hq)) (fun w q => by obtain ⟨y1, y2, y3, q⟩ := q; exact ⟨_, _, _, _, _, _, _, _, q⟩)
set_option maxHeartbeats 4000000 in
set_option maxRecDepth 100000 in
theorem st_digest {G : GP} {x0 m0 th : Nat} {wC wN : va_W} (hW : LW G x0 m0 th wC wN) : PairV G x0 m0 sX9_digest sX10_digest [] wC wN (fun v => ∃ x9 : Int64, v = .long x9) := by
  obtain ⟨xa, pa, P, pl, nx, num, len, cs, f, m, g, qs, R, mk, ma, z, sf, hh, sh, tx, wy, mo, td, re, lo, to, r9, ha, rfl, rfl, rfl, rfl, hI⟩ := hW
  obtain ⟨hR, hRg, hM, hpl, hb, hl, hc, ht⟩ := id hI
  have h6 : P.parts ≤ 6 := hR.1.1.1.1
  have hz : P.parts = z 0 := hR.2.1.1
  have hq := hR.q
  have hn9 : P.sv.num < 2 ^ 31 := by
    have h99 : P.sv.num ≤ 9999 := hR.1.1.2.2.2.2.2.1
    omega
  have en : P.sv.num = z 3 := hR.2.1.2.2.2.2.2.1
  have el : P.limit = z 1 := hR.2.1.2.1
  have hlim : P.limit ≤ 99 := hR.1.1.2.1
  have hpos := hR.1.1.1.2.2
  have hw9 := hR.2.2.1
  have hw31 : ∀ p, p < z 0 → ∀ l, l < 6 → gt (wq z) p l < 2 ^ 31 := fun p hp l hl9 => by
    have h1 := hw9 p l (by omega) hl9
    omega
  have hqpos : ∀ p, p < z 0 → ∃ l, l < 6 ∧ 0 < gt (wq z) p l := hq.1.2.2
  have hnz : ∀ wo, ¬ wfrom (cnt (ZP z sf) wo) 0 = 0 := fun wo => by
    have h1 := cnt_pos hq.1 wo
    omega
  have hsq : (z 3 = 0 → Op.cmpValue (FP.dcmp (sf 2) FP.dconst0) .l ≤ 0) ∧ (¬ z 3 = 0 → ¬ Op.cmpValue (FP.dcmp (sf 2) FP.dconst0) .l ≤ 0) := hq.2.2.2.2.2.sq0
  have hcs : ∀ i, i < len → cs i < 2 ^ 31 := fun i hi => by
    have h1 := ht i hi
    rw [hc i hi]
    omega
  have htx : ∀ i, i < len → tx i < 2 ^ 31 := fun i hi => by
    have h1 := ht i hi
    omega
  have ht9 : ∀ p l, p < 6 → l < 6 → gt (tq z) p l ≤ 99 := hq.2.2.2.1
  exact PairV.look hI ⟨_, rfl⟩ (c_X9_digest h6 hR.1.2.1 hR.1.2.2.1 hlim hpos hn9 hl hcs hR.1.1.d) (congrArg Value.long (eqv_vDig hR.2.1 hc)) (c_X10_digest (by omega) hw9 ht9 (by omega) hqpos (by omega) hl htx hq.m (hnz _) hsq hq.cr (fun i _ => cnt_OK hq.1 (nI i) (z 1)) (fun i _ => hnz _) (cnt_OK hq.1 (-1) 5) (fun s9 => cnt_le hq.1 (-1) s9) rfl (fun k hk => vM_nn hq k hk) (deq0 ((vO_Z hq.1 (-1) 5).P (by decide)).ne) (deq0 ((great_Z hq 1).P (by decide)).ne) (great_eq hq (by decide)) (slight_eq hq)) (fun w q => by obtain ⟨y1, y2, y3, q⟩ := q; exact ⟨_, _, _, _, _, _, _, _, q⟩)
