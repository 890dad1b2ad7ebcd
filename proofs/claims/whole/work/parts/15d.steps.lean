/-! THE LAW'S COMMANDS: the class's side and the model's side of each -/
/-- a helper passes on what the class's method says -/
def HI (G : GP) (σc σh : MS) (hx : List (Nat × Nat × Nat × Nat)) (av : List Value) (x0 oa : Nat) : Prop :=
  ∀ (W : va_W) (mc ms : Nat) (fs : List Value) (Qf : Option Value → va_W → Prop) (fo : Nat → Int64), W[0]? = some (x0, .inr (9, fs)) → (∀ v w, Qf v w → ∃ x9 : Int32, v = some (.int x9)) → AM G σc mc ms (.ref x0 :: av) W Qf →
    AMH G σh hx mc ms (.ref x0 :: (av ++ [.ref oa])) ((oa, aJ G 1 fo) :: W) (fun v w => v = some (.int (nI 0)) ∧ ∃ (x9 : Int32) (w9 : va_W), Qf (some (.int x9)) w9 ∧ w = (oa, aJ G 1 (vp_updL fo (nI 0).toNatClampNeg x9.toInt64)) :: w9)
theorem PairI.gen {G : GP} {x0 m0 oa : Nat} {σc σh σm : MS} {hx : List (Nat × Nat × Nat × Nat)} {av : List Value} {wC wN W V : va_W} {mc ms : Nat} {CQ MQ : va_W → Prop} {a b : Int32} {fs : List Value} (h1 : mc ≤ 8) (h2 : ms ≤ 96) (hp : wC.Perm (W ++ V)) (hab : a = b) (hw : W[0]? = some (x0, .inr (9, fs)))
    (hC : AM G σc mc ms (.ref x0 :: av) W (fun v w => v = some (.int a) ∧ CQ w)) (hH : HI G σc σh hx av x0 oa)
    (hM : AM G σm 0 0 (.ref m0 :: av) wN (fun v w => v = some (.int b) ∧ MQ w)) (hm : ∃ fs, wN[0]? = some (m0, .inr (10, fs))) (hf : ∀ w9 w : va_W, CQ w9 → MQ w → ∃ wD, (w9 ++ V).Perm wD ∧ LW G x0 m0 0 wD w) : PairI G x0 m0 oa σh hx σm av wC wN :=
  PairI.ok h1 h2 hp hab (fun fo => hH W mc ms fs _ fo hw (fun v w q => ⟨_, q.1⟩) hC) hM hm hf
theorem PairI.save {G : GP} {oa : Nat} {σc σh σm : MS} {hx : List (Nat × Nat × Nat × Nat)} {av : List Value} {xa pa : Nat → Nat} {P P' : PV} {pl : Nat → Option Nat} {nx num len len' : Nat} {cs f m : Nat → Nat} {g : Nat → UInt64} {qs : Nat → Nat → Nat} {R : Nat → PV} {mk : Nat} {ma z z' : Nat → Nat} {sf sf' : Nat → UInt64} {hh : Nat → Nat} {sh : Nat → UInt64} {tx tx' wy mo td wy' mo' td' : Nat → Nat} {th re lo to re' lo' to' : Nat} {r9 r9' : Nat → Nat} {ha ha' : Int64} {a b : Int32} {mcn msn mco mso : Nat} (hI : LInv P pl nx num len cs qs R mk z sf hh sh tx)
    (hn : pl nx = none → AM G σc mcn msn (.ref (xa 0) :: av) (wR G xa pa P pl nx num [] len cs f m g) (fun rv w => rv = some (.int a) ∧ ∃ qa : Nat → Nat, w = wR G xa pa P' (va_up pl nx (some (qa 0))) ((nx + 1) % 6) (min (num + 1) 6) [] len' cs f m g ++ wP G qa (PV0.cpy P)))
    (ho : ∀ (qa : Nat → Nat) (O : PV), pl nx = some (qa 0) → AM G σc mco mso (.ref (xa 0) :: av) (wR G xa pa P pl nx num (wP G qa O) len cs f m g) (fun rv w => rv = some (.int a) ∧ w = wR G xa pa P' pl ((nx + 1) % 6) (min (num + 1) 6) (wP G qa (O.cpy P)) len' cs f m g))
    (hH : HI G σc σh hx av (xa 0) oa) (hab : a = b)
    (hM : AMd G σm (.ref (ma 0) :: av) (wM G ma z sf num hh sh len tx th wy mo td re lo to r9 ha) (some (.int b)) (wM G ma z' sf' (min (num + 1) 6) (svH z hh num) (svT sf sh num) len' tx' 0 wy' mo' td' re' lo' to' r9' ha'))
    (hR : Rel P' z' sf') (hl : len' ≤ 60) (hc : ∀ i, i < len' → cs i = tx' i) (ht : ∀ i, i < len' → tx' i ≤ 126)
    (g1 : mcn ≤ 8 := by decide) (g2 : msn ≤ 96 := by decide) (g3 : mco ≤ 8 := by decide) (g4 : mso ≤ 96 := by decide) : PairI G (xa 0) (ma 0) oa σh hx σm av (wR G xa pa P pl nx num [] len cs f m g ++ plq G qs R mk) (wM G ma z sf num hh sh len tx th wy mo td re lo to r9 ha) := by
  obtain ⟨W, V, mc, ms, k1, k2, hp, ⟨fs, hw⟩, hC⟩ := save_C g1 g2 g3 g4 hI hn ho
  refine PairI.gen k1 k2 hp hab hw hC hH hM ⟨_, rfl⟩ (fun w9 w e1 e2 => ?_)
  subst e2
  exact e1.lw hR hl hc ht
theorem eqvw {P Q : PV} (h : P.eqv Q) {p l : Nat} (hp : p < P.parts) (hl : l < 6) : gt P.wt p l = gt Q.wt p l := h.2.2.2.1 p l hp hl
theorem eqvt {P Q : PV} (h : P.eqv Q) {p l : Nat} (hp : p < P.parts) (hl : l < 6) : gt P.tl p l = gt Q.tl p l := h.2.2.2.2.1 p l hp hl
set_option maxHeartbeats 4000000 in
set_option maxRecDepth 100000 in
theorem st_addPart {G : GP} (hF : G.l.stackTraces = false) {x0 m0 oa th : Nat} {wC wN : va_W} (hW : LW G x0 m0 th wC wN) (x : Int32) : PairI G x0 m0 oa sL_addPart [(0, 9, 12, 13), (0, 9, 15, 15)] sX10_addPart [.int x] wC wN := by
  obtain ⟨xa, pa, P, pl, nx, num, len, cs, f, m, g, qs, R, mk, ma, z, sf, hh, sh, tx, wy, mo, td, re, lo, to, r9, ha, rfl, rfl, rfl, rfl, hI⟩ := hW
  obtain ⟨hR, hRg, hM, hpl, hb, hl, hc, ht⟩ := id hI
  have h6 : P.parts ≤ 6 := hR.1.1.1.1
  have hz : P.parts = z 0 := hR.2.1.1
  rcases rng x (a := 0) (b := 5) (by decide) (by decide) with ⟨v, rfl, -, hv⟩ | h
  · by_cases h5 : P.parts < 6
    · exact PairI.save hI (fun e => c_X9_addPart_n hM.2.1 hM.2.2.1 e (show v < 6 by omega) h5) (fun qa O e => c_X9_addPart_o hM.2.1 hM.2.2.1 e (show v < 6 by omega) h5) (fun W mc ms fs Qf fo h1 h2 h3 => hL_addPart_ok h1 h2 h3) (show nI P.parts = nI (adZ z v 0 - 1) by rw [adZ_0, hz, Nat.add_sub_cancel]) (c_X10_addPart_ok hv (by omega) hM.2.2.1) (hR.addPart (show v < 6 by omega) h5) hl hc ht
    · exact PairI.thr (k := 2) (by decide) (by decide) (by decide) (by decide) rfl (fun fo => hL_addPart_2 rfl (x_X9_addPart_s hF (show v < 6 by omega) (show 6 ≤ P.parts by omega) h6)) (c_X10_addPart_s hv (by omega)) ⟨_, rfl⟩ (LW.mk rfl rfl hI)
  · exact PairI.thr (k := 1) (by decide) (by decide) (by decide) (by decide) rfl (fun fo => hL_addPart_1 rfl (x_X9_addPart_r hF (rng_up (by decide) h))) (c_X10_addPart_r h) ⟨_, rfl⟩ (LW.mk rfl rfl hI)
set_option maxHeartbeats 4000000 in
set_option maxRecDepth 100000 in
theorem st_removePart {G : GP} (hF : G.l.stackTraces = false) {x0 m0 oa th : Nat} {wC wN : va_W} (hW : LW G x0 m0 th wC wN) (x : Int32) : PairI G x0 m0 oa sL_removePart [(0, 9, 12, 20)] sX10_removePart [.int x] wC wN := by
  obtain ⟨xa, pa, P, pl, nx, num, len, cs, f, m, g, qs, R, mk, ma, z, sf, hh, sh, tx, wy, mo, td, re, lo, to, r9, ha, rfl, rfl, rfl, rfl, hI⟩ := hW
  obtain ⟨hR, hRg, hM, hpl, hb, hl, hc, ht⟩ := id hI
  have h6 : P.parts ≤ 6 := hR.1.1.1.1
  have hz : P.parts = z 0 := hR.2.1.1
  rcases rngP x h6 with ⟨p, rfl, hp⟩ | ⟨h1, h2⟩
  rotate_left
  · rcases h2 with h0 | ⟨hz1, h⟩
    · exact PairI.thr (k := 1) (by decide) (by decide) (by decide) (by decide) rfl (fun fo => hL_removePart_1 rfl (x_X9_removePart_p hF h1)) (c_X10_removePart_0 (by omega)) ⟨_, rfl⟩ (LW.mk rfl rfl hI)
    · exact PairI.thr (k := 1) (by decide) (by decide) (by decide) (by decide) rfl (fun fo => hL_removePart_1 rfl (x_X9_removePart_p hF h1)) (c_X10_removePart_r (by omega) (by rw [← hz]; exact h)) ⟨_, rfl⟩ (LW.mk rfl rfl hI)
  exact PairI.save hI (fun e => c_X9_removePart_n hM.2.1 hM.2.2.1 e hp h6) (fun qa O e => c_X9_removePart_o hM.2.1 hM.2.2.1 e hp h6) (fun W mc ms fs Qf fo h1 h2 h3 => hL_removePart_ok h1 h2 h3) (show nI (P.parts - 1) = nI (z 0 - 1) by rw [hz]) (c_X10_removePart_ok (by omega) (by omega) hM.2.2.1) (hR.drop hp) hl hc ht
set_option maxHeartbeats 4000000 in
set_option maxRecDepth 100000 in
theorem st_weigh {G : GP} (hF : G.l.stackTraces = false) {x0 m0 oa th : Nat} {wC wN : va_W} (hW : LW G x0 m0 th wC wN) (x y w : Int32) : PairI G x0 m0 oa sL_weigh [(0, 12, 15, 20), (0, 12, 19, 13), (0, 12, 23, 15)] sX10_weigh [.int x, .int y, .int w] wC wN := by
  obtain ⟨xa, pa, P, pl, nx, num, len, cs, f, m, g, qs, R, mk, ma, z, sf, hh, sh, tx, wy, mo, td, re, lo, to, r9, ha, rfl, rfl, rfl, rfl, hI⟩ := hW
  obtain ⟨hR, hRg, hM, hpl, hb, hl, hc, ht⟩ := id hI
  have h6 : P.parts ≤ 6 := hR.1.1.1.1
  have hz : P.parts = z 0 := hR.2.1.1
  rcases rngP x h6 with ⟨p, rfl, hp⟩ | ⟨h1, h2⟩
  rotate_left
  · rcases h2 with h0 | ⟨hz1, h⟩
    · exact PairI.thr (k := 1) (by decide) (by decide) (by decide) (by decide) rfl (fun fo => hL_weigh_1 rfl (x_X9_weigh_p hF h1)) (c_X10_weigh_0 (by omega)) ⟨_, rfl⟩ (LW.mk rfl rfl hI)
    · exact PairI.thr (k := 1) (by decide) (by decide) (by decide) (by decide) rfl (fun fo => hL_weigh_1 rfl (x_X9_weigh_p hF h1)) (c_X10_weigh_p (by omega) (by rw [← hz]; exact h)) ⟨_, rfl⟩ (LW.mk rfl rfl hI)
  rcases rng y (a := 0) (b := 5) (by decide) (by decide) with ⟨l, rfl, -, hl5⟩ | h
  rotate_left
  · exact PairI.thr (k := 1) (by decide) (by decide) (by decide) (by decide) rfl (fun fo => hL_weigh_1 rfl (x_X9_weigh_l hF hp h6 (rng_up (by decide) h))) (c_X10_weigh_l (by omega) (by omega) h) ⟨_, rfl⟩ (LW.mk rfl rfl hI)
  have hl6 : l < 6 := by omega
  rcases rng w (a := 0) (b := 9) (by decide) (by decide) with ⟨v, rfl, -, hv⟩ | h
  rotate_left
  · exact PairI.thr (k := 2) (by decide) (by decide) (by decide) (by decide) rfl (fun fo => hL_weigh_2 rfl (x_X9_weigh_r hF hp h6 hl6 h)) (c_X10_weigh_r (by omega) (by omega) hl5 h) ⟨_, rfl⟩ (LW.mk rfl rfl hI)
  have eg : gt P.wt p l = gt (wq z) p l := eqvw hR.2.1 hp hl6
  have et : tot P.wt p = tot (wq z) p := tot_ext (fun b hb9 => eqvw hR.2.1 hp hb9)
  have h54 : tot P.wt p ≤ 54 := hR.1.1.1.t54 (by omega)
  have hg9 : gt (wq z) p l ≤ 9 := hR.2.2.1 p l (by omega) hl6
  have hgt : gt P.wt p l ≤ tot P.wt p := gt_tot hl6
  by_cases hzz : tot P.wt p - gt P.wt p l + v = 0
  · exact PairI.thr (k := 3) (by decide) (by decide) (by decide) (by decide) rfl (fun fo => hL_weigh_3 rfl (x_X9_weigh_s hF hp h6 hl6 (by omega) hR.1.2.1 hR.1.2.2.1 (by omega))) (c_X10_weigh_s (by omega) (by omega) hl5 hv hg9 (by omega) (by rw [← et, ← eg]; exact hzz)) ⟨_, rfl⟩ (LW.mk rfl rfl hI)
  · exact PairI.save hI (fun e => c_X9_weigh_n hM.2.1 hM.2.2.1 e hp h6 hl6 hv hR.1.2.1 hR.1.2.2.1 (by omega)) (fun qa O e => c_X9_weigh_o hM.2.1 hM.2.2.1 e hp h6 hl6 hv hR.1.2.1 hR.1.2.2.1 (by omega)) (fun W mc ms fs Qf fo h1 h2 h3 => hL_weigh_ok h1 h2 h3) (show nI (gt P.wt p l) = nI (gt (wq (fg z 6)) p l) by rw [wq_fg, eg]) (c_X10_weigh_ok (by omega) (by omega) hl5 hv hg9 (by omega) (by rw [← et, ← eg]; exact hzz) hM.2.2.1) (hR.weigh hp hl6 hv hzz) hl hc ht
set_option maxHeartbeats 4000000 in
set_option maxRecDepth 100000 in
theorem st_tilt {G : GP} (hF : G.l.stackTraces = false) {x0 m0 oa th : Nat} {wC wN : va_W} (hW : LW G x0 m0 th wC wN) (x y w : Int32) : PairI G x0 m0 oa sL_tilt [(0, 12, 15, 20), (0, 12, 19, 13), (0, 12, 23, 15)] sX10_tilt [.int x, .int y, .int w] wC wN := by
  obtain ⟨xa, pa, P, pl, nx, num, len, cs, f, m, g, qs, R, mk, ma, z, sf, hh, sh, tx, wy, mo, td, re, lo, to, r9, ha, rfl, rfl, rfl, rfl, hI⟩ := hW
  obtain ⟨hR, hRg, hM, hpl, hb, hl, hc, ht⟩ := id hI
  have h6 : P.parts ≤ 6 := hR.1.1.1.1
  have hz : P.parts = z 0 := hR.2.1.1
  rcases rngP x h6 with ⟨p, rfl, hp⟩ | ⟨h1, h2⟩
  rotate_left
  · rcases h2 with h0 | ⟨hz1, h⟩
    · exact PairI.thr (k := 1) (by decide) (by decide) (by decide) (by decide) rfl (fun fo => hL_tilt_1 rfl (x_X9_tilt_p hF h1)) (c_X10_tilt_0 (by omega)) ⟨_, rfl⟩ (LW.mk rfl rfl hI)
    · exact PairI.thr (k := 1) (by decide) (by decide) (by decide) (by decide) rfl (fun fo => hL_tilt_1 rfl (x_X9_tilt_p hF h1)) (c_X10_tilt_p (by omega) (by rw [← hz]; exact h)) ⟨_, rfl⟩ (LW.mk rfl rfl hI)
  rcases rng y (a := 0) (b := 5) (by decide) (by decide) with ⟨l, rfl, -, hl5⟩ | h
  rotate_left
  · exact PairI.thr (k := 1) (by decide) (by decide) (by decide) (by decide) rfl (fun fo => hL_tilt_1 rfl (x_X9_tilt_l hF hp h6 (rng_up (by decide) h))) (c_X10_tilt_l (by omega) (by omega) h) ⟨_, rfl⟩ (LW.mk rfl rfl hI)
  have hl6 : l < 6 := by omega
  rcases rng w (a := 1) (b := 99) (by decide) (by decide) with ⟨v, rfl, hv1, hv⟩ | h
  rotate_left
  · exact PairI.thr (k := 2) (by decide) (by decide) (by decide) (by decide) rfl (fun fo => hL_tilt_2 rfl (x_X9_tilt_r hF hp h6 hl6 h)) (c_X10_tilt_r (by omega) (by omega) hl5 h) ⟨_, rfl⟩ (LW.mk rfl rfl hI)
  have eg : gt P.wt p l = gt (wq z) p l := eqvw hR.2.1 hp hl6
  have eh : gt P.tl p l = gt (tq z) p l := eqvt hR.2.1 hp hl6
  have hg9 : gt (wq z) p l ≤ 9 := hR.2.2.1 p l (by omega) hl6
  by_cases hzz : gt P.wt p l = 0
  · exact PairI.thr (k := 3) (by decide) (by decide) (by decide) (by decide) rfl (fun fo => hL_tilt_3 rfl (x_X9_tilt_s hF hp h6 hl6 hv1 hv hR.1.2.1 hR.1.2.2.1 hzz)) (c_X10_tilt_s (by omega) (by omega) hl5 hv1 hv (by rw [← eg]; exact hzz)) ⟨_, rfl⟩ (LW.mk rfl rfl hI)
  · exact PairI.save hI (fun e => c_X9_tilt_n hM.2.1 hM.2.2.1 e hp h6 hl6 hv1 hv hR.1.2.1 hR.1.2.2.1 hzz) (fun qa O e => c_X9_tilt_o hM.2.1 hM.2.2.1 e hp h6 hl6 hv1 hv hR.1.2.1 hR.1.2.2.1 hzz) (fun W mc ms fs Qf fo h1 h2 h3 => hL_tilt_ok h1 h2 h3) (show nI (gt P.tl p l) = nI (gt (tq (fg z 6)) p l) by rw [tq_fg, eh]) (c_X10_tilt_ok (by omega) (by omega) hl5 hv1 hv hg9 (by rw [← eg]; exact hzz) hM.2.2.1) (hR.tilt hp hl6 hv1 hv hzz) hl hc ht
set_option maxHeartbeats 4000000 in
set_option maxRecDepth 100000 in
theorem st_tiltAll {G : GP} (hF : G.l.stackTraces = false) {x0 m0 oa th : Nat} {wC wN : va_W} (hW : LW G x0 m0 th wC wN) (x : Int32) : PairI G x0 m0 oa sL_tiltAll [(0, 9, 12, 13)] sX10_tiltAll [.int x] wC wN := by
  obtain ⟨xa, pa, P, pl, nx, num, len, cs, f, m, g, qs, R, mk, ma, z, sf, hh, sh, tx, wy, mo, td, re, lo, to, r9, ha, rfl, rfl, rfl, rfl, hI⟩ := hW
  obtain ⟨hR, hRg, hM, hpl, hb, hl, hc, ht⟩ := id hI
  have h6 : P.parts ≤ 6 := hR.1.1.1.1
  have hz : P.parts = z 0 := hR.2.1.1
  rcases rng x (a := 0) (b := 9) (by decide) (by decide) with ⟨v, rfl, -, hv⟩ | h
  · exact PairI.save hI (fun e => c_X9_tiltAll_n hM.2.1 hM.2.2.1 e h6 hv hR.1.2.1 hR.1.2.2.1) (fun qa O e => c_X9_tiltAll_o hM.2.1 hM.2.2.1 e h6 hv hR.1.2.1 hR.1.2.2.1) (fun W mc ms fs Qf fo h1 h2 h3 => hL_tiltAll_ok h1 h2 h3) (congrArg nI (hR.tiltAll (v := v)).2.symm) (c_X10_tiltAll_ok hv (by omega) hR.2.2.1 hM.2.2.1) ((hR.tiltAll (v := v)).1) hl hc ht
  · exact PairI.thr (k := 1) (by decide) (by decide) (by decide) (by decide) rfl (fun fo => hL_tiltAll_1 rfl (x_X9_tiltAll_r hF h)) (c_X10_tiltAll_r h) ⟨_, rfl⟩ (LW.mk rfl rfl hI)
set_option maxHeartbeats 4000000 in
set_option maxRecDepth 100000 in
theorem st_limit {G : GP} (hF : G.l.stackTraces = false) {x0 m0 oa th : Nat} {wC wN : va_W} (hW : LW G x0 m0 th wC wN) (x : Int32) : PairI G x0 m0 oa sL_limit [(0, 9, 12, 13)] sX10_limit [.int x] wC wN := by
  obtain ⟨xa, pa, P, pl, nx, num, len, cs, f, m, g, qs, R, mk, ma, z, sf, hh, sh, tx, wy, mo, td, re, lo, to, r9, ha, rfl, rfl, rfl, rfl, hI⟩ := hW
  obtain ⟨hR, hRg, hM, hpl, hb, hl, hc, ht⟩ := id hI
  have h6 : P.parts ≤ 6 := hR.1.1.1.1
  have hz : P.parts = z 0 := hR.2.1.1
  rcases rng x (a := 0) (b := 99) (by decide) (by decide) with ⟨v, rfl, -, hv⟩ | h
  · exact PairI.save hI (fun e => c_X9_limit_n hM.2.1 hM.2.2.1 e hv) (fun qa O e => c_X9_limit_o hM.2.1 hM.2.2.1 e hv) (fun W mc ms fs Qf fo h1 h2 h3 => hL_limit_ok h1 h2 h3) (congrArg nI hR.2.1.2.1) (c_X10_limit_ok hv hM.2.2.1) (hR.lim hv) hl hc ht
  · exact PairI.thr (k := 1) (by decide) (by decide) (by decide) (by decide) rfl (fun fo => hL_limit_1 rfl (x_X9_limit_r hF h)) (c_X10_limit_r h) ⟨_, rfl⟩ (LW.mk rfl rfl hI)
set_option maxHeartbeats 4000000 in
set_option maxRecDepth 100000 in
theorem st_seed {G : GP} (hF : G.l.stackTraces = false) {x0 m0 oa th : Nat} {wC wN : va_W} (hW : LW G x0 m0 th wC wN) (x : Int32) : PairI G x0 m0 oa sL_seed [(0, 9, 12, 13)] sX10_seed [.int x] wC wN := by
  obtain ⟨xa, pa, P, pl, nx, num, len, cs, f, m, g, qs, R, mk, ma, z, sf, hh, sh, tx, wy, mo, td, re, lo, to, r9, ha, rfl, rfl, rfl, rfl, hI⟩ := hW
  obtain ⟨hR, hRg, hM, hpl, hb, hl, hc, ht⟩ := id hI
  have h6 : P.parts ≤ 6 := hR.1.1.1.1
  have hz : P.parts = z 0 := hR.2.1.1
  rcases rng0 x with ⟨v, rfl, hv⟩ | h
  · exact PairI.save hI (fun e => c_X9_seed_n hM.2.1 hM.2.2.1 e hv) (fun qa O e => c_X9_seed_o hM.2.1 hM.2.2.1 e hv) (fun W mc ms fs Qf fo h1 h2 h3 => hL_seed_ok h1 h2 h3) (congrArg nI hR.2.1.2.2.1) (c_X10_seed_ok hv hM.2.2.1) (hR.seed hv) hl hc ht
  · exact PairI.thr (k := 1) (by decide) (by decide) (by decide) (by decide) rfl (fun fo => hL_seed_1 rfl (x_X9_seed_r hF h)) (c_X10_seed_r h) ⟨_, rfl⟩ (LW.mk rfl rfl hI)
set_option maxHeartbeats 4000000 in
set_option maxRecDepth 100000 in
theorem st_draw {G : GP} (hF : G.l.stackTraces = false) {x0 m0 oa th : Nat} {wC wN : va_W} (hW : LW G x0 m0 th wC wN) (x : Int32) : PairI G x0 m0 oa sL_draw [(0, 9, 12, 13), (0, 9, 15, 15)] sX10_draw [.int x] wC wN := by
  obtain ⟨xa, pa, P, pl, nx, num, len, cs, f, m, g, qs, R, mk, ma, z, sf, hh, sh, tx, wy, mo, td, re, lo, to, r9, ha, rfl, rfl, rfl, rfl, hI⟩ := hW
  obtain ⟨hR, hRg, hM, hpl, hb, hl, hc, ht⟩ := id hI
  have h6 : P.parts ≤ 6 := hR.1.1.1.1
  have hz : P.parts = z 0 := hR.2.1.1
  rcases rng x (a := 1) (b := 64) (by decide) (by decide) with ⟨v, rfl, hv1, hv⟩ | h
  rotate_left
  · exact PairI.thr (k := 1) (by decide) (by decide) (by decide) (by decide) rfl (fun fo => hL_draw_1 rfl (x_X9_draw_r hF h)) (c_X10_draw_r h) ⟨_, rfl⟩ (LW.mk rfl rfl hI)
  have en : P.sv.num = z 3 := hR.2.1.2.2.2.2.2.1
  have h99 : P.sv.num ≤ 9999 := hR.1.1.2.2.2.2.2.1
  by_cases hs : P.sv.num + v ≤ 9999
  rotate_left
  · exact PairI.thr (k := 2) (by decide) (by decide) (by decide) (by decide) rfl (fun fo => hL_draw_2 rfl (x_X9_draw_s hF hv1 hv h99 (by omega))) (c_X10_draw_s hv1 hv (by omega) (by omega)) ⟨_, rfl⟩ (LW.mk rfl rfl hI)
  have hq := hR.q
  have hr1 : ∀ i, i < v → (drN P i).rowOK := fun i hi => by
    obtain ⟨a1, a2⟩ := hR.1.1.draws i (by omega)
    obtain ⟨k1, k2, -⟩ := drN_keep h6 i
    exact a1.ok1 (by rw [k1]; exact hR.1.2.1) (by rw [k2]; exact hR.1.2.2.1) (by omega)
  have hr2 : ∀ i, i < v → (drN (ZP z sf) i).rowOK2 ∧ (∀ p, p < z 0 → ¬ tot (wq z) p = 0) ∧ FP.dadd (drN (ZP z sf) i).sv.fs FP.dconst0 = (drN (ZP z sf) i).sv.fs ∧ vf_n64 (drN (ZP z sf) i).sv.fs := fun i hi => by
    obtain ⟨a1, a2⟩ := hq.draws i (show z 3 + i ≤ 9999 by omega)
    have a2 : (drN (ZP z sf) i).sv.num = z 3 + i := a2
    obtain ⟨k1, k2, -⟩ := drN_keep (P := ZP z sf) (show z 0 ≤ 6 by omega) i
    have hfs := a1.2.2.2.2.2.fsZ
    refine ⟨a1.ok2 (by rw [k2]; exact hR.2.2.2) (by omega), fun p hp e => ?_, dadd_0 (hfs.P (by decide)), (hfs.P (by decide)).nn⟩
    have h9 := (hq.wt (p := p) hp).1
    have h9 : 0 < tot (wq z) p := h9
    omega
  have hfl := dfl_flt P v
  have hde : dfl P v = dfl (ZP z sf) v := eqv_dfl hR.2.1 hR.1.1 hs
  exact PairI.save hI (fun e => c_X9_draw_n hM.2.1 hM.2.2.1 e hv1 hv hs (by omega) hr1) (fun qa O e => c_X9_draw_o hM.2.1 hM.2.2.1 e hv1 hv hs (by omega) hr1) (fun W mc ms fs Qf fo h1 h2 h3 => hL_draw_ok h1 h2 h3) (show nI ((drN P v).sv.flt - P.sv.flt) = nI (dfl (ZP z sf) v) by rw [hfl, Nat.add_sub_cancel_left, hde]) (c_X10_draw_ok hv1 hv (by omega) (by omega) hM.2.2.1 hr2) (hR.draws hs) hl hc ht
