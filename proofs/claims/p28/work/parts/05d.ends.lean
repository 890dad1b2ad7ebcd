section Ends
variable {G : GP} {σ τ : MS} {B : Bd} {pc k n mc ms idx nA : Nat} {L : List (Nat × Value)} {st rest As : List Value} {ws ws0 wc : va_W} {Qf : Option Value → va_W → Prop} {Xf : String → va_W → Prop} {C : String}
/-- the end, of a method that returns or of one that may throw too -/
def BE (G : GP) (B : Bd) (ws0 : va_W) (mc ms : Nat) (Qf : Option Value → va_W → Prop) : Prop := Bend G B ws0 mc ms Qf ∨ ∃ Xf, BendX G B ws0 mc ms Qf Xf
theorem BE.of (h : Bend G B ws0 mc ms Qf) : BE G B ws0 mc ms Qf := Or.inl h
theorem BE.ofX (h : BendX G B ws0 mc ms Qf Xf) : BE G B ws0 mc ms Qf := Or.inr ⟨Xf, h⟩
theorem end_q {H : Heap} {locs : List Loc} {v : Option Value} (hP : va_P G.D vwCl ws H) (hD : va_D B.A ws) (hS : va_S B.A B.s.heap H locs) (hq : Qf v ws) (hkeep : AKeep ws0 ws) : ∀ t : State, t.heap = H → B.s.WarmedH t.vm → AQ G B.A ws0 Qf B.args B.s (.returned v) t :=
  fun t ht _ => ⟨⟨v, ws, rfl, hq, hkeep, by rw [ht]; exact hP, hD⟩, hS.F ht⟩
theorem BE.go {H : Heap} {locs : List Loc} {g : JFrame} (hE : BE G B ws0 mc ms Qf) (hk : k ≤ mc) (hn : n ≤ ms) (h : W B.p G.l B.e B.R B.s B.m B.args B.below B.meth B.c H locs mc ms (MQ B.below (AQ G B.A ws0 Qf) B.args B.s mc ms B.A) g) : W B.p G.l B.e B.R B.s B.m B.args B.below B.meth B.c H locs k n B.Q g := by
  refine W.widen hk hn ?_
  rcases hE with hE | ⟨Xf, hE⟩
  · rw [hE]; exact h
  · rw [hE]; exact vx_ret h
theorem a_iret (hB : Bok G σ B) (hE : BE G B ws0 mc ms Qf) {v : Int32} (hr : σ.ret = some .int) (hd : decode σ.cc pc = .ok (.ireturn, 1)) (hk : k ≤ mc) (hn : n ≤ ms) (hkeep : AKeep ws0 ws) (hq : Qf (some (.int v)) ws) : aW G σ B pc L [.int v] ws k n :=
  fun H locs ls hP hD hS hl => hE.go hk hn (W.iret hB.hx hB.hb (hB.hret.trans hr) (end_q hP hD hS hq hkeep) hS.2.2 hd hB.hlocks)
theorem a_zret (hB : Bok G σ B) (hE : BE G B ws0 mc ms Qf) {v : Int32} (hr : σ.ret = some .boolean) (hv : narrow .boolean (.int v) = .int v) (hd : decode σ.cc pc = .ok (.ireturn, 1)) (hk : k ≤ mc) (hn : n ≤ ms) (hkeep : AKeep ws0 ws) (hq : Qf (some (.int v)) ws) : aW G σ B pc L [.int v] ws k n :=
  fun H locs ls hP hD hS hl => hE.go hk hn (W.zret hB.hx hB.hb (hB.hret.trans hr) hv (end_q hP hD hS hq hkeep) hS.2.2 hd hB.hlocks)
theorem a_lret (hB : Bok G σ B) (hE : BE G B ws0 mc ms Qf) {v : Int64} (hr : σ.ret = some .long) (hd : decode σ.cc pc = .ok (.lreturn, 1)) (hk : k ≤ mc) (hn : n ≤ ms) (hkeep : AKeep ws0 ws) (hq : Qf (some (.long v)) ws) : aW G σ B pc L [.long v] ws k n :=
  fun H locs ls hP hD hS hl => hE.go hk hn (W.lret hB.hx hB.hb (hB.hret.trans hr) (end_q hP hD hS hq hkeep) hS.2.2 hd hB.hlocks)
theorem a_dret (hB : Bok G σ B) (hE : BE G B ws0 mc ms Qf) {v : UInt64} (hr : σ.ret = some .double) (hd : decode σ.cc pc = .ok (.dreturn, 1)) (hk : k ≤ mc) (hn : n ≤ ms) (hkeep : AKeep ws0 ws) (hq : Qf (some (.double v)) ws) : aW G σ B pc L [.double v] ws k n :=
  fun H locs ls hP hD hS hl => hE.go hk hn (W.dret hB.hx hB.hb (hB.hret.trans hr) (end_q hP hD hS hq hkeep) hS.2.2 hd hB.hlocks)
theorem a_vret (hB : Bok G σ B) (hE : BE G B ws0 mc ms Qf) (hr : σ.ret = none) (hd : decode σ.cc pc = .ok (.return_, 1)) (hk : k ≤ mc) (hn : n ≤ ms) (hkeep : AKeep ws0 ws) (hq : Qf none ws) : aW G σ B pc L [] ws k n :=
  fun H locs ls hP hD hS hl => hE.go hk hn (W.vret hB.hx hB.hb (hB.hret.trans hr) (end_q hP hD hS hq hkeep) hS.2.2 hd hB.hlocks)
-- makings
theorem a_objInit (hB : Bok G σ B) {a : Nat} (hw : Cond.methodLink σ.own idx Lib.objectInit ∈ gw) (hd : decode σ.cc pc = .ok (.invokespecial idx, 3)) (hf : 1 ≤ B.R.frames) (hlo : (rest.map fun v => v.category).sum + 12 ≤ B.R.locals)
    (kk : aW G σ B (pc + 3) L rest ws k n) : aW G σ B pc L (.ref a :: rest) ws k n :=
  fun H locs ls hP hD hS hl => W.objInit hB.hx hB.hb hB.hown (hB.hts _ hw) (hB.hts _ im_objinit) (hB.hts _ co_objinit) rfl (by rw [hB.hml]; exact hl.1) rfl hd hf (by show 2 * 0 + _ + 12 ≤ _; omega) (kk H locs ls hP hD hS hl)
theorem a_new (hB : Bok G σ B) {ci N : Nat} {T : u_T} {fs : List Value} (hd : decode σ.cc pc = .ok (.new idx, 3)) (hw : Cond.classLink σ.own idx C ∈ gw) (hin : ∀ w ∈ u_ws C T N, w ∈ gw) (ty0 : Nat → FieldType) (hty : ∀ k, k < N → parseFieldDescriptor (T k).2.2.1 = some (ty0 k)) (hins : Cond.instantiable C N ∈ gw) (hini : Cond.initialized C ∈ gw) (hc : vwCl[ci]? = some (C, T, N)) (hfs : ∀ j, j < N → defaultValue (ty0 j) = vp_V fs j) (hcells : k + 1 ≤ B.R.cells) (hslots : n + N ≤ B.R.slots)
    (kk : ∀ q : Nat, aW G σ B (pc + 3) L (.ref q :: st) (ws ++ [(q, .inr (ci, fs))]) (k + 1) (n + N)) : aW G σ B pc L st ws k n :=
  fun H locs ls hP hD hS hl => va_new (D := G.D) hB.hx hB.hb hB.hts hin ty0 hty hB.hown (hB.hts _ hw) (hB.hts _ hins) (hB.hts _ hini) hB.hK hP hD hS hB.hA hc hfs hcells hslots hd (fun q H1 hP1 hD1 hS1 => kk q H1 locs ls hP1 hD1 hS1 hl)
theorem tys_one {s : State} {cA cB : ClassId} {ty : FieldType} (hty : ∀ C, ty ≠ .object C) (h1 : va_RA s cA ty) (h2 : va_RA s cB ty) : cA = cB := by
  cases ty with
  | object C => exact absurd rfl (hty C)
  | _ => exact Option.some.inj (Eq.trans (Eq.symm h1) h2)
theorem a_newI (hB : Bok G σ B) {j : Int32} {N : Nat} (hd : decode σ.cc pc = .ok (.newarray .int, 2)) (h0 : ¬ j < 0) (hN : j.toNatClampNeg = N) (hby : N * componentBytes .int ≤ 536870912) (hcells : k + 1 ≤ B.R.cells) (hslots : n + N ≤ B.R.slots)
    (kk : ∀ q : Nat, aW G σ B (pc + 2) L (.ref q :: rest) (ws ++ [(q, aI G N (fun _ => 0))]) (k + 1) (n + N)) : aW G σ B pc L (.int j :: rest) ws k n := by
  intro H locs ls hP hD hS hl
  refine va_newa (D := G.D) (atype := .int) hB.hx hB.hb (hB.hts _ ac_int) (ty := .int) rfl hB.hK hP hD hS hB.hA (a0 := (N, .inl (fun _ => 0))) (fun cA => rfl) h0 hN hby hcells hslots hd (fun q cA H1 hK1 hP1 hD1 hS1 => ?_)
  have e : cA = G.cI := tys_one (ty := .int) (fun _ h => by cases h) (hK1.2 4 (cA, .int) rfl).2 (hB.hK.2 1 (G.cI, .int) rfl).2
  subst e
  exact kk q H1 locs ls hP1 hD1 hS1 hl
theorem a_newJ (hB : Bok G σ B) {j : Int32} {N : Nat} (hd : decode σ.cc pc = .ok (.newarray .long, 2)) (h0 : ¬ j < 0) (hN : j.toNatClampNeg = N) (hby : N * componentBytes .long ≤ 536870912) (hcells : k + 1 ≤ B.R.cells) (hslots : n + N ≤ B.R.slots)
    (kk : ∀ q : Nat, aW G σ B (pc + 2) L (.ref q :: rest) (ws ++ [(q, aJ G N (fun _ => 0))]) (k + 1) (n + N)) : aW G σ B pc L (.int j :: rest) ws k n := by
  intro H locs ls hP hD hS hl
  refine va_newa (D := G.D) (atype := .long) hB.hx hB.hb (hB.hts _ ac_long) (ty := .long) rfl hB.hK hP hD hS hB.hA (a0 := (N, .inr (.inl (fun _ => 0)))) (fun cA => rfl) h0 hN hby hcells hslots hd (fun q cA H1 hK1 hP1 hD1 hS1 => ?_)
  have e : cA = G.cJ := tys_one (ty := .long) (fun _ h => by cases h) (hK1.2 4 (cA, .long) rfl).2 (hB.hK.2 2 (G.cJ, .long) rfl).2
  subst e
  exact kk q H1 locs ls hP1 hD1 hS1 hl
theorem a_newD (hB : Bok G σ B) {j : Int32} {N : Nat} (hd : decode σ.cc pc = .ok (.newarray .double, 2)) (h0 : ¬ j < 0) (hN : j.toNatClampNeg = N) (hby : N * componentBytes .double ≤ 536870912) (hcells : k + 1 ≤ B.R.cells) (hslots : n + N ≤ B.R.slots)
    (kk : ∀ q : Nat, aW G σ B (pc + 2) L (.ref q :: rest) (ws ++ [(q, aD G N (fun _ => 0))]) (k + 1) (n + N)) : aW G σ B pc L (.int j :: rest) ws k n := by
  intro H locs ls hP hD hS hl
  refine va_newa (D := G.D) (atype := .double) hB.hx hB.hb (hB.hts _ ac_double) (ty := .double) rfl hB.hK hP hD hS hB.hA (a0 := (N, .inr (.inr (.inr (.inl (fun _ => 0)))))) (fun cA => rfl) h0 hN hby hcells hslots hd (fun q cA H1 hK1 hP1 hD1 hS1 => ?_)
  have e : cA = G.cD := tys_one (ty := .double) (fun _ h => by cases h) (hK1.2 4 (cA, .double) rfl).2 (hB.hK.2 0 (G.cD, .double) rfl).2
  subst e
  exact kk q H1 locs ls hP1 hD1 hS1 hl
theorem a_newP (hB : Bok G σ B) {j : Int32} {N : Nat} (hd : decode σ.cc pc = .ok (.anewarray idx, 3)) (hw : Cond.classLink σ.own idx RX4 ∈ gw) (h0 : ¬ j < 0) (hN : j.toNatClampNeg = N) (hby : N * 4 ≤ 536870912) (hcells : k + 1 ≤ B.R.cells) (hslots : n + N ≤ B.R.slots)
    (kk : ∀ q : Nat, aW G σ B (pc + 3) L (.ref q :: rest) (ws ++ [(q, aP G N (fun _ => none))]) (k + 1) (n + N)) : aW G σ B pc L (.int j :: rest) ws k n := by
  intro H locs ls hP hD hS hl
  refine va_newq (D := G.D) hB.hx hB.hb hB.hown (hB.hts _ hw) hB.hE.2.2.2.2.2.2.2.1 hB.hK hP hD hS hB.hA h0 hN hby hcells hslots hd (fun q cA H1 hK1 hP1 hD1 hS1 => ?_)
  have e : cA = G.cP := by
    obtain ⟨k1, c1, h1, h2, h3, h4⟩ := (hK1.2 4 (cA, .object RX4) rfl).2
    obtain ⟨k2, c2, g1, g2, g3, g4⟩ := (hB.hK.2 3 (G.cP, .object RX4) rfl).2
    exact Option.some.inj (h4.symm.trans g4)
  subst e
  exact kk q H1 locs ls hP1 hD1 hS1 hl
-- Math
theorem a_max (hB : Bok G σ B) {x y : Int32} (hw : Cond.methodLink σ.own idx Lib.Math.max.name ∈ gw) (hd : decode σ.cc pc = .ok (.invokestatic idx, 3)) (hf : 1 ≤ B.R.frames) (hlo : (rest.map fun v => v.category).sum + 13 ≤ B.R.locals) (hk : k ≤ B.R.cells) (hn : n ≤ B.R.slots)
    (kk : aW G σ B (pc + 3) L (.int (if x < y then y else x) :: rest) ws k n) : aW G σ B pc L (.int y :: .int x :: rest) ws k n :=
  fun H locs ls hP hD hS hl => va_mmax hB.hx hB.hb (by rw [hB.hml]; exact hl.1.symm) hB.hown (hB.hts _ hw) (hB.hts _ st_max) (hB.hts _ in_Math) (hB.hts _ co_max) hf hlo hk hn hd (kk H locs ls hP hD hS hl)
theorem a_min (hB : Bok G σ B) {x y : Int32} (hw : Cond.methodLink σ.own idx Lib.Math.min.name ∈ gw) (hd : decode σ.cc pc = .ok (.invokestatic idx, 3)) (hf : 1 ≤ B.R.frames) (hlo : (rest.map fun v => v.category).sum + 13 ≤ B.R.locals) (hk : k ≤ B.R.cells) (hn : n ≤ B.R.slots)
    (kk : aW G σ B (pc + 3) L (.int (if y < x then y else x) :: rest) ws k n) : aW G σ B pc L (.int y :: .int x :: rest) ws k n :=
  fun H locs ls hP hD hS hl => va_mmin hB.hx hB.hb (by rw [hB.hml]; exact hl.1.symm) hB.hown (hB.hts _ hw) (hB.hts _ st_min) (hB.hts _ in_Math) (hB.hts _ co_min) hf hlo hk hn hd (kk H locs ls hP hD hS hl)
-- throwing
theorem throw_x {H : Heap} {locs : List Loc} {E : String} (hP : va_P G.D vwCl ws H) (hD : va_D B.A ws) (hS : va_S B.A B.s.heap H locs) (hq : Xf E ws) (hkeep : AKeep ws0 ws) : ∀ t : State, B.s.vm.Alike t.vm → H.size ≤ t.heap.size → (∀ q : Nat, q < H.size → t.heap[q]? = H[q]?) → AXc G B.A ws0 Xf E B.s t :=
  fun t _ h1 h2 => ⟨ws, hq, hkeep, hP.kept (fun i q hi => h2 _ (hP i q hi).lt), hD, Nat.le_trans hS.1 h1, fun q g1 g2 => by rw [h2 q (Nat.lt_of_lt_of_le g1 hS.1)]; exact hS.2.1 q g1 g2⟩
/-- the words of a throw of E in RareFaults, by the link ic of its constructor -/
def ThW (ik ic : Nat) (E : String) : Prop :=
  Bundle.fit E = true ∧ Cond.classLink RX9 ik E ∈ gw ∧ Cond.initialized E ∈ gw ∧ E ∈ [xIAE, xISE, xIOB] ∧ (∀ w ∈ (vx_atS RX9 ic E ["java/lang/RuntimeException", "java/lang/Exception"]).filter goodWord, w ∈ gw) ∧ (∀ w ∈ (vx_atS RX9 ic E ["java/lang/RuntimeException", "java/lang/Exception"]).filter (fun w => !goodWord w), w ∈ Cond.castable E E :: gwY.map Cond.declares) ∧ (∀ w ∈ Cond.classLink RX9 ik E :: Cond.initialized E :: vx_atS RX9 ic E ["java/lang/RuntimeException", "java/lang/Exception"], vx_ot w = true)
theorem thIAE : ThW 51 55 xIAE := ⟨by decide +kernel, cl_X9_51, in_IllegalArgumentException, by decide +kernel, fun w h => List.mem_append_left _ (List.mem_append_left _ (List.mem_append_right _ h)), by decide +kernel, by decide +kernel⟩
theorem thISE : ThW 62 66 xISE := ⟨by decide +kernel, cl_X9_62, in_IllegalStateException, by decide +kernel, fun w h => List.mem_append_left _ (List.mem_append_right _ h), by decide +kernel, by decide +kernel⟩
theorem thIOB : ThW 318 322 xIOB := ⟨by decide +kernel, cl_X9_318, in_IndexOutOfBoundsException, by decide +kernel, fun w h => List.mem_append_right _ h, by decide +kernel, by decide +kernel⟩
theorem throw_B (hB : Bok G σ B) {E : String} (w4 : E ∈ [xIAE, xISE, xIOB]) : ∀ w ∈ Cond.castable E E :: gwY.map Cond.declares, w.before B.args B.s = true := by
  intro w h
  rcases List.mem_cons.mp h with rfl | h
  · exact va_Nw.use rfl (hB.hE.2.2.1 _ w4)
  · obtain ⟨x, hx, rfl⟩ := List.mem_map.mp h
    exact va_Nw.use rfl (hB.hE.2.2.2.2.2.2.2.2.1 _ hx)
theorem a_throw (hB : Bok G σ B) (hE : BendX G B ws0 mc ms Qf Xf) (ht : ∀ x ∈ B.c.exceptionTable.toList, False) (hfl : G.l.stackTraces = false) (hown : σ.own = RX9) {ik ic is : Nat} {E text : String} (hw : ThW ik ic E) (hs : (is, text) ∈ gwS) (d0 : decode σ.cc pc = .ok (.new ik, 3)) (d3 : decode σ.cc (pc + 3) = .ok (.dup, 1)) (d4 : decode σ.cc (pc + 4) = .ok (.ldc is, 2)) (d6 : decode σ.cc (pc + 6) = .ok (.invokespecial ic, 3)) (d9 : decode σ.cc (pc + 9) = .ok (.athrow, 1))
    (hf : 5 < B.R.frames) (hlo : (rest.map fun v => v.category).sum + 82 ≤ B.R.locals) (hRc : k + 1 ≤ B.R.cells) (hRs : n + 6 ≤ B.R.slots) (hk : k + 1 ≤ mc) (hn : n + 6 ≤ ms) (hkeep : AKeep ws0 ws) (hq : Xf E ws) : aW G σ B pc L rest ws k n := by
  intro H locs ls hP hD hS hl
  obtain ⟨w1, w2, w3, w4, w5, w6, w7⟩ := hw
  obtain ⟨sa, hstr⟩ := hB.hE.2.2.2.2.1 _ hs
  rw [hE]
  exact vx_throwS (own := RX9) (names := ["java/lang/RuntimeException", "java/lang/Exception"]) (A := B.A) hB.hx hB.hb hfl (by rw [← hown]; exact hB.hown) w1 (by decide +kernel) (hB.hts _ w2) (hB.hts _ w3) hstr
    (vx_hat (B := Cond.castable E E :: gwY.map Cond.declares) (fun w h => hB.hts _ (w5 w h)) w6 (throw_B hB w4)) w7
    (vx_Zq.narrow hB.hE.2.2.2.2.2.1 hB.hAG) (vx_Zq.narrow hB.hE.2.2.2.2.2.2.1 hB.hAG) hS (by rw [hB.hml]; exact hl.1) d0 d3 d4 d6 d9 (fun x hx => (ht x hx).elim) hf hlo hRc hRs hB.hlocks (throw_x hP hD hS hq hkeep) hS.2.2 hk hn
theorem a_throwW (hB : Bok G σ B) (hE : BendX G B ws0 mc ms Qf Xf) (ht : ∀ x ∈ B.c.exceptionTable.toList, False) (hfl : G.l.stackTraces = false) (hown : σ.own = RX9) {ik ic is : Nat} {E text : String} (hw : ThW ik ic E) (hs : (is, text) ∈ gwS) (d0 : decode σ.cc pc = .ok (.new ik, 3)) (d3 : decode σ.cc (pc + 3) = .ok (.dup, 1)) (d4 : decode σ.cc (pc + 4) = .ok (.ldc_w is, 3)) (d7 : decode σ.cc (pc + 7) = .ok (.invokespecial ic, 3)) (d10 : decode σ.cc (pc + 10) = .ok (.athrow, 1))
    (hf : 5 < B.R.frames) (hlo : (rest.map fun v => v.category).sum + 82 ≤ B.R.locals) (hRc : k + 1 ≤ B.R.cells) (hRs : n + 6 ≤ B.R.slots) (hk : k + 1 ≤ mc) (hn : n + 6 ≤ ms) (hkeep : AKeep ws0 ws) (hq : Xf E ws) : aW G σ B pc L rest ws k n := by
  intro H locs ls hP hD hS hl
  obtain ⟨w1, w2, w3, w4, w5, w6, w7⟩ := hw
  obtain ⟨sa, hstr⟩ := hB.hE.2.2.2.2.1 _ hs
  rw [hE]
  exact vx_throwSW (own := RX9) (names := ["java/lang/RuntimeException", "java/lang/Exception"]) (A := B.A) hB.hx hB.hb hfl (by rw [← hown]; exact hB.hown) w1 (by decide +kernel) (hB.hts _ w2) (hB.hts _ w3) hstr
    (vx_hat (B := Cond.castable E E :: gwY.map Cond.declares) (fun w h => hB.hts _ (w5 w h)) w6 (throw_B hB w4)) w7
    (vx_Zq.narrow hB.hE.2.2.2.2.2.1 hB.hAG) (vx_Zq.narrow hB.hE.2.2.2.2.2.2.1 hB.hAG) hS (by rw [hB.hml]; exact hl.1) d0 d3 d4 d7 d10 (fun x hx => (ht x hx).elim) hf hlo hRc hRs hB.hlocks (throw_x hP hD hS hq hkeep) hS.2.2 hk hn
/-- from here on, with an E thrown at this frame -/
def aX (G : GP) (σ : MS) (B : Bd) (pc : Nat) (L : List (Nat × Value)) (rest : List Value) (ws : va_W) (k n : Nat) (E : String) : Prop :=
  ∀ (H : Heap) (locs : List Loc) (ls : Array Slot) (q : Nat) (ce : Cell), va_P G.D vwCl ws H → va_D B.A ws → va_S B.A B.s.heap H locs → lv_has ls σ.nL L → H[q]? = some ce → ce.vm = .none → B.s.vm.findClass E = some ce.cls →
    vx_W B.p G.l B.e B.R B.s B.m B.args B.below B.meth B.c H locs k n B.Q (F0 B.m pc ls rest) q
theorem aX_out (hB : Bok G σ B) (hE : BendX G B ws0 mc ms Qf Xf) (ht : ∀ x ∈ B.c.exceptionTable.toList, False) {E : String} (hk : k ≤ mc) (hn : n ≤ ms) (hkeep : AKeep ws0 ws) (hq : Xf E ws) : aX G σ B pc L rest ws k n E := by
  intro H locs ls q ce hP hD hS hl h1 h2 h3
  rw [hE]
  exact vx_out (fun x hx => (ht x hx).elim) hB.hlocks h1 h2 h3 (fun t ht9 hA => ⟨ws, hq, hkeep, by rw [ht9]; exact hP, hD, hS.F ht9⟩) hS.2.2 hk hn
theorem call_afterX (hB : Bok G σ B) {H : Heap} {locs : List Loc} {ls : Array Slot} {Xf : String → va_W → Prop} {mc ms : Nat} (hP : va_P G.D vwCl ws H) (hD : va_D B.A ws) (hS : va_S B.A B.s.heap H locs) (hl : lv_has ls σ.nL L) (ps : List Nat) (hps : ps.map (fun i => ws[i]?) = wc.map some) (hnd : va_nd ps = true)
    (hr : vx_Run B.p G.l B.e B.R B.s B.m B.args B.below B.meth B.c H locs k n mc ms (F0 B.m pc ls st) rest (AQ G (va_A wc H.size) wc Qf As.toArray) (AXc G (va_A wc H.size) wc Xf) (va_A wc H.size))
    (kx : ∀ (E : String) (ws' : va_W), Xf E ws' → AKeep wc ws' → aX G σ B pc L rest (wput ws ps ws') (k + mc) (n + ms) E)
    (kk : ∀ (v : Option Value) (ws' : va_W), Qf v ws' → AKeep wc ws' → aW G σ B (pc + 3) L (v.toList ++ rest) (wput ws ps ws') (k + mc) (n + ms)) :
    W B.p G.l B.e B.R B.s B.m B.args B.below B.meth B.c H locs k n B.Q (F0 B.m pc ls st) := by
  have hF := call_hF hB hD hS ps hps
  intro T hT X
  rcases hr T hT X with ⟨v, st₀, t, T', L9, h0, X', hL, e1, e2, ⟨⟨v2, ws', hv, hq, hkeep, hP1, hD1⟩, hz, hk⟩, go⟩ | ⟨q, st₀, t, T', L9, E, ce, h0, X', hL, e1, e2, ⟨ws', hq, hkeep, hP1, hD1, hz, hk⟩, hce, hcv, hcl, go⟩
  · cases hv
    rw [h0] at hz hk
    have hk' : ∀ q : Nat, q < H.size → ¬ va_A wc H.size q → t.heap[q]? = H[q]? := hk
    obtain ⟨hP2, hD2⟩ := wput_join hP hD ps hps hnd hk' hF hkeep hP1 hD1
    obtain ⟨t2, a1, b1⟩ := kk v ws' hq hkeep T'.heap (locs ++ L9) ls (by rw [e1]; exact hP2) hD2
      ⟨Nat.le_trans hS.1 (by rw [e1]; exact hz), fun q h1 h2 => by
        rw [e1, hk' q (Nat.lt_of_lt_of_le h1 hS.1) (fun z => h2 (hF q z))]; exact hS.2.1 q h1 h2, fun q hq => by
        rcases List.mem_append.mp hq with h | h
        · exact hS.2.2 q h
        · exact hF _ (hL q h)⟩ hl T' rfl X'
    exact ⟨t2, go t2 a1, b1⟩
  · rw [h0] at hz hk
    have hk' : ∀ q : Nat, q < H.size → ¬ va_A wc H.size q → t.heap[q]? = H[q]? := hk
    obtain ⟨hP2, hD2⟩ := wput_join hP hD ps hps hnd hk' hF hkeep hP1 hD1
    obtain ⟨t2, a1, b1⟩ := kx E ws' hq hkeep T'.heap (locs ++ L9) ls q ce (by rw [e1]; exact hP2) hD2
      ⟨Nat.le_trans hS.1 (by rw [e1]; exact hz), fun q h1 h2 => by
        rw [e1, hk' q (Nat.lt_of_lt_of_le h1 hS.1) (fun z => h2 (hF q z))]; exact hS.2.1 q h1 h2, fun q hq => by
        rcases List.mem_append.mp hq with h | h
        · exact hS.2.2 q h
        · exact hF _ (hL q h)⟩ hl (by rw [e1]; exact hce) hcv hcl T' rfl X'
    exact ⟨t2, go.trans a1, b1⟩
theorem a_callVX (hB : Bok G σ B) {a ci N q0 mc ms : Nat} {T : u_T} {fs : List Value} {Xf : String → va_W → Prop} (hM : AMX G τ mc ms (.ref a :: As) wc Qf Xf) (mk : MKv τ.y τ.cc τ.nL τ.ret C nA) (hw : Cond.methodLink σ.own idx τ.y ∈ gw) (hd : decode σ.cc pc = .ok (.invokevirtual idx, 3)) (hst : st = As.reverse ++ .ref a :: rest) (hnA : As.length = nA) (ps : List Nat) (hps : ps.map (fun i => ws[i]?) = wc.map some) (hnd : va_nd ps = true)
    (hc : vwCl[ci]? = some (C, T, N)) (he : ws[q0]? = some (a, .inr (ci, fs))) (hfit : B.fits τ k n mc ms) (hcat : (rest.map fun v => v.category).sum ≤ 8)
    (kx : ∀ (E : String) (ws' : va_W), Xf E ws' → AKeep wc ws' → aX G σ B pc L rest (wput ws ps ws') (k + mc) (n + ms) E)
    (kk : ∀ (v : Option Value) (ws' : va_W), Qf v ws' → AKeep wc ws' → aW G σ B (pc + 3) L (v.toList ++ rest) (wput ws ps ws') (k + mc) (n + ms)) : aW G σ B pc L st ws k n := by
  intro H locs ls hP hD hS hl
  obtain ⟨⟨m1, m2, m3, m4⟩, m5, m6, m7, m8⟩ := mk
  refine call_afterX (As := .ref a :: As) (k := k) (n := n) (st := st) hB hP hD hS hl ps hps hnd ?_ kx kk
  refine vx_runV (C := C) (nL := σ.nL) (n := nA) (ws := Cond.code τ.y τ.cc τ.nL τ.ret :: gw) (Ts := gw) (own := σ.own) ⟨hB.hx, hB.hb, hB.hml, hB.hown, hB.hts⟩ (hM H.size (call_b0 hB hS))
    ⟨callB_of nA hB.hts (gw_goodIn_code m5) rfl rfl rfl (hB.hts _ (m1 ▸ m6)) (hB.hts _ hw) ⟨m2, m3, m4⟩ ⟨hfit.1, hfit.2.1⟩, hB.hts _ m7, hB.hts _ m8⟩
    ⟨FrameBlind.APc, va_recv hB.hK hP hc he, call_pre hB hP hD hS ps hps hnd _⟩ rfl hnA hl.1 hst (call_rest hcat) hd ⟨hfit.2.2.1, hfit.2.2.2⟩
theorem a_callSX (hB : Bok G σ B) {mc ms : Nat} {Xf : String → va_W → Prop} (hM : AMX G τ mc ms As wc Qf Xf) (mk : MKs τ.y τ.cc τ.nL τ.ret C nA) (hw : Cond.methodLink σ.own idx τ.y ∈ gw) (hd : decode σ.cc pc = .ok (.invokestatic idx, 3)) (hst : st = As.reverse ++ rest) (hnA : As.length = nA) (ps : List Nat) (hps : ps.map (fun i => ws[i]?) = wc.map some) (hnd : va_nd ps = true)
    (hfit : B.fits τ k n mc ms) (hcat : (rest.map fun v => v.category).sum ≤ 8)
    (kx : ∀ (E : String) (ws' : va_W), Xf E ws' → AKeep wc ws' → aX G σ B pc L rest (wput ws ps ws') (k + mc) (n + ms) E)
    (kk : ∀ (v : Option Value) (ws' : va_W), Qf v ws' → AKeep wc ws' → aW G σ B (pc + 3) L (v.toList ++ rest) (wput ws ps ws') (k + mc) (n + ms)) : aW G σ B pc L st ws k n := by
  intro H locs ls hP hD hS hl
  obtain ⟨⟨m1, m2, m3, m4⟩, m5, m6, m7⟩ := mk
  refine call_afterX (As := As) (k := k) (n := n) (st := st) hB hP hD hS hl ps hps hnd ?_ kx kk
  refine vx_runS (nL := σ.nL) (n := nA) (ws := Cond.code τ.y τ.cc τ.nL τ.ret :: gw) (Ts := gw) (own := σ.own) ⟨hB.hx, hB.hb, hB.hml, hB.hown, hB.hts⟩ (hM H.size (call_b0 hB hS))
    ⟨callB_of nA hB.hts (gw_goodIn_code m5) rfl rfl rfl (hB.hts _ (m1 ▸ m6)) (hB.hts _ hw) ⟨m2, m3, m4⟩ ⟨hfit.1, hfit.2.1⟩, hB.hts _ m7⟩
    ⟨FrameBlind.APc, call_pre hB hP hD hS ps hps hnd _⟩ rfl hnA hl.1 hst (call_rest hcat) hd ⟨hfit.2.2.1, hfit.2.2.2⟩
/-- a method that can't throw here, seen as one that returns -/
theorem AM.ofX {av : List Value} (h : AMX G σ mc ms av ws Qf (fun _ _ => False)) : AM G σ mc ms av ws Qf := by
  intro sz hb
  refine MetFree.mono (h sz hb) (fun _ _ h => h) (fun _ _ _ _ _ h => h) (fun a st o t _ hq => ?_)
  rcases hq with hq | ⟨q, -, E, ce, L9, ⟨ws', hx, -⟩, -⟩
  · exact hq
  · exact hx.elim
end Ends

