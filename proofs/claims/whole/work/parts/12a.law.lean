/-! THE LAW'S OWN METHODS: a helper calls one method of the class and catches what it throws -/
/-- a method with an exception table that returns: from av and the world ws, with Qf of its answer and its world -/
def AMH (G : GP) (σ : MS) (hh : List (Nat × Nat × Nat × Nat)) (mc ms : Nat) (av : List Value) (ws : va_W) (Qf : Option Value → va_W → Prop) : Prop :=
  ∀ sz, G.b0 ≤ sz → Met G.l σ.y (Cond.codeWith σ.y σ.cc σ.nL σ.ret hh :: gw) (σ.rm mc ms) (APc G sz av ws) (AQ G (va_A ws sz) ws Qf) mc ms (va_A ws sz)
set_option maxHeartbeats 4000000 in
theorem AMH.of {G : GP} {σ : MS} {hh : List (Nat × Nat × Nat × Nat)} {mc ms : Nat} {av : List Value} {ws : va_W} {Qf : Option Value → va_W → Prop} (hp : plainName σ.y.cls = true) (hc : σ.y.cls = σ.own) (hle : (lg_sl av).length ≤ σ.nL)
    (body : ∀ B : Bd, Bok G σ B → B.room σ mc ms → BendX G B ws mc ms Qf (fun _ _ => False) → B.c.exceptionTable.toList = tableOf hh → aW G σ B 0 (lv_args 0 av) [] ws 0 0) : AMH G σ hh mc ms av ws Qf := by
  intro sz hb0
  have hX : vx_Met G.l σ.y (Cond.codeWith σ.y σ.cc σ.nL σ.ret hh :: gw) (σ.rm mc ms) (APc G sz av ws) (AQ G (va_A ws sz) ws Qf) (AXc G (va_A ws sz) ws (fun _ _ => False)) mc ms (va_A ws sz) := by
    refine vx_ofWH (cc := σ.cc) (maxL := σ.nL) (ret := σ.ret) (hh := hh) hp rfl ?_
    intro p e s m args below meth c s₁ X hml hv
    obtain ⟨rfl, hsz, hP, hE, hD0⟩ := hv
    have hall := atoms_spec (ws := Cond.codeWith σ.y σ.cc σ.nL σ.ret hh :: gw) X.pre
    have hts : ∀ w ∈ gw, w.before av.toArray s = true := fun w hw => hall w (List.mem_cons_of_mem _ hw)
    have htb := vx_table (x := σ.y) X (hall _ List.mem_cons_self)
    have hown : s.vm.findClass σ.own = some m.cls := by rw [← hc]; exact findClass_of_methodNamed X.named
    have hD := hD0.self (sz := sz)
    have hl := lv_entry av (n := σ.nL) hle
    rw [lg_entry_eq]
    subst hsz
    exact body (p, e, σ.rm mc ms, s, m, av.toArray, below, meth, c, vx_MQ below (AQ G (va_A ws s.heap.size) ws Qf) (AXc G (va_A ws s.heap.size) ws (fun _ _ => False)) av.toArray s mc ms (va_A ws s.heap.size), va_A ws s.heap.size)
      ⟨X.exec, X.bytes, hml, hown, hts, hE, fun q h => Or.inr h, fun q h => by
        rcases h with ⟨k, e, h⟩ | h
        · exact hD0.2 k _ h
        · exact Nat.le_trans hb0 h, X.notSynchronized, X.returns, hb0⟩ ⟨Nat.le_refl _, Nat.le_refl _, Nat.le_refl _, Nat.le_refl _⟩ rfl htb s.heap [] _ hP hD va_S.rf hl
  refine MetFree.mono hX (fun _ _ h => h) (fun _ _ _ _ _ h => h) (fun a st o t _ hq => ?_)
  rcases hq with hq | ⟨q, -, E, ce, L9, ⟨ws', hx, -⟩, -⟩
  · exact hq
  · exact hx.elim
section LawA
variable {G : GP} {σ τ : MS} {B : Bd} {pc k n mc ms idx nA : Nat} {L : List (Nat × Value)} {st rest As : List Value} {ws wc : va_W} {Qf : Option Value → va_W → Prop} {C : String}
/-- caught here, past rows that name other classes -/
theorem aX_catch (hB : Bok G σ B) {hh hp hq : List (Nat × Nat × Nat × Nat)} {x : Nat × Nat × Nat × Nat} (hT : B.c.exceptionTable.toList = tableOf hh) {E : String} (hE : E ∈ [xIAE, xISE, xIOB]) (hs : hh = hp ++ x :: hq)
    (hpass : ∀ z ∈ hp, z.2.2.2 ≠ 0 ∧ ∃ nm : String, Cond.classLink σ.own z.2.2.2 nm ∈ gw ∧ (E, nm) ∈ gwX) (hx : covers ⟨x.1, x.2.1, x.2.2.1, x.2.2.2⟩ pc = true) (h0 : x.2.2.2 ≠ 0) (hlink : Cond.classLink σ.own x.2.2.2 E ∈ gw)
    (kk : ∀ q : Nat, aW G σ B x.2.2.1 L [.ref q] ws k n) : aX G σ B pc L rest ws k n E := by
  intro H locs ls q ce hP hD hS hl h1 h2 h3
  refine vx_catch (own := σ.own) (name := E) hB.hown (tableOf hp) ⟨x.1, x.2.1, x.2.2.1, x.2.2.2⟩ (tableOf hq) ?_ ?_ hx h0 (hB.hts _ hlink) (va_Nw.use rfl (hB.hE.2.2.1 _ hE)) h1 h2 h3 (kk q H locs ls hP hD hS hl)
  · rw [hT, hs]
    simp [tableOf]
  · intro z hz
    obtain ⟨y, hy, rfl⟩ := List.mem_map.mp hz
    obtain ⟨a, nm, b, c⟩ := hpass y hy
    exact Or.inr ⟨a, nm, hB.hts _ b, hB.hE.2.2.2.1 _ c⟩
theorem gw_goodIn_codeH {y : MethodName} {cc : ByteArray} {nL : Nat} {ret : Option FieldType} {hh : List (Nat × Nat × Nat × Nat)} (h : Cond.codeWith y cc nL ret hh ∈ gw) : GoodIn gw (Cond.codeWith y cc nL ret hh :: gw) := fun w hw => by
  rcases List.mem_cons.mp hw with rfl | hw
  · exact gw_goodIn _ h
  · exact gw_goodIn w hw
theorem a_callSH (hB : Bok G σ B) {hh : List (Nat × Nat × Nat × Nat)} (hM : AMH G τ hh mc ms As wc Qf) (mk : MKx τ.y τ.cc τ.nL τ.ret hh C nA) (hw : Cond.methodLink σ.own idx τ.y ∈ gw) (hd : decode σ.cc pc = .ok (.invokestatic idx, 3)) (hst : st = As.reverse ++ rest) (hnA : As.length = nA) (ps : List Nat) (hps : ps.map (fun i => ws[i]?) = wc.map some) (hnd : va_nd ps = true)
    (hfit : B.fits τ k n mc ms) (hcat : (rest.map fun v => v.category).sum ≤ 8)
    (kk : ∀ (v : Option Value) (ws' : va_W), Qf v ws' → AKeep wc ws' → aW G σ B (pc + 3) L (v.toList ++ rest) (wput ws ps ws') (k + mc) (n + ms)) : aW G σ B pc L st ws k n := by
  intro H locs ls hP hD hS hl
  obtain ⟨⟨m1, m2, m3, m4⟩, m5, m6, m7⟩ := mk
  refine call_after (As := As) (k := k) (n := n) (st := st) hB hP hD hS hl ps hps hnd ?_ kk
  refine vx_runSW (nL := σ.nL) (n := nA) (hh := hh) (ws := Cond.codeWith τ.y τ.cc τ.nL τ.ret hh :: gw) (Ts := gw) (own := σ.own) ⟨hB.hx, hB.hb, hB.hml, hB.hown, hB.hts⟩ (hM H.size (call_b0 hB hS))
    ⟨⟨rfl, rfl, hfit.1, hfit.2.1, pay_in hB.hts (gw_goodIn_codeH m5), List.mem_cons_self⟩, hB.hts _ m5, hB.hts _ (m1 ▸ m6), ⟨m2, m3⟩, fun sig h => ?_, hB.hts _ hw, hB.hts _ m7⟩
    ⟨FrameBlind.APc, call_pre hB hP hD hS ps hps hnd _⟩ rfl hnA hl.1 hst (call_rest hcat) hd ⟨hfit.2.2.1, hfit.2.2.2⟩
  rw [h] at m4
  exact (Option.some.inj m4).symm
theorem fit_ofG {M S : Nat} (hR : B.room σ M S) (h : τ.lv + 1 ≤ σ.lv ∧ τ.nL ≤ 17) : B.fits τ 0 0 M S := by
  obtain ⟨h1, h2, h3, h4⟩ := hR
  obtain ⟨g1, g2⟩ := h
  refine ⟨by omega, ?_, by omega, by omega⟩
  have : 36 * (τ.lv + 1) ≤ 36 * σ.lv := Nat.mul_le_mul_left 36 g1
  omega
end LawA
-- a world's tail as a callee's world
theorem segL_at : ∀ (n a i : Nat), i < n → (segL a n)[i]? = some (a + i)
  | 0, a, i, h => absurd h (Nat.not_lt_zero _)
  | n + 1, a, 0, _ => rfl
  | n + 1, a, i + 1, h => by
    show (segL (a + 1) n)[i]? = _
    rw [segL_at n (a + 1) i (by omega)]
    congr 1
    omega
theorem segL_mem : ∀ {n a x : Nat}, x ∈ segL a n → a ≤ x
  | 0, a, x, h => absurd h List.not_mem_nil
  | n + 1, a, x, h => by
    rcases List.mem_cons.mp h with rfl | h
    · exact Nat.le_refl _
    · exact Nat.le_trans (Nat.le_succ a) (segL_mem h)
theorem segL_nd : ∀ (n a : Nat), va_nd (segL a n) = true
  | 0, a => rfl
  | n + 1, a => by
    show (decide (a ∉ segL (a + 1) n) && va_nd (segL (a + 1) n)) = true
    rw [segL_nd n (a + 1), Bool.and_true, decide_eq_true_eq]
    intro h
    exact absurd (segL_mem h) (by omega)
theorem seg_map : ∀ (wc w1 w3 : va_W), (segL w1.length wc.length).map (fun i => (w1 ++ (wc ++ w3))[i]?) = wc.map some
  | [], w1, w3 => rfl
  | x :: xs, w1, w3 => by
    show (w1 ++ (x :: xs ++ w3))[w1.length]? :: (segL (w1.length + 1) xs.length).map (fun i => (w1 ++ (x :: xs ++ w3))[i]?) = some x :: xs.map some
    have h := seg_map xs (w1 ++ [x]) w3
    have e1 : (w1 ++ [x]).length = w1.length + 1 := by simp
    have e2 : (w1 ++ [x]) ++ (xs ++ w3) = w1 ++ (x :: xs ++ w3) := by simp
    rw [e1, e2] at h
    rw [h]
    simp
theorem seg_tail (o : Nat × va_E) (wc : va_W) : (segL 1 wc.length).map (fun i => (o :: wc)[i]?) = wc.map some := by
  have h := seg_map wc [o] []
  simpa using h
theorem wput_tail {o : Nat × va_E} {wc w : va_W} (h : AKeep wc w) : wput (o :: wc) (segL 1 wc.length) w = o :: w := by
  have hl : wc.length ≤ w.length := by
    have h1 := congrArg List.length (show (w.map (·.1)).take wc.length = wc.map (·.1) from h)
    rw [List.length_take, List.length_map, List.length_map] at h1
    omega
  refine wput_segE (w1 := [o]) (wc := wc) (w3 := []) (wd := w.take wc.length) (ex := w.drop wc.length) (by simp) rfl (by rw [List.length_take]; omega) (List.take_append_drop _ _).symm ?_
  simp
theorem AKeep.cons {o o' : Nat × va_E} {wc w : va_W} (ho : o.1 = o'.1) (h : AKeep wc w) : AKeep (o :: wc) (o' :: w) := by
  show (o'.1 :: w.map (·.1)).take (wc.length + 1) = o.1 :: wc.map (·.1)
  rw [List.take_succ_cons, ho]
  exact congrArg _ h
theorem AKeep.rf (wc : va_W) : AKeep wc wc := by
  show (wc.map (·.1)).take wc.length = _
  exact List.take_of_length_le (by simp)
