/-! THE LAYER: a method's body at work over a world (a list of cells), in few words. Bd: the body's machine (p, e, R, s, m, args, below, meth, c, Q, A); GP: what is fixed for the whole claim (launch, class numbers, array classes, the first new address) -/
def Bd : Type := Program × Env × Room × State × MethodId × Array Value × List Frame × Method × Code × (State → Prop) × (Nat → Prop)
def Bd.p (B : Bd) : Program := B.1
def Bd.e (B : Bd) : Env := B.2.1
def Bd.R (B : Bd) : Room := B.2.2.1
def Bd.s (B : Bd) : State := B.2.2.2.1
def Bd.m (B : Bd) : MethodId := B.2.2.2.2.1
def Bd.args (B : Bd) : Array Value := B.2.2.2.2.2.1
def Bd.below (B : Bd) : List Frame := B.2.2.2.2.2.2.1
def Bd.meth (B : Bd) : Method := B.2.2.2.2.2.2.2.1
def Bd.c (B : Bd) : Code := B.2.2.2.2.2.2.2.2.1
def Bd.Q (B : Bd) : State → Prop := B.2.2.2.2.2.2.2.2.2.1
def Bd.A (B : Bd) : Nat → Prop := B.2.2.2.2.2.2.2.2.2.2
def GP : Type := Launch × va_G × ClassId × ClassId × ClassId × ClassId × Nat × Nat × Nat × (Nat → Int32)
def GP.l (G : GP) : Launch := G.1
def GP.D (G : GP) : va_G := G.2.1
def GP.cD (G : GP) : ClassId := G.2.2.1
def GP.cI (G : GP) : ClassId := G.2.2.2.1
def GP.cJ (G : GP) : ClassId := G.2.2.2.2.1
def GP.cP (G : GP) : ClassId := G.2.2.2.2.2.1
def GP.b0 (G : GP) : Nat := G.2.2.2.2.2.2.1
/-- the script: its address, its length, its ints -/
def GP.sb (G : GP) : Nat := G.2.2.2.2.2.2.2.1
def GP.sn (G : GP) : Nat := G.2.2.2.2.2.2.2.2.1
def GP.sx (G : GP) : Nat → Int32 := G.2.2.2.2.2.2.2.2.2
def GP.tys (G : GP) : List (ClassId × FieldType) := [(G.cD, .double), (G.cI, .int), (G.cJ, .long), (G.cP, .object RX4)]
def GP.A (G : GP) : Nat → Prop := fun q => G.b0 ≤ q
-- cells
abbrev aI (G : GP) (n : Nat) (f : Nat → Int32) : va_E := .inl (G.cI, n, .inl f)
abbrev aJ (G : GP) (n : Nat) (f : Nat → Int64) : va_E := .inl (G.cJ, n, .inr (.inl f))
abbrev aD (G : GP) (n : Nat) (f : Nat → UInt64) : va_E := .inl (G.cD, n, .inr (.inr (.inr (.inl f))))
abbrev aP (G : GP) (n : Nat) (f : Nat → Option Nat) : va_E := .inl (G.cP, n, .inr (.inr (.inr (.inr f))))
abbrev ob (ci : Nat) (fs : List Value) : va_E := .inr (ci, fs)
-- static facts of a method: name, code, locals, return type, class, level
def MS : Type := MethodName × ByteArray × Nat × Option FieldType × String × Nat
def MS.y (σ : MS) : MethodName := σ.1
def MS.cc (σ : MS) : ByteArray := σ.2.1
def MS.nL (σ : MS) : Nat := σ.2.2.1
def MS.ret (σ : MS) : Option FieldType := σ.2.2.2.1
def MS.own (σ : MS) : String := σ.2.2.2.2.1
def MS.lv (σ : MS) : Nat := σ.2.2.2.2.2
def MS.rm (σ : MS) (mc ms : Nat) : Room := { frames := σ.lv, cells := mc, slots := ms, locals := 36 * σ.lv }
-- words that the tables hold but that are carried by laws of their own
def gwN : List Cond := [.methodLinkNest RX9 11 yX4_init "RareFaults", .methodLinkNest RX4 11 yX7_init "RareFaults", .methodLinkNest RX4 23 yX5_init "RareFaults", .methodLinkNest RX9 18 yX2_init "RareFaults", .methodLinkNest RX9 25 yX8_init "RareFaults", .methodLinkNest RX9 32 yX1_init "RareFaults", .methodLinkNest RX9 39 yX3_init "RareFaults", .methodLinkNest RX9 46 yX0_init "RareFaults", .methodLinkNest RX2 24 yX4_init "RareFaults"]
def xIAE : String := "java/lang/IllegalArgumentException"
def xISE : String := "java/lang/IllegalStateException"
def xIOB : String := "java/lang/IndexOutOfBoundsException"
def gwS : List (Nat × String) := [(53, "greatest is out of range"), (64, "there are 6 parts"), (106, "all weights of the part would be 0"), (111, "the weight of this load is 0"), (131, "seed is below 0"), (145, "there would be more than 9999 samples"), (320, "there is no such part"), (323, "there is no such load"), (325, "a number is out of range")]
def gwX : List (String × String) := []
def gwY : List MethodName := [Bundle.initS "java/lang/RuntimeException", Bundle.initS "java/lang/Exception", Bundle.initS Bundle.tN]
/-- what every contract takes as given of the machine -/
def EnvOk (G : GP) (U : State) (H : Heap) : Prop :=
  va_K G.D vwCl G.tys U ∧ (∀ w ∈ gwN, va_Nw w U) ∧ (∀ E ∈ [xIAE, xISE, xIOB], va_Nw (.castable E E) U) ∧ (∀ q ∈ gwX, va_Nc q.1 q.2 U) ∧ (∀ q ∈ gwS, ∃ a : Nat, vk_R RX9 q.1 q.2 a U) ∧
  vx_Zq Bundle.tN "UNASSIGNED_STACK" Bundle.steD G.A U H ∧ vx_Zq Bundle.tN "SUPPRESSED_SENTINEL" Bundle.listD G.A U H ∧ va_AO RX4 U ∧ (∀ x ∈ gwY, va_Nw (.declares x) U) ∧ (G.sb < G.b0 ∧ va_X G.sb G.sn G.sx U H)
theorem gwN_form : ∀ w ∈ gwN, ∃ (a : String) (i : Nat) (x : MethodName) (h : String), w = .methodLinkNest a i x h := by
  intro w h
  simp only [gwN, List.mem_cons, List.not_mem_nil, or_false] at h
  rcases h with rfl | rfl | rfl | rfl | rfl | rfl | rfl | rfl | rfl <;> exact ⟨_, _, _, _, rfl⟩
theorem EnvOk.warm {G : GP} {s U : State} {H H1 : Heap} (hW : s.WarmedH U.vm) (hq : ∀ a : Nat, a < H.size → ¬ G.A a → H1[a]? = H[a]?) (h : EnvOk G s H) : EnvOk G U H1 := by
  obtain ⟨h1, h2, h3, h4, h5, h6, h7, h8, h9, h10, h11⟩ := h
  refine ⟨va_K.moved hW.alike h1, ?_, fun E hE => va_Nw.warmC hW (h3 E hE), fun q hQ => va_Nc.moved hW.alike (h4 q hQ), fun q hQ => ?_, vx_Zq.kept (vx_Zq.moved hW.alike h6) hq, vx_Zq.kept (vx_Zq.moved hW.alike h7) hq, va_AO.moved hW.alike h8, fun x hx => va_Nw.warmD hW (h9 x hx), h10, va_X.kept (va_X.moved hW.alike h11) (hq _ (Array.getElem?_eq_some_iff.mp h11.choose_spec.1).1 (Nat.not_le.mpr h10))⟩
  · intro w hw
    obtain ⟨a, i, x, h, rfl⟩ := gwN_form w hw
    exact va_Nw.warmM hW (h2 _ hw)
  · obtain ⟨a, ha⟩ := h5 q hQ
    exact ⟨a, vk_R.warm hW ha⟩
theorem EnvOk.same {G : GP} {s U : State} (hv : U.vm = s.vm) (hh : U.heap = s.heap) (h : EnvOk G s s.heap) : EnvOk G U U.heap := by
  rw [hh]
  obtain ⟨h1, h2, h3, h4, h5, h6, h7, h8, h9, h10, h11⟩ := h
  have ha : s.vm.Alike U.vm := by rw [hv]; exact Vm.Alike.refl _
  refine ⟨va_K.moved ha h1, ?_, fun E hE => va_Nw.same rfl hv.symm (h3 E hE), fun q hQ => va_Nc.moved ha (h4 q hQ), fun q hQ => ?_, vx_Zq.moved ha h6, vx_Zq.moved ha h7, va_AO.moved ha h8, fun x hx => va_Nw.same rfl hv.symm (h9 x hx), h10, va_X.moved ha h11⟩
  · intro w hw
    obtain ⟨a, i, x, h, rfl⟩ := gwN_form w hw
    exact va_Nw.same rfl hv.symm (h2 _ hw)
  · obtain ⟨a, ha⟩ := h5 q hQ
    exact ⟨a, vk_R.same hv ha⟩
/-- the body's machine is in order -/
def Bok (G : GP) (σ : MS) (B : Bd) : Prop :=
  B.p.tables.exec = Jvm.exec ∧ B.c.code = σ.cc ∧ B.c.maxLocals = σ.nL ∧ B.s.vm.findClass σ.own = some B.m.cls ∧ (∀ w ∈ gw, w.before B.args B.s = true) ∧ EnvOk G B.s B.s.heap ∧ (∀ q, B.s.heap.size ≤ q → B.A q) ∧ (∀ q, B.A q → G.A q) ∧ B.meth.locks = false ∧ B.meth.sig.returnType = σ.ret ∧ G.b0 ≤ B.s.heap.size
/-- from here on the run comes to its end with Q: the locals L, the operands st, the world ws, k cells of n slots made -/
def aW (G : GP) (σ : MS) (B : Bd) (pc : Nat) (L : List (Nat × Value)) (st : List Value) (ws : va_W) (k n : Nat) : Prop :=
  ∀ (H : Heap) (locs : List Loc) (ls : Array Slot), va_P G.D vwCl ws H → va_D B.A ws → va_S B.A B.s.heap H locs → lv_has ls σ.nL L →
    W B.p G.l B.e B.R B.s B.m B.args B.below B.meth B.c H locs k n B.Q (F0 B.m pc ls st)
-- contracts
def AKeep (ws ws' : va_W) : Prop := (ws'.map (·.1)).take ws.length = ws.map (·.1)
def AQ (G : GP) (A : Nat → Prop) (ws : va_W) (Qf : Option Value → va_W → Prop) : Array Value → State → Outcome → State → Prop := fun _ st oc t =>
  (∃ (v : Option Value) (ws' : va_W), oc = .returned v ∧ Qf v ws' ∧ AKeep ws ws' ∧ va_P G.D vwCl ws' t.heap ∧ va_D A ws') ∧ va_F A st t
def AXc (G : GP) (A : Nat → Prop) (ws : va_W) (Xf : String → va_W → Prop) : String → State → State → Prop := fun E st t =>
  ∃ ws' : va_W, Xf E ws' ∧ AKeep ws ws' ∧ va_P G.D vwCl ws' t.heap ∧ va_D A ws' ∧ va_F A st t
def APc (G : GP) (sz : Nat) (av : List Value) (ws : va_W) : Array Value → State → Prop := va_Pc av (fun U => U.heap.size = sz ∧ va_P G.D vwCl ws U.heap ∧ EnvOk G U U.heap ∧ va_D G.A ws)
/-- a method that returns: from the arguments av and the world ws, with Qf of its answer and its world; it makes at most mc cells of ms slots -/
def AM (G : GP) (σ : MS) (mc ms : Nat) (av : List Value) (ws : va_W) (Qf : Option Value → va_W → Prop) : Prop :=
  ∀ sz, G.b0 ≤ sz → Met G.l σ.y (Cond.code σ.y σ.cc σ.nL σ.ret :: gw) (σ.rm mc ms) (APc G sz av ws) (AQ G (va_A ws sz) ws Qf) mc ms (va_A ws sz)
/-- .. or throws, with Xf of the class and the world -/
def AMX (G : GP) (σ : MS) (mc ms : Nat) (av : List Value) (ws : va_W) (Qf : Option Value → va_W → Prop) (Xf : String → va_W → Prop) : Prop :=
  ∀ sz, G.b0 ≤ sz → vx_Met G.l σ.y (Cond.code σ.y σ.cc σ.nL σ.ret :: gw) (σ.rm mc ms) (APc G sz av ws) (AQ G (va_A ws sz) ws Qf) (AXc G (va_A ws sz) ws Xf) mc ms (va_A ws sz)
/-- it returns V and leaves the world ws' -/
abbrev AMd (G : GP) (σ : MS) (av : List Value) (ws : va_W) (V : Option Value) (ws' : va_W) : Prop := AM G σ 0 0 av ws (fun v w => v = V ∧ w = ws')
/-- what the end owes -/
def Bend (G : GP) (B : Bd) (ws0 : va_W) (mc ms : Nat) (Qf : Option Value → va_W → Prop) : Prop :=
  B.Q = MQ B.below (AQ G B.A ws0 Qf) B.args B.s mc ms B.A
def BendX (G : GP) (B : Bd) (ws0 : va_W) (mc ms : Nat) (Qf : Option Value → va_W → Prop) (Xf : String → va_W → Prop) : Prop :=
  B.Q = vx_MQ B.below (AQ G B.A ws0 Qf) (AXc G B.A ws0 Xf) B.args B.s mc ms B.A
theorem FrameBlind.APc {G : GP} {sz : Nat} {av : List Value} {ws : va_W} : FrameBlind (APc G sz av ws) := by
  intro a U g mk h
  obtain ⟨h1, h2, h3, h4, h5⟩ := h
  exact ⟨h1, h2, h3, EnvOk.same (s := U) rfl rfl h4, h5⟩
theorem gw_code {σ : MS} {s : State} {args : Array Value} (h : ∀ w ∈ (Cond.code σ.y σ.cc σ.nL σ.ret :: gw), w.before args s = true) : ∀ w ∈ gw, w.before args s = true := fun w hw => h w (List.mem_cons_of_mem _ hw)
/-- the room of a level -/
def Bd.room (B : Bd) (σ : MS) (mc ms : Nat) : Prop := σ.lv ≤ B.R.frames ∧ 36 * σ.lv ≤ B.R.locals ∧ mc ≤ B.R.cells ∧ ms ≤ B.R.slots
theorem AM.of {G : GP} {σ : MS} {mc ms : Nat} {av : List Value} {ws : va_W} {Qf : Option Value → va_W → Prop} (hp : plainName σ.y.cls = true) (hc : σ.y.cls = σ.own) (hle : (lg_sl av).length ≤ σ.nL)
    (body : ∀ B : Bd, Bok G σ B → B.room σ mc ms → Bend G B ws mc ms Qf → B.meth.name = σ.y.name → aW G σ B 0 (lv_args 0 av) [] ws 0 0) : AM G σ mc ms av ws Qf := by
  intro sz hb0
  refine Met.ofW (cc := σ.cc) (maxL := σ.nL) (ret := σ.ret) hp rfl ?_
  intro p e s m args below meth c s₁ X hml hv
  obtain ⟨rfl, hsz, hP, hE, hD0⟩ := hv
  have hts := gw_code (σ := σ) (atoms_spec (ws := Cond.code σ.y σ.cc σ.nL σ.ret :: gw) X.pre)
  have hown : s.vm.findClass σ.own = some m.cls := by rw [← hc]; exact findClass_of_methodNamed X.named
  have hD := hD0.self (sz := sz)
  have hl := lv_entry av (n := σ.nL) hle
  rw [lg_entry_eq]
  subst hsz
  exact body (p, e, σ.rm mc ms, s, m, av.toArray, below, meth, c, MQ below (AQ G (va_A ws s.heap.size) ws Qf) av.toArray s mc ms (va_A ws s.heap.size), va_A ws s.heap.size)
    ⟨X.exec, X.bytes, hml, hown, hts, hE, fun q h => Or.inr h, fun q h => by
      rcases h with ⟨k, e, h⟩ | h
      · exact hD0.2 k _ h
      · exact Nat.le_trans hb0 h, X.notSynchronized, X.returns, hb0⟩ ⟨Nat.le_refl _, Nat.le_refl _, Nat.le_refl _, Nat.le_refl _⟩ rfl (name_of_methodNamed X.named X.method).1 s.heap [] _ hP hD va_S.rf hl
theorem AMX.of {G : GP} {σ : MS} {mc ms : Nat} {av : List Value} {ws : va_W} {Qf : Option Value → va_W → Prop} {Xf : String → va_W → Prop} (hp : plainName σ.y.cls = true) (hc : σ.y.cls = σ.own) (hle : (lg_sl av).length ≤ σ.nL)
    (body : ∀ B : Bd, Bok G σ B → B.room σ mc ms → BendX G B ws mc ms Qf Xf → (∀ x ∈ B.c.exceptionTable.toList, False) → aW G σ B 0 (lv_args 0 av) [] ws 0 0) : AMX G σ mc ms av ws Qf Xf := by
  intro sz hb0
  refine vx_ofW (cc := σ.cc) (maxL := σ.nL) (ret := σ.ret) hp rfl ?_
  intro p e s m args below meth c s₁ X hml hx hv
  obtain ⟨rfl, hsz, hP, hE, hD0⟩ := hv
  have hts := gw_code (σ := σ) (atoms_spec (ws := Cond.code σ.y σ.cc σ.nL σ.ret :: gw) X.pre)
  have hown : s.vm.findClass σ.own = some m.cls := by rw [← hc]; exact findClass_of_methodNamed X.named
  have hD := hD0.self (sz := sz)
  have hl := lv_entry av (n := σ.nL) hle
  rw [lg_entry_eq]
  subst hsz
  exact body (p, e, σ.rm mc ms, s, m, av.toArray, below, meth, c, vx_MQ below (AQ G (va_A ws s.heap.size) ws Qf) (AXc G (va_A ws s.heap.size) ws Xf) av.toArray s mc ms (va_A ws s.heap.size), va_A ws s.heap.size)
    ⟨X.exec, X.bytes, hml, hown, hts, hE, fun q h => Or.inr h, fun q h => by
      rcases h with ⟨k, e, h⟩ | h
      · exact hD0.2 k _ h
      · exact Nat.le_trans hb0 h, X.notSynchronized, X.returns, hb0⟩ ⟨Nat.le_refl _, Nat.le_refl _, Nat.le_refl _, Nat.le_refl _⟩ rfl hx s.heap [] _ hP hD va_S.rf hl
-- moving among the descriptions of one point
section Pts
variable {G : GP} {σ : MS} {B : Bd} {pc k n : Nat} {L : List (Nat × Value)} {st : List Value} {ws : va_W}
/-- other locals (fewer, by places), other words for operands and world -/
theorem aW_at {L' : List (Nat × Value)} {st' : List Value} {ws' : va_W} (ks : List Nat) (hL : lv_pick L ks = L') (hs : st = st') (hw : ws = ws') (kk : aW G σ B pc L' st' ws' k n) : aW G σ B pc L st ws k n := by
  subst hs; subst hw
  exact fun H locs ls hP hD hS hl => kk H locs ls hP hD hS (lv_sub hl ks hL)
theorem aW_w {ws' : va_W} (hw : ws = ws') (kk : aW G σ B pc L st ws' k n) : aW G σ B pc L st ws k n := hw ▸ kk
theorem aW_s {st' : List Value} (hw : st = st') (kk : aW G σ B pc L st' ws k n) : aW G σ B pc L st ws k n := hw ▸ kk
theorem aW_widen {k' n' : Nat} (h1 : k ≤ k') (h2 : n ≤ n') (kk : aW G σ B pc L st ws k' n') : aW G σ B pc L st ws k n := fun H locs ls hP hD hS hl => W.widen h1 h2 (kk H locs ls hP hD hS hl)
/-- a world part, by places -/
theorem aW_sub {ws' : va_W} (is : List Nat) (hn : va_nd is = true) (hs : is.map (fun i => ws[i]?) = ws'.map some) (hs2 : is.filterMap (fun i => ws[i]?) = ws') (kk : aW G σ B pc L st ws' k n) : aW G σ B pc L st ws k n :=
  fun H locs ls hP hD hS hl => kk H locs ls (hP.sub is hs2) (hD.sub is hn hs) hS hl
end Pts

