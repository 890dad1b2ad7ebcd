section Ops
variable {G : GP} {σ : MS} {B : Bd} {pc k n : Nat} {L : List (Nat × Value)} {rest : List Value} {ws : va_W}
theorem Bok.hx (h : Bok G σ B) : B.p.tables.exec = Jvm.exec := h.1
theorem Bok.hb (h : Bok G σ B) : B.c.code = σ.cc := h.2.1
theorem Bok.hml (h : Bok G σ B) : B.c.maxLocals = σ.nL := h.2.2.1
theorem Bok.hown (h : Bok G σ B) : B.s.vm.findClass σ.own = some B.m.cls := h.2.2.2.1
theorem Bok.hts (h : Bok G σ B) : ∀ w ∈ gw, w.before B.args B.s = true := h.2.2.2.2.1
theorem Bok.hE (h : Bok G σ B) : EnvOk G B.s B.s.heap := h.2.2.2.2.2.1
theorem Bok.hK (h : Bok G σ B) : va_K G.D vwCl G.tys B.s := h.hE.1
theorem Bok.hA (h : Bok G σ B) : ∀ q, B.s.heap.size ≤ q → B.A q := h.2.2.2.2.2.2.1
theorem Bok.hAG (h : Bok G σ B) : ∀ q, B.A q → G.A q := h.2.2.2.2.2.2.2.1
theorem Bok.hlocks (h : Bok G σ B) : B.meth.locks = false := h.2.2.2.2.2.2.2.2.1
theorem Bok.hret (h : Bok G σ B) : B.meth.sig.returnType = σ.ret := h.2.2.2.2.2.2.2.2.2.1
theorem Bok.hb0 (h : Bok G σ B) : G.b0 ≤ B.s.heap.size := h.2.2.2.2.2.2.2.2.2.2
/-- the value in a place of the locals -/
def lget (L : List (Nat × Value)) (i : Nat) : Option Value := (L.find? (fun q => q.1 == i)).map (·.2)
theorem lget_mem {L : List (Nat × Value)} {i : Nat} {v : Value} (h : lget L i = some v) : (i, v) ∈ L := by
  unfold lget at h
  cases h1 : L.find? (fun q => q.1 == i) with
  | none => rw [h1] at h; cases h
  | some q =>
    rw [h1] at h
    have h2 := List.find?_some h1
    have h3 := List.mem_of_find?_eq_some h1
    obtain ⟨a, b⟩ := q
    simp only [beq_iff_eq] at h2
    subst h2
    cases h
    exact h3
theorem lget_at {ls : Array Slot} {nL : Nat} {L : List (Nat × Value)} {i : Nat} {v : Value} (h : lv_has ls nL L) (hv : lget L i = some v) : ls[i]? = some (.val v) := h.2.2 (i, v) (lget_mem hv)
/-- sorted by place -/
def lins (q : Nat × Value) : List (Nat × Value) → List (Nat × Value)
  | [] => [q]
  | a :: l => if q.1 < a.1 then q :: a :: l else a :: lins q l
theorem lins_mem {q a : Nat × Value} : ∀ {l : List (Nat × Value)}, a ∈ lins q l → a = q ∨ a ∈ l
  | [], h => by simp [lins] at h; exact Or.inl h
  | b :: l, h => by
    unfold lins at h
    split at h
    · rcases List.mem_cons.mp h with h | h
      · exact Or.inl h
      · exact Or.inr h
    · rcases List.mem_cons.mp h with h | h
      · exact Or.inr (h ▸ List.mem_cons_self)
      · rcases lins_mem h with h | h
        · exact Or.inl h
        · exact Or.inr (List.mem_cons_of_mem _ h)
def lput1 (L : List (Nat × Value)) (i : Nat) (v : Value) : List (Nat × Value) := lins (i, v) (L.filter (fun q => !(q.1 == i) && !(q.1 + 1 == i && q.2.category == 2)))
def lput2 (L : List (Nat × Value)) (i : Nat) (v : Value) : List (Nat × Value) := lins (i, v) (L.filter (fun q => !(q.1 == i) && (!(q.1 == i + 1) && !(q.1 + 1 == i && q.2.category == 2))))
theorem lput_has {ls : Array Slot} {nL : Nat} {q : Nat × Value} {L : List (Nat × Value)} (h : lv_has ls nL (q :: L)) : lv_has ls nL (lins q L) := ⟨h.1, h.2.1, fun a ha => h.2.2 a ((lins_mem ha).elim (fun e => e ▸ List.mem_cons_self) (fun e => List.mem_cons_of_mem _ e))⟩

theorem a_iconst (hB : Bok G σ B) {j : Int} {v : Int32} (hd : decode σ.cc pc = .ok (.iconst j, 1)) (hv : Int32.ofInt j = v)
    (kk : aW G σ B (pc + 1) L (.int v :: rest) ws k n) : aW G σ B pc L (rest) ws k n :=
  fun H locs ls hP hD hS hl => lv_iconst hB.hx hB.hb  hd hv (kk H locs ls hP hD hS hl)
theorem a_bipush (hB : Bok G σ B) {j : Int} {v : Int32} (hd : decode σ.cc pc = .ok (.bipush j, 2)) (hv : (Int8.ofInt j).toInt32 = v)
    (kk : aW G σ B (pc + 2) L (.int v :: rest) ws k n) : aW G σ B pc L (rest) ws k n :=
  fun H locs ls hP hD hS hl => lv_bipush hB.hx hB.hb  hd hv (kk H locs ls hP hD hS hl)
theorem a_sipush (hB : Bok G σ B) {j : Int} {v : Int32} (hd : decode σ.cc pc = .ok (.sipush j, 3)) (hv : (Int16.ofInt j).toInt32 = v)
    (kk : aW G σ B (pc + 3) L (.int v :: rest) ws k n) : aW G σ B pc L (rest) ws k n :=
  fun H locs ls hP hD hS hl => lv_sipush hB.hx hB.hb  hd hv (kk H locs ls hP hD hS hl)
theorem a_lconst (hB : Bok G σ B) {j : Fin 2} {v : Int64} (hd : decode σ.cc pc = .ok (.lconst j, 1)) (hv : Int64.ofNat (j : Nat) = v)
    (kk : aW G σ B (pc + 1) L (.long v :: rest) ws k n) : aW G σ B pc L (rest) ws k n :=
  fun H locs ls hP hD hS hl => lv_lconst hB.hx hB.hb  hd hv (kk H locs ls hP hD hS hl)
theorem a_dconst0 (hB : Bok G σ B) (hd : decode σ.cc pc = .ok (.dconst 0, 1)) 
    (kk : aW G σ B (pc + 1) L (.double FP.dconst0 :: rest) ws k n) : aW G σ B pc L (rest) ws k n :=
  fun H locs ls hP hD hS hl => lv_dconst0 hB.hx hB.hb  hd  (kk H locs ls hP hD hS hl)
theorem a_dconst1 (hB : Bok G σ B) (hd : decode σ.cc pc = .ok (.dconst 1, 1)) 
    (kk : aW G σ B (pc + 1) L (.double FP.dconst1 :: rest) ws k n) : aW G σ B pc L (rest) ws k n :=
  fun H locs ls hP hD hS hl => lv_dconst1 hB.hx hB.hb  hd  (kk H locs ls hP hD hS hl)
theorem a_iload (hB : Bok G σ B) {i : Nat} {x : Int32} (hd : decode σ.cc pc = .ok (.iload i, 2)) (hl0 : lget L i = some (.int x))
    (kk : aW G σ B (pc + 2) L (.int x :: rest) ws k n) : aW G σ B pc L (rest) ws k n :=
  fun H locs ls hP hD hS hl => lv_iload hB.hx hB.hb hd (lget_at hl hl0) (kk H locs ls hP hD hS hl)
theorem a_iload_n (hB : Bok G σ B) {j : Fin 4} {x : Int32} (hd : decode σ.cc pc = .ok (.iload_n j, 1)) (hl0 : lget L (j : Nat) = some (.int x))
    (kk : aW G σ B (pc + 1) L (.int x :: rest) ws k n) : aW G σ B pc L (rest) ws k n :=
  fun H locs ls hP hD hS hl => lv_iload_n hB.hx hB.hb hd rfl (lget_at hl hl0) (kk H locs ls hP hD hS hl)
theorem a_lload (hB : Bok G σ B) {i : Nat} {x : Int64} (hd : decode σ.cc pc = .ok (.lload i, 2)) (hl0 : lget L i = some (.long x))
    (kk : aW G σ B (pc + 2) L (.long x :: rest) ws k n) : aW G σ B pc L (rest) ws k n :=
  fun H locs ls hP hD hS hl => lv_lload hB.hx hB.hb hd (lget_at hl hl0) (kk H locs ls hP hD hS hl)
theorem a_lload_n (hB : Bok G σ B) {j : Fin 4} {x : Int64} (hd : decode σ.cc pc = .ok (.lload_n j, 1)) (hl0 : lget L (j : Nat) = some (.long x))
    (kk : aW G σ B (pc + 1) L (.long x :: rest) ws k n) : aW G σ B pc L (rest) ws k n :=
  fun H locs ls hP hD hS hl => lv_lload_n hB.hx hB.hb hd rfl (lget_at hl hl0) (kk H locs ls hP hD hS hl)
theorem a_dload (hB : Bok G σ B) {i : Nat} {x : UInt64} (hd : decode σ.cc pc = .ok (.dload i, 2)) (hl0 : lget L i = some (.double x))
    (kk : aW G σ B (pc + 2) L (.double x :: rest) ws k n) : aW G σ B pc L (rest) ws k n :=
  fun H locs ls hP hD hS hl => lv_dload hB.hx hB.hb hd (lget_at hl hl0) (kk H locs ls hP hD hS hl)
theorem a_dload_n (hB : Bok G σ B) {j : Fin 4} {x : UInt64} (hd : decode σ.cc pc = .ok (.dload_n j, 1)) (hl0 : lget L (j : Nat) = some (.double x))
    (kk : aW G σ B (pc + 1) L (.double x :: rest) ws k n) : aW G σ B pc L (rest) ws k n :=
  fun H locs ls hP hD hS hl => lv_dload_n hB.hx hB.hb hd rfl (lget_at hl hl0) (kk H locs ls hP hD hS hl)
theorem a_aload (hB : Bok G σ B) {i : Nat} {x : Nat} (hd : decode σ.cc pc = .ok (.aload i, 2)) (hl0 : lget L i = some (.ref x))
    (kk : aW G σ B (pc + 2) L (.ref x :: rest) ws k n) : aW G σ B pc L (rest) ws k n :=
  fun H locs ls hP hD hS hl => lv_aload hB.hx hB.hb hd (lget_at hl hl0) (kk H locs ls hP hD hS hl)
theorem a_aload_n (hB : Bok G σ B) {j : Fin 4} {x : Nat} (hd : decode σ.cc pc = .ok (.aload_n j, 1)) (hl0 : lget L (j : Nat) = some (.ref x))
    (kk : aW G σ B (pc + 1) L (.ref x :: rest) ws k n) : aW G σ B pc L (rest) ws k n :=
  fun H locs ls hP hD hS hl => lv_aload_n hB.hx hB.hb hd rfl (lget_at hl hl0) (kk H locs ls hP hD hS hl)
theorem a_aload_N (hB : Bok G σ B) {i : Nat} (hd : decode σ.cc pc = .ok (.aload i, 2)) (hl0 : lget L i = some .null)
    (kk : aW G σ B (pc + 2) L (.null :: rest) ws k n) : aW G σ B pc L (rest) ws k n :=
  fun H locs ls hP hD hS hl => lv_aloadN hB.hx hB.hb hd (lget_at hl hl0) (kk H locs ls hP hD hS hl)
theorem a_aload_nN (hB : Bok G σ B) {j : Fin 4} (hd : decode σ.cc pc = .ok (.aload_n j, 1)) (hl0 : lget L (j : Nat) = some .null)
    (kk : aW G σ B (pc + 1) L (.null :: rest) ws k n) : aW G σ B pc L (rest) ws k n :=
  fun H locs ls hP hD hS hl => lv_aload_nN hB.hx hB.hb hd rfl (lget_at hl hl0) (kk H locs ls hP hD hS hl)
theorem a_istore (hB : Bok G σ B) {i : Nat} {x : Int32} (hd : decode σ.cc pc = .ok (.istore i, 2)) (hn : i < σ.nL)
    (kk : aW G σ B (pc + 2) (lput1 L i (.int x)) (rest) ws k n) : aW G σ B pc L (.int x :: rest) ws k n :=
  fun H locs ls hP hD hS hl => lv_istore hB.hx hB.hb hd hl hn rfl (fun ls9 hl9 => kk H locs ls9 hP hD hS (lput_has hl9))
theorem a_istore_n (hB : Bok G σ B) {j : Fin 4} {x : Int32} (hd : decode σ.cc pc = .ok (.istore_n j, 1)) (hn : (j : Nat) < σ.nL)
    (kk : aW G σ B (pc + 1) (lput1 L (j : Nat) (.int x)) (rest) ws k n) : aW G σ B pc L (.int x :: rest) ws k n :=
  fun H locs ls hP hD hS hl => lv_istore_n hB.hx hB.hb hd rfl hl hn rfl (fun ls9 hl9 => kk H locs ls9 hP hD hS (lput_has hl9))
theorem a_lstore (hB : Bok G σ B) {i : Nat} {x : Int64} (hd : decode σ.cc pc = .ok (.lstore i, 2)) (hn : i + 1 < σ.nL)
    (kk : aW G σ B (pc + 2) (lput2 L i (.long x)) (rest) ws k n) : aW G σ B pc L (.long x :: rest) ws k n :=
  fun H locs ls hP hD hS hl => lv_lstore hB.hx hB.hb hd hl hn rfl (fun ls9 hl9 => kk H locs ls9 hP hD hS (lput_has hl9))
theorem a_lstore_n (hB : Bok G σ B) {j : Fin 4} {x : Int64} (hd : decode σ.cc pc = .ok (.lstore_n j, 1)) (hn : (j : Nat) + 1 < σ.nL)
    (kk : aW G σ B (pc + 1) (lput2 L (j : Nat) (.long x)) (rest) ws k n) : aW G σ B pc L (.long x :: rest) ws k n :=
  fun H locs ls hP hD hS hl => lv_lstore_n hB.hx hB.hb hd rfl hl hn rfl (fun ls9 hl9 => kk H locs ls9 hP hD hS (lput_has hl9))
theorem a_dstore (hB : Bok G σ B) {i : Nat} {x : UInt64} (hd : decode σ.cc pc = .ok (.dstore i, 2)) (hn : i + 1 < σ.nL)
    (kk : aW G σ B (pc + 2) (lput2 L i (.double x)) (rest) ws k n) : aW G σ B pc L (.double x :: rest) ws k n :=
  fun H locs ls hP hD hS hl => lv_dstore hB.hx hB.hb hd hl hn rfl (fun ls9 hl9 => kk H locs ls9 hP hD hS (lput_has hl9))
theorem a_dstore_n (hB : Bok G σ B) {j : Fin 4} {x : UInt64} (hd : decode σ.cc pc = .ok (.dstore_n j, 1)) (hn : (j : Nat) + 1 < σ.nL)
    (kk : aW G σ B (pc + 1) (lput2 L (j : Nat) (.double x)) (rest) ws k n) : aW G σ B pc L (.double x :: rest) ws k n :=
  fun H locs ls hP hD hS hl => lv_dstore_n hB.hx hB.hb hd rfl hl hn rfl (fun ls9 hl9 => kk H locs ls9 hP hD hS (lput_has hl9))
theorem a_astore (hB : Bok G σ B) {i : Nat} {x : Nat} (hd : decode σ.cc pc = .ok (.astore i, 2)) (hn : i < σ.nL)
    (kk : aW G σ B (pc + 2) (lput1 L i (.ref x)) (rest) ws k n) : aW G σ B pc L (.ref x :: rest) ws k n :=
  fun H locs ls hP hD hS hl => lv_astore hB.hx hB.hb hd hl hn rfl (fun ls9 hl9 => kk H locs ls9 hP hD hS (lput_has hl9))
theorem a_astore_n (hB : Bok G σ B) {j : Fin 4} {x : Nat} (hd : decode σ.cc pc = .ok (.astore_n j, 1)) (hn : (j : Nat) < σ.nL)
    (kk : aW G σ B (pc + 1) (lput1 L (j : Nat) (.ref x)) (rest) ws k n) : aW G σ B pc L (.ref x :: rest) ws k n :=
  fun H locs ls hP hD hS hl => lv_astore_n hB.hx hB.hb hd rfl hl hn rfl (fun ls9 hl9 => kk H locs ls9 hP hD hS (lput_has hl9))
theorem a_astore_nN (hB : Bok G σ B) {j : Fin 4} (hd : decode σ.cc pc = .ok (.astore_n j, 1)) (hn : (j : Nat) < σ.nL)
    (kk : aW G σ B (pc + 1) (lput1 L (j : Nat) .null) (rest) ws k n) : aW G σ B pc L (.null :: rest) ws k n :=
  fun H locs ls hP hD hS hl => lv_astore_nN hB.hx hB.hb hd rfl hl hn rfl (fun ls9 hl9 => kk H locs ls9 hP hD hS (lput_has hl9))
theorem a_iinc (hB : Bok G σ B) {i : Nat} {j : Int} {x v : Int32} (hd : decode σ.cc pc = .ok (.iinc i j, 3)) (hl0 : lget L i = some (.int x)) (hv : Int32.ofInt j = v) (hn : i < σ.nL)
    (kk : aW G σ B (pc + 3) (lput1 L i (.int (x + v))) (rest) ws k n) : aW G σ B pc L (rest) ws k n :=
  fun H locs ls hP hD hS hl => by
    obtain ⟨k9, hk9⟩ := List.mem_iff_getElem?.mp (lget_mem hl0)
    exact lv_iinc hB.hx hB.hb hd hl hk9 (by rw [hv]) hn rfl (fun ls9 hl9 => kk H locs ls9 hP hD hS (lput_has hl9))
theorem a_iadd (hB : Bok G σ B) {x y : Int32} (hd : decode σ.cc pc = .ok (.iadd, 1)) 
    (kk : aW G σ B (pc + 1) L (.int (x + y) :: rest) ws k n) : aW G σ B pc L (.int y :: .int x :: rest) ws k n :=
  fun H locs ls hP hD hS hl => lv_iadd hB.hx hB.hb  hd  (kk H locs ls hP hD hS hl)
theorem a_isub (hB : Bok G σ B) {x y : Int32} (hd : decode σ.cc pc = .ok (.isub, 1)) 
    (kk : aW G σ B (pc + 1) L (.int (x - y) :: rest) ws k n) : aW G σ B pc L (.int y :: .int x :: rest) ws k n :=
  fun H locs ls hP hD hS hl => lv_isub hB.hx hB.hb  hd  (kk H locs ls hP hD hS hl)
theorem a_imul (hB : Bok G σ B) {x y : Int32} (hd : decode σ.cc pc = .ok (.imul, 1)) 
    (kk : aW G σ B (pc + 1) L (.int (x * y) :: rest) ws k n) : aW G σ B pc L (.int y :: .int x :: rest) ws k n :=
  fun H locs ls hP hD hS hl => lv_imul hB.hx hB.hb  hd  (kk H locs ls hP hD hS hl)
theorem a_iand (hB : Bok G σ B) {x y : Int32} (hd : decode σ.cc pc = .ok (.iand, 1)) 
    (kk : aW G σ B (pc + 1) L (.int (x &&& y) :: rest) ws k n) : aW G σ B pc L (.int y :: .int x :: rest) ws k n :=
  fun H locs ls hP hD hS hl => lv_iand hB.hx hB.hb  hd  (kk H locs ls hP hD hS hl)
theorem a_idiv (hB : Bok G σ B) {x y : Int32} (hd : decode σ.cc pc = .ok (.idiv, 1)) (hne : ¬ y = 0)
    (kk : aW G σ B (pc + 1) L (.int (x / y) :: rest) ws k n) : aW G σ B pc L (.int y :: .int x :: rest) ws k n :=
  fun H locs ls hP hD hS hl => lv_idiv hB.hx hB.hb  hd hne (kk H locs ls hP hD hS hl)
theorem a_irem (hB : Bok G σ B) {x y : Int32} (hd : decode σ.cc pc = .ok (.irem, 1)) (hne : ¬ y = 0)
    (kk : aW G σ B (pc + 1) L (.int (x - x / y * y) :: rest) ws k n) : aW G σ B pc L (.int y :: .int x :: rest) ws k n :=
  fun H locs ls hP hD hS hl => lv_irem hB.hx hB.hb  hd hne (kk H locs ls hP hD hS hl)
theorem a_ladd (hB : Bok G σ B) {x y : Int64} (hd : decode σ.cc pc = .ok (.ladd, 1)) 
    (kk : aW G σ B (pc + 1) L (.long (x + y) :: rest) ws k n) : aW G σ B pc L (.long y :: .long x :: rest) ws k n :=
  fun H locs ls hP hD hS hl => lv_ladd hB.hx hB.hb  hd  (kk H locs ls hP hD hS hl)
theorem a_lmul (hB : Bok G σ B) {x y : Int64} (hd : decode σ.cc pc = .ok (.lmul, 1)) 
    (kk : aW G σ B (pc + 1) L (.long (x * y) :: rest) ws k n) : aW G σ B pc L (.long y :: .long x :: rest) ws k n :=
  fun H locs ls hP hD hS hl => lv_lmul hB.hx hB.hb  hd  (kk H locs ls hP hD hS hl)
theorem a_lor (hB : Bok G σ B) {x y : Int64} (hd : decode σ.cc pc = .ok (.lor, 1)) 
    (kk : aW G σ B (pc + 1) L (.long (x ||| y) :: rest) ws k n) : aW G σ B pc L (.long y :: .long x :: rest) ws k n :=
  fun H locs ls hP hD hS hl => lv_lor hB.hx hB.hb  hd  (kk H locs ls hP hD hS hl)
theorem a_lrem (hB : Bok G σ B) {x y : Int64} (hd : decode σ.cc pc = .ok (.lrem, 1)) (hne : ¬ y = 0)
    (kk : aW G σ B (pc + 1) L (.long (x - x / y * y) :: rest) ws k n) : aW G σ B pc L (.long y :: .long x :: rest) ws k n :=
  fun H locs ls hP hD hS hl => lv_lrem hB.hx hB.hb  hd hne (kk H locs ls hP hD hS hl)
theorem a_lshl (hB : Bok G σ B) {x v : Int64} {y : Int32} (hd : decode σ.cc pc = .ok (.lshl, 1)) (hv : x <<< (y.toInt64 &&& 63) = v)
    (kk : aW G σ B (pc + 1) L (.long v :: rest) ws k n) : aW G σ B pc L (.int y :: .long x :: rest) ws k n :=
  fun H locs ls hP hD hS hl => lv_lshl hB.hx hB.hb  hd hv (kk H locs ls hP hD hS hl)
theorem a_l2i (hB : Bok G σ B) {x : Int64} (hd : decode σ.cc pc = .ok (.l2i, 1)) 
    (kk : aW G σ B (pc + 1) L (.int (x.toInt32) :: rest) ws k n) : aW G σ B pc L (.long x :: rest) ws k n :=
  fun H locs ls hP hD hS hl => lv_l2i hB.hx hB.hb  hd rfl (kk H locs ls hP hD hS hl)
theorem a_i2l (hB : Bok G σ B) {x : Int32} (hd : decode σ.cc pc = .ok (.i2l, 1)) 
    (kk : aW G σ B (pc + 1) L (.long (x.toInt64) :: rest) ws k n) : aW G σ B pc L (.int x :: rest) ws k n :=
  fun H locs ls hP hD hS hl => lv_i2l hB.hx hB.hb  hd rfl (kk H locs ls hP hD hS hl)
theorem a_l2d (hB : Bok G σ B) {x : Int64} (hd : decode σ.cc pc = .ok (.l2d, 1)) 
    (kk : aW G σ B (pc + 1) L (.double (FP.l2d x) :: rest) ws k n) : aW G σ B pc L (.long x :: rest) ws k n :=
  fun H locs ls hP hD hS hl => lv_l2d hB.hx hB.hb  hd  (kk H locs ls hP hD hS hl)
theorem a_i2d (hB : Bok G σ B) {x : Int32} (hd : decode σ.cc pc = .ok (.i2d, 1)) 
    (kk : aW G σ B (pc + 1) L (.double (FP.i2d x) :: rest) ws k n) : aW G σ B pc L (.int x :: rest) ws k n :=
  fun H locs ls hP hD hS hl => lv_i2d hB.hx hB.hb  hd  (kk H locs ls hP hD hS hl)
theorem a_d2l (hB : Bok G σ B) {x : UInt64} (hd : decode σ.cc pc = .ok (.d2l, 1)) 
    (kk : aW G σ B (pc + 1) L (.long (FP.d2l x) :: rest) ws k n) : aW G σ B pc L (.double x :: rest) ws k n :=
  fun H locs ls hP hD hS hl => lv_d2l hB.hx hB.hb  hd  (kk H locs ls hP hD hS hl)
theorem a_dneg (hB : Bok G σ B) {x : UInt64} (hd : decode σ.cc pc = .ok (.dneg, 1)) 
    (kk : aW G σ B (pc + 1) L (.double (FP.dneg x) :: rest) ws k n) : aW G σ B pc L (.double x :: rest) ws k n :=
  fun H locs ls hP hD hS hl => lv_dneg hB.hx hB.hb  hd  (kk H locs ls hP hD hS hl)
theorem a_dadd (hB : Bok G σ B) {x y : UInt64} (hd : decode σ.cc pc = .ok (.dadd, 1)) (hne : vf_n64 (FP.dadd x y))
    (kk : aW G σ B (pc + 1) L (.double (FP.dadd x y) :: rest) ws k n) : aW G σ B pc L (.double y :: .double x :: rest) ws k n :=
  fun H locs ls hP hD hS hl => lv_dadd hB.hx hB.hb  hd hne (kk H locs ls hP hD hS hl)
theorem a_dsub (hB : Bok G σ B) {x y : UInt64} (hd : decode σ.cc pc = .ok (.dsub, 1)) (hne : vf_n64 (FP.dsub x y))
    (kk : aW G σ B (pc + 1) L (.double (FP.dsub x y) :: rest) ws k n) : aW G σ B pc L (.double y :: .double x :: rest) ws k n :=
  fun H locs ls hP hD hS hl => lv_dsub hB.hx hB.hb  hd hne (kk H locs ls hP hD hS hl)
theorem a_dmul (hB : Bok G σ B) {x y : UInt64} (hd : decode σ.cc pc = .ok (.dmul, 1)) (hne : vf_n64 (FP.dmul x y))
    (kk : aW G σ B (pc + 1) L (.double (FP.dmul x y) :: rest) ws k n) : aW G σ B pc L (.double y :: .double x :: rest) ws k n :=
  fun H locs ls hP hD hS hl => lv_dmul hB.hx hB.hb  hd hne (kk H locs ls hP hD hS hl)
theorem a_ddiv (hB : Bok G σ B) {x y : UInt64} (hd : decode σ.cc pc = .ok (.ddiv, 1)) (hne : vf_n64 (FP.ddiv x y))
    (kk : aW G σ B (pc + 1) L (.double (FP.ddiv x y) :: rest) ws k n) : aW G σ B pc L (.double y :: .double x :: rest) ws k n :=
  fun H locs ls hP hD hS hl => lv_ddiv hB.hx hB.hb  hd hne (kk H locs ls hP hD hS hl)
theorem a_dcmp (hB : Bok G σ B) {x y : UInt64} {op : CmpOp} (hd : decode σ.cc pc = .ok (.dcmp op, 1)) 
    (kk : aW G σ B (pc + 1) L (.int (Op.cmpValue (FP.dcmp x y) op) :: rest) ws k n) : aW G σ B pc L (.double y :: .double x :: rest) ws k n :=
  fun H locs ls hP hD hS hl => lv_dcmp hB.hx hB.hb  hd  (kk H locs ls hP hD hS hl)
theorem a_lcmp (hB : Bok G σ B) {x y : Int64} (hd : decode σ.cc pc = .ok (.lcmp, 1))
    (kk : aW G σ B (pc + 1) L (.int (lg_cmp x y) :: rest) ws k n) : aW G σ B pc L (.long y :: .long x :: rest) ws k n :=
  fun H locs ls hP hD hS hl => W.lcmp hB.hx hB.hb hd (kk H locs ls hP hD hS hl)
theorem a_dup (hB : Bok G σ B) {va : Value} (hd : decode σ.cc pc = .ok (.dup, 1)) (hva : va.category = 1)
    (kk : aW G σ B (pc + 1) L (va :: va :: rest) ws k n) : aW G σ B pc L (va :: rest) ws k n :=
  fun H locs ls hP hD hS hl => lv_dup hB.hx hB.hb  hd hva (kk H locs ls hP hD hS hl)
theorem a_dup2_2 (hB : Bok G σ B) {va : Value} (hd : decode σ.cc pc = .ok (.dup2, 1)) (hva : va.category = 2)
    (kk : aW G σ B (pc + 1) L (va :: va :: rest) ws k n) : aW G σ B pc L (va :: rest) ws k n :=
  fun H locs ls hP hD hS hl => lv_dup2_2 hB.hx hB.hb  hd hva (kk H locs ls hP hD hS hl)
theorem a_dup2_11 (hB : Bok G σ B) {va vb : Value} (hd : decode σ.cc pc = .ok (.dup2, 1)) (hva : va.category = 1) (hvb : vb.category = 1)
    (kk : aW G σ B (pc + 1) L (va :: vb :: va :: vb :: rest) ws k n) : aW G σ B pc L (va :: vb :: rest) ws k n :=
  fun H locs ls hP hD hS hl => lv_dup2_11 hB.hx hB.hb  hd hva hvb (kk H locs ls hP hD hS hl)
theorem a_goto (hB : Bok G σ B) {off : Int} {tgt : Nat} (hd : decode σ.cc pc = .ok (.goto off, 3)) (ht : (pc : Int) + off = (tgt : Int))
    (kk : aW G σ B tgt L (rest) ws k n) : aW G σ B pc L (rest) ws k n :=
  fun H locs ls hP hD hS hl => lv_goto hB.hx hB.hb hd ht (kk H locs ls hP hD hS hl)
theorem a_if_eq (hB : Bok G σ B) {x : Int32} {off : Int} {tgt : Nat} (hd : decode σ.cc pc = .ok (.ifCond .eq off, 3)) (ht : (pc : Int) + off = (tgt : Int))
    (kt : x = 0 → aW G σ B tgt L (rest) ws k n) (kf : ¬ x = 0 → aW G σ B (pc + 3) L (rest) ws k n) : aW G σ B pc L (.int x :: rest) ws k n :=
  fun H locs ls hP hD hS hl => lv_if_eq hB.hx hB.hb hd ht (fun h => kt h H locs ls hP hD hS hl) (fun h => kf h H locs ls hP hD hS hl)
theorem a_if_eq_t (hB : Bok G σ B) {x : Int32} {off : Int} {tgt : Nat} (hd : decode σ.cc pc = .ok (.ifCond .eq off, 3)) (ht : (pc : Int) + off = (tgt : Int)) (h0 : x = 0)
    (kt : aW G σ B tgt L (rest) ws k n) : aW G σ B pc L (.int x :: rest) ws k n :=
  a_if_eq hB hd ht (fun _ => kt) (fun h => by first | exact absurd h0 h | exact absurd h h0)
theorem a_if_eq_f (hB : Bok G σ B) {x : Int32} {off : Int} {tgt : Nat} (hd : decode σ.cc pc = .ok (.ifCond .eq off, 3)) (ht : (pc : Int) + off = (tgt : Int)) (h0 : ¬ x = 0)
    (kf : aW G σ B (pc + 3) L (rest) ws k n) : aW G σ B pc L (.int x :: rest) ws k n :=
  a_if_eq hB hd ht (fun h => by first | exact absurd h0 h | exact absurd h h0) (fun _ => kf)
theorem a_if_ne (hB : Bok G σ B) {x : Int32} {off : Int} {tgt : Nat} (hd : decode σ.cc pc = .ok (.ifCond .ne off, 3)) (ht : (pc : Int) + off = (tgt : Int))
    (kt : ¬ x = 0 → aW G σ B tgt L (rest) ws k n) (kf : x = 0 → aW G σ B (pc + 3) L (rest) ws k n) : aW G σ B pc L (.int x :: rest) ws k n :=
  fun H locs ls hP hD hS hl => lv_if_ne hB.hx hB.hb hd ht (fun h => kt h H locs ls hP hD hS hl) (fun h => kf h H locs ls hP hD hS hl)
theorem a_if_ne_t (hB : Bok G σ B) {x : Int32} {off : Int} {tgt : Nat} (hd : decode σ.cc pc = .ok (.ifCond .ne off, 3)) (ht : (pc : Int) + off = (tgt : Int)) (h0 : ¬ x = 0)
    (kt : aW G σ B tgt L (rest) ws k n) : aW G σ B pc L (.int x :: rest) ws k n :=
  a_if_ne hB hd ht (fun _ => kt) (fun h => by first | exact absurd h0 h | exact absurd h h0)
theorem a_if_ne_f (hB : Bok G σ B) {x : Int32} {off : Int} {tgt : Nat} (hd : decode σ.cc pc = .ok (.ifCond .ne off, 3)) (ht : (pc : Int) + off = (tgt : Int)) (h0 : x = 0)
    (kf : aW G σ B (pc + 3) L (rest) ws k n) : aW G σ B pc L (.int x :: rest) ws k n :=
  a_if_ne hB hd ht (fun h => by first | exact absurd h0 h | exact absurd h h0) (fun _ => kf)
theorem a_if_lt (hB : Bok G σ B) {x : Int32} {off : Int} {tgt : Nat} (hd : decode σ.cc pc = .ok (.ifCond .lt off, 3)) (ht : (pc : Int) + off = (tgt : Int))
    (kt : x < 0 → aW G σ B tgt L (rest) ws k n) (kf : ¬ x < 0 → aW G σ B (pc + 3) L (rest) ws k n) : aW G σ B pc L (.int x :: rest) ws k n :=
  fun H locs ls hP hD hS hl => lv_if_lt hB.hx hB.hb hd ht (fun h => kt h H locs ls hP hD hS hl) (fun h => kf h H locs ls hP hD hS hl)
theorem a_if_lt_t (hB : Bok G σ B) {x : Int32} {off : Int} {tgt : Nat} (hd : decode σ.cc pc = .ok (.ifCond .lt off, 3)) (ht : (pc : Int) + off = (tgt : Int)) (h0 : x < 0)
    (kt : aW G σ B tgt L (rest) ws k n) : aW G σ B pc L (.int x :: rest) ws k n :=
  a_if_lt hB hd ht (fun _ => kt) (fun h => by first | exact absurd h0 h | exact absurd h h0)
theorem a_if_lt_f (hB : Bok G σ B) {x : Int32} {off : Int} {tgt : Nat} (hd : decode σ.cc pc = .ok (.ifCond .lt off, 3)) (ht : (pc : Int) + off = (tgt : Int)) (h0 : ¬ x < 0)
    (kf : aW G σ B (pc + 3) L (rest) ws k n) : aW G σ B pc L (.int x :: rest) ws k n :=
  a_if_lt hB hd ht (fun h => by first | exact absurd h0 h | exact absurd h h0) (fun _ => kf)
theorem a_if_ge (hB : Bok G σ B) {x : Int32} {off : Int} {tgt : Nat} (hd : decode σ.cc pc = .ok (.ifCond .ge off, 3)) (ht : (pc : Int) + off = (tgt : Int))
    (kt : 0 ≤ x → aW G σ B tgt L (rest) ws k n) (kf : ¬ 0 ≤ x → aW G σ B (pc + 3) L (rest) ws k n) : aW G σ B pc L (.int x :: rest) ws k n :=
  fun H locs ls hP hD hS hl => lv_if_ge hB.hx hB.hb hd ht (fun h => kt h H locs ls hP hD hS hl) (fun h => kf h H locs ls hP hD hS hl)
theorem a_if_ge_t (hB : Bok G σ B) {x : Int32} {off : Int} {tgt : Nat} (hd : decode σ.cc pc = .ok (.ifCond .ge off, 3)) (ht : (pc : Int) + off = (tgt : Int)) (h0 : 0 ≤ x)
    (kt : aW G σ B tgt L (rest) ws k n) : aW G σ B pc L (.int x :: rest) ws k n :=
  a_if_ge hB hd ht (fun _ => kt) (fun h => by first | exact absurd h0 h | exact absurd h h0)
theorem a_if_ge_f (hB : Bok G σ B) {x : Int32} {off : Int} {tgt : Nat} (hd : decode σ.cc pc = .ok (.ifCond .ge off, 3)) (ht : (pc : Int) + off = (tgt : Int)) (h0 : ¬ 0 ≤ x)
    (kf : aW G σ B (pc + 3) L (rest) ws k n) : aW G σ B pc L (.int x :: rest) ws k n :=
  a_if_ge hB hd ht (fun h => by first | exact absurd h0 h | exact absurd h h0) (fun _ => kf)
theorem a_if_gt (hB : Bok G σ B) {x : Int32} {off : Int} {tgt : Nat} (hd : decode σ.cc pc = .ok (.ifCond .gt off, 3)) (ht : (pc : Int) + off = (tgt : Int))
    (kt : 0 < x → aW G σ B tgt L (rest) ws k n) (kf : ¬ 0 < x → aW G σ B (pc + 3) L (rest) ws k n) : aW G σ B pc L (.int x :: rest) ws k n :=
  fun H locs ls hP hD hS hl => lv_if_gt hB.hx hB.hb hd ht (fun h => kt h H locs ls hP hD hS hl) (fun h => kf h H locs ls hP hD hS hl)
theorem a_if_gt_t (hB : Bok G σ B) {x : Int32} {off : Int} {tgt : Nat} (hd : decode σ.cc pc = .ok (.ifCond .gt off, 3)) (ht : (pc : Int) + off = (tgt : Int)) (h0 : 0 < x)
    (kt : aW G σ B tgt L (rest) ws k n) : aW G σ B pc L (.int x :: rest) ws k n :=
  a_if_gt hB hd ht (fun _ => kt) (fun h => by first | exact absurd h0 h | exact absurd h h0)
theorem a_if_gt_f (hB : Bok G σ B) {x : Int32} {off : Int} {tgt : Nat} (hd : decode σ.cc pc = .ok (.ifCond .gt off, 3)) (ht : (pc : Int) + off = (tgt : Int)) (h0 : ¬ 0 < x)
    (kf : aW G σ B (pc + 3) L (rest) ws k n) : aW G σ B pc L (.int x :: rest) ws k n :=
  a_if_gt hB hd ht (fun h => by first | exact absurd h0 h | exact absurd h h0) (fun _ => kf)
theorem a_if_le (hB : Bok G σ B) {x : Int32} {off : Int} {tgt : Nat} (hd : decode σ.cc pc = .ok (.ifCond .le off, 3)) (ht : (pc : Int) + off = (tgt : Int))
    (kt : x ≤ 0 → aW G σ B tgt L (rest) ws k n) (kf : ¬ x ≤ 0 → aW G σ B (pc + 3) L (rest) ws k n) : aW G σ B pc L (.int x :: rest) ws k n :=
  fun H locs ls hP hD hS hl => lv_if_le hB.hx hB.hb hd ht (fun h => kt h H locs ls hP hD hS hl) (fun h => kf h H locs ls hP hD hS hl)
theorem a_if_le_t (hB : Bok G σ B) {x : Int32} {off : Int} {tgt : Nat} (hd : decode σ.cc pc = .ok (.ifCond .le off, 3)) (ht : (pc : Int) + off = (tgt : Int)) (h0 : x ≤ 0)
    (kt : aW G σ B tgt L (rest) ws k n) : aW G σ B pc L (.int x :: rest) ws k n :=
  a_if_le hB hd ht (fun _ => kt) (fun h => by first | exact absurd h0 h | exact absurd h h0)
theorem a_if_le_f (hB : Bok G σ B) {x : Int32} {off : Int} {tgt : Nat} (hd : decode σ.cc pc = .ok (.ifCond .le off, 3)) (ht : (pc : Int) + off = (tgt : Int)) (h0 : ¬ x ≤ 0)
    (kf : aW G σ B (pc + 3) L (rest) ws k n) : aW G σ B pc L (.int x :: rest) ws k n :=
  a_if_le hB hd ht (fun h => by first | exact absurd h0 h | exact absurd h h0) (fun _ => kf)
theorem a_icmp_eq (hB : Bok G σ B) {x y : Int32} {off : Int} {tgt : Nat} (hd : decode σ.cc pc = .ok (.if_icmp .eq off, 3)) (ht : (pc : Int) + off = (tgt : Int))
    (kt : x = y → aW G σ B tgt L (rest) ws k n) (kf : ¬ x = y → aW G σ B (pc + 3) L (rest) ws k n) : aW G σ B pc L (.int y :: .int x :: rest) ws k n :=
  fun H locs ls hP hD hS hl => lv_icmp_eq hB.hx hB.hb hd ht (fun h => kt h H locs ls hP hD hS hl) (fun h => kf h H locs ls hP hD hS hl)
theorem a_icmp_eq_t (hB : Bok G σ B) {x y : Int32} {off : Int} {tgt : Nat} (hd : decode σ.cc pc = .ok (.if_icmp .eq off, 3)) (ht : (pc : Int) + off = (tgt : Int)) (h0 : x = y)
    (kt : aW G σ B tgt L (rest) ws k n) : aW G σ B pc L (.int y :: .int x :: rest) ws k n :=
  a_icmp_eq hB hd ht (fun _ => kt) (fun h => by first | exact absurd h0 h | exact absurd h h0)
theorem a_icmp_eq_f (hB : Bok G σ B) {x y : Int32} {off : Int} {tgt : Nat} (hd : decode σ.cc pc = .ok (.if_icmp .eq off, 3)) (ht : (pc : Int) + off = (tgt : Int)) (h0 : ¬ x = y)
    (kf : aW G σ B (pc + 3) L (rest) ws k n) : aW G σ B pc L (.int y :: .int x :: rest) ws k n :=
  a_icmp_eq hB hd ht (fun h => by first | exact absurd h0 h | exact absurd h h0) (fun _ => kf)
theorem a_icmp_ne (hB : Bok G σ B) {x y : Int32} {off : Int} {tgt : Nat} (hd : decode σ.cc pc = .ok (.if_icmp .ne off, 3)) (ht : (pc : Int) + off = (tgt : Int))
    (kt : ¬ x = y → aW G σ B tgt L (rest) ws k n) (kf : x = y → aW G σ B (pc + 3) L (rest) ws k n) : aW G σ B pc L (.int y :: .int x :: rest) ws k n :=
  fun H locs ls hP hD hS hl => lv_icmp_ne hB.hx hB.hb hd ht (fun h => kt h H locs ls hP hD hS hl) (fun h => kf h H locs ls hP hD hS hl)
theorem a_icmp_ne_t (hB : Bok G σ B) {x y : Int32} {off : Int} {tgt : Nat} (hd : decode σ.cc pc = .ok (.if_icmp .ne off, 3)) (ht : (pc : Int) + off = (tgt : Int)) (h0 : ¬ x = y)
    (kt : aW G σ B tgt L (rest) ws k n) : aW G σ B pc L (.int y :: .int x :: rest) ws k n :=
  a_icmp_ne hB hd ht (fun _ => kt) (fun h => by first | exact absurd h0 h | exact absurd h h0)
theorem a_icmp_ne_f (hB : Bok G σ B) {x y : Int32} {off : Int} {tgt : Nat} (hd : decode σ.cc pc = .ok (.if_icmp .ne off, 3)) (ht : (pc : Int) + off = (tgt : Int)) (h0 : x = y)
    (kf : aW G σ B (pc + 3) L (rest) ws k n) : aW G σ B pc L (.int y :: .int x :: rest) ws k n :=
  a_icmp_ne hB hd ht (fun h => by first | exact absurd h0 h | exact absurd h h0) (fun _ => kf)
theorem a_icmp_lt (hB : Bok G σ B) {x y : Int32} {off : Int} {tgt : Nat} (hd : decode σ.cc pc = .ok (.if_icmp .lt off, 3)) (ht : (pc : Int) + off = (tgt : Int))
    (kt : x < y → aW G σ B tgt L (rest) ws k n) (kf : ¬ x < y → aW G σ B (pc + 3) L (rest) ws k n) : aW G σ B pc L (.int y :: .int x :: rest) ws k n :=
  fun H locs ls hP hD hS hl => lv_icmp_lt hB.hx hB.hb hd ht (fun h => kt h H locs ls hP hD hS hl) (fun h => kf h H locs ls hP hD hS hl)
theorem a_icmp_lt_t (hB : Bok G σ B) {x y : Int32} {off : Int} {tgt : Nat} (hd : decode σ.cc pc = .ok (.if_icmp .lt off, 3)) (ht : (pc : Int) + off = (tgt : Int)) (h0 : x < y)
    (kt : aW G σ B tgt L (rest) ws k n) : aW G σ B pc L (.int y :: .int x :: rest) ws k n :=
  a_icmp_lt hB hd ht (fun _ => kt) (fun h => by first | exact absurd h0 h | exact absurd h h0)
theorem a_icmp_lt_f (hB : Bok G σ B) {x y : Int32} {off : Int} {tgt : Nat} (hd : decode σ.cc pc = .ok (.if_icmp .lt off, 3)) (ht : (pc : Int) + off = (tgt : Int)) (h0 : ¬ x < y)
    (kf : aW G σ B (pc + 3) L (rest) ws k n) : aW G σ B pc L (.int y :: .int x :: rest) ws k n :=
  a_icmp_lt hB hd ht (fun h => by first | exact absurd h0 h | exact absurd h h0) (fun _ => kf)
theorem a_icmp_ge (hB : Bok G σ B) {x y : Int32} {off : Int} {tgt : Nat} (hd : decode σ.cc pc = .ok (.if_icmp .ge off, 3)) (ht : (pc : Int) + off = (tgt : Int))
    (kt : y ≤ x → aW G σ B tgt L (rest) ws k n) (kf : ¬ y ≤ x → aW G σ B (pc + 3) L (rest) ws k n) : aW G σ B pc L (.int y :: .int x :: rest) ws k n :=
  fun H locs ls hP hD hS hl => lv_icmp_ge hB.hx hB.hb hd ht (fun h => kt h H locs ls hP hD hS hl) (fun h => kf h H locs ls hP hD hS hl)
theorem a_icmp_ge_t (hB : Bok G σ B) {x y : Int32} {off : Int} {tgt : Nat} (hd : decode σ.cc pc = .ok (.if_icmp .ge off, 3)) (ht : (pc : Int) + off = (tgt : Int)) (h0 : y ≤ x)
    (kt : aW G σ B tgt L (rest) ws k n) : aW G σ B pc L (.int y :: .int x :: rest) ws k n :=
  a_icmp_ge hB hd ht (fun _ => kt) (fun h => by first | exact absurd h0 h | exact absurd h h0)
theorem a_icmp_ge_f (hB : Bok G σ B) {x y : Int32} {off : Int} {tgt : Nat} (hd : decode σ.cc pc = .ok (.if_icmp .ge off, 3)) (ht : (pc : Int) + off = (tgt : Int)) (h0 : ¬ y ≤ x)
    (kf : aW G σ B (pc + 3) L (rest) ws k n) : aW G σ B pc L (.int y :: .int x :: rest) ws k n :=
  a_icmp_ge hB hd ht (fun h => by first | exact absurd h0 h | exact absurd h h0) (fun _ => kf)
theorem a_icmp_gt (hB : Bok G σ B) {x y : Int32} {off : Int} {tgt : Nat} (hd : decode σ.cc pc = .ok (.if_icmp .gt off, 3)) (ht : (pc : Int) + off = (tgt : Int))
    (kt : y < x → aW G σ B tgt L (rest) ws k n) (kf : ¬ y < x → aW G σ B (pc + 3) L (rest) ws k n) : aW G σ B pc L (.int y :: .int x :: rest) ws k n :=
  fun H locs ls hP hD hS hl => lv_icmp_gt hB.hx hB.hb hd ht (fun h => kt h H locs ls hP hD hS hl) (fun h => kf h H locs ls hP hD hS hl)
theorem a_icmp_gt_t (hB : Bok G σ B) {x y : Int32} {off : Int} {tgt : Nat} (hd : decode σ.cc pc = .ok (.if_icmp .gt off, 3)) (ht : (pc : Int) + off = (tgt : Int)) (h0 : y < x)
    (kt : aW G σ B tgt L (rest) ws k n) : aW G σ B pc L (.int y :: .int x :: rest) ws k n :=
  a_icmp_gt hB hd ht (fun _ => kt) (fun h => by first | exact absurd h0 h | exact absurd h h0)
theorem a_icmp_gt_f (hB : Bok G σ B) {x y : Int32} {off : Int} {tgt : Nat} (hd : decode σ.cc pc = .ok (.if_icmp .gt off, 3)) (ht : (pc : Int) + off = (tgt : Int)) (h0 : ¬ y < x)
    (kf : aW G σ B (pc + 3) L (rest) ws k n) : aW G σ B pc L (.int y :: .int x :: rest) ws k n :=
  a_icmp_gt hB hd ht (fun h => by first | exact absurd h0 h | exact absurd h h0) (fun _ => kf)
theorem a_icmp_le (hB : Bok G σ B) {x y : Int32} {off : Int} {tgt : Nat} (hd : decode σ.cc pc = .ok (.if_icmp .le off, 3)) (ht : (pc : Int) + off = (tgt : Int))
    (kt : x ≤ y → aW G σ B tgt L (rest) ws k n) (kf : ¬ x ≤ y → aW G σ B (pc + 3) L (rest) ws k n) : aW G σ B pc L (.int y :: .int x :: rest) ws k n :=
  fun H locs ls hP hD hS hl => lv_icmp_le hB.hx hB.hb hd ht (fun h => kt h H locs ls hP hD hS hl) (fun h => kf h H locs ls hP hD hS hl)
theorem a_icmp_le_t (hB : Bok G σ B) {x y : Int32} {off : Int} {tgt : Nat} (hd : decode σ.cc pc = .ok (.if_icmp .le off, 3)) (ht : (pc : Int) + off = (tgt : Int)) (h0 : x ≤ y)
    (kt : aW G σ B tgt L (rest) ws k n) : aW G σ B pc L (.int y :: .int x :: rest) ws k n :=
  a_icmp_le hB hd ht (fun _ => kt) (fun h => by first | exact absurd h0 h | exact absurd h h0)
theorem a_icmp_le_f (hB : Bok G σ B) {x y : Int32} {off : Int} {tgt : Nat} (hd : decode σ.cc pc = .ok (.if_icmp .le off, 3)) (ht : (pc : Int) + off = (tgt : Int)) (h0 : ¬ x ≤ y)
    (kf : aW G σ B (pc + 3) L (rest) ws k n) : aW G σ B pc L (.int y :: .int x :: rest) ws k n :=
  a_icmp_le hB hd ht (fun h => by first | exact absurd h0 h | exact absurd h h0) (fun _ => kf)
theorem a_ifnonnull (hB : Bok G σ B) {x : Nat} {off : Int} {tgt : Nat} (hd : decode σ.cc pc = .ok (.ifnonnull off, 3)) (ht : (pc : Int) + off = (tgt : Int))
    (kk : aW G σ B tgt L (rest) ws k n) : aW G σ B pc L (.ref x :: rest) ws k n :=
  fun H locs ls hP hD hS hl => lv_ifnonnull hB.hx hB.hb hd ht (kk H locs ls hP hD hS hl)
theorem a_ifnonnullN (hB : Bok G σ B) {off : Int} (hd : decode σ.cc pc = .ok (.ifnonnull off, 3))
    (kk : aW G σ B (pc + 3) L (rest) ws k n) : aW G σ B pc L (.null :: rest) ws k n :=
  fun H locs ls hP hD hS hl => lv_ifnonnullN hB.hx hB.hb hd (kk H locs ls hP hD hS hl)
theorem a_tableIn (hB : Bok G σ B) {dflt lo hi : Int} {offs : Array Int} {len : Nat} {x : Int32} {off : Int} {tgt : Nat} (hd : decode σ.cc pc = .ok (.tableswitch dflt lo hi offs, len)) (h1 : ¬ x.toInt < lo) (h2 : ¬ hi < x.toInt) (ho : offs[(x.toInt - lo).toNat]? = some off) (ht : (pc : Int) + off = (tgt : Int))
    (kk : aW G σ B tgt L (rest) ws k n) : aW G σ B pc L (.int x :: rest) ws k n :=
  fun H locs ls hP hD hS hl => lv_tableIn hB.hx hB.hb hd h1 h2 ho ht (kk H locs ls hP hD hS hl)
theorem a_tableOut (hB : Bok G σ B) {dflt lo hi : Int} {offs : Array Int} {len : Nat} {x : Int32} {tgt : Nat} (hd : decode σ.cc pc = .ok (.tableswitch dflt lo hi offs, len)) (h : x.toInt < lo ∨ hi < x.toInt) (ht : (pc : Int) + dflt = (tgt : Int))
    (kk : aW G σ B tgt L (rest) ws k n) : aW G σ B pc L (.int x :: rest) ws k n :=
  fun H locs ls hP hD hS hl => lv_tableOut hB.hx hB.hb hd h ht (kk H locs ls hP hD hS hl)
theorem a_ldc (hB : Bok G σ B) {index : Nat} {v : Int32} (hd : decode σ.cc pc = .ok (.ldc index, 2)) (hw : Cond.constant σ.own index v ∈ gw)
    (kk : aW G σ B (pc + 2) L (.int v :: rest) ws k n) : aW G σ B pc L (rest) ws k n :=
  fun H locs ls hP hD hS hl => lv_ldc hB.hx hB.hb hB.hown (hB.hts _ hw) hd (kk H locs ls hP hD hS hl)
theorem a_ldcw (hB : Bok G σ B) {index : Nat} {v : Int32} (hd : decode σ.cc pc = .ok (.ldc_w index, 3)) (hw : Cond.constant σ.own index v ∈ gw)
    (kk : aW G σ B (pc + 3) L (.int v :: rest) ws k n) : aW G σ B pc L (rest) ws k n :=
  fun H locs ls hP hD hS hl => lv_ldcw hB.hx hB.hb hB.hown (hB.hts _ hw) hd (kk H locs ls hP hD hS hl)
theorem a_ldc2 (hB : Bok G σ B) {index : Nat} {v : Int64} (hd : decode σ.cc pc = .ok (.ldc2_w index, 3)) (hw : Cond.constantLong σ.own index v ∈ gw)
    (kk : aW G σ B (pc + 3) L (.long v :: rest) ws k n) : aW G σ B pc L (rest) ws k n :=
  fun H locs ls hP hD hS hl => lv_ldc2 hB.hx hB.hb hB.hown (hB.hts _ hw) hd (kk H locs ls hP hD hS hl)
theorem a_ldc2d (hB : Bok G σ B) {index : Nat} {v : UInt64} (hd : decode σ.cc pc = .ok (.ldc2_w index, 3)) (hw : Cond.constantDouble σ.own index v ∈ gw)
    (kk : aW G σ B (pc + 3) L (.double v :: rest) ws k n) : aW G σ B pc L (rest) ws k n :=
  fun H locs ls hP hD hS hl => lv_ldc2d hB.hx hB.hb hB.hown (hB.hts _ hw) hd (kk H locs ls hP hD hS hl)
theorem a_get (hB : Bok G σ B) {index ci N a : Nat} {C ref : String} {T : u_T} {fs : List Value} {v : Value} (hd : decode σ.cc pc = .ok (.getfield index, 3)) (kf : Nat) (hw : Cond.fieldLink σ.own index ref (T kf).2.1 (T kf).2.2.1 ∈ gw) (hin : ∀ w ∈ u_ws C T N, w ∈ gw) (hc : vwCl[ci]? = some (C, T, N)) (hk : kf < N) (hr : (T kf).1 = ref) (q0 : Nat) (he : ws[q0]? = some (a, .inr (ci, fs))) (hv : fs[kf]? = some v)
    (kk : aW G σ B (pc + 3) L (v :: rest) ws k n) : aW G σ B pc L (.ref a :: rest) ws k n :=
  fun H locs ls hP hD hS hl => va_get (D := G.D) (ci := ci) hB.hx hB.hb hB.hts hin hB.hown hB.hK hP q0 he hc kf hk (hB.hts _ hw) (by subst hr; exact fun _ h => h) hv hd (kk H locs ls hP hD hS hl)
theorem a_put (hB : Bok G σ B) {index ci N a : Nat} {C ref : String} {T : u_T} {fs : List Value} {v : Value} {ty : FieldType} (hd : decode σ.cc pc = .ok (.putfield index, 3)) (kf : Nat) (hw : Cond.fieldLink σ.own index ref (T kf).2.1 (T kf).2.2.1 ∈ gw) (hin : ∀ w ∈ u_ws C T N, w ∈ gw) (ty0 : Nat → FieldType) (hty : ∀ k, k < N → parseFieldDescriptor (T k).2.2.1 = some (ty0 k)) (hnm : ∀ a, a < N → ∀ b, b < N → a ≠ b → (T a).2.1 ≠ (T b).2.1) (hc : vwCl[ci]? = some (C, T, N)) (hk : kf < N) (hr : (T kf).1 = ref) (hfin : (T kf).2.2.2 = false) (q0 : Nat) (he : ws[q0]? = some (a, .inr (ci, fs))) (hty1 : ty0 kf = ty) (hn : narrow ty v = v) (hfit : fits ty v = true) (hlf : kf < fs.length)
    (kk : aW G σ B (pc + 3) L (rest) (ws.set q0 (a, .inr (ci, fs.set kf v))) k n) : aW G σ B pc L (v :: .ref a :: rest) ws k n :=
  fun H locs ls hP hD hS hl => va_put (D := G.D) (ci := ci) hB.hx hB.hb hB.hts hin ty0 hty hnm hB.hown hB.hK hP hD hS q0 he hc kf hk (hB.hts _ hw) (by subst hr; exact fun _ h => h) hfin (by rw [hty kf hk, hty1]) hn hfit hlf hd (fun H1 locs1 hP1 hD1 hS1 => kk H1 locs1 ls hP1 hD1 hS1 hl)
theorem a_putF (hB : Bok G σ B) {index ci N a : Nat} {C ref : String} {T : u_T} {fs : List Value} {v : Value} {ty : FieldType} (hin2 : B.meth.name = "<init>") (hd : decode σ.cc pc = .ok (.putfield index, 3)) (kf : Nat) (hw : Cond.fieldLink σ.own index ref (T kf).2.1 (T kf).2.2.1 ∈ gw) (hin : ∀ w ∈ u_ws C T N, w ∈ gw) (ty0 : Nat → FieldType) (hty : ∀ k, k < N → parseFieldDescriptor (T k).2.2.1 = some (ty0 k)) (hnm : ∀ a, a < N → ∀ b, b < N → a ≠ b → (T a).2.1 ≠ (T b).2.1) (hc : vwCl[ci]? = some (C, T, N)) (hk : kf < N) (hr : (T kf).1 = ref) (hown : (T kf).1 = σ.own) (hfin : (T kf).2.2.2 = true) (q0 : Nat) (he : ws[q0]? = some (a, .inr (ci, fs))) (hty1 : ty0 kf = ty) (hn : narrow ty v = v) (hfit : fits ty v = true) (hlf : kf < fs.length)
    (kk : aW G σ B (pc + 3) L (rest) (ws.set q0 (a, .inr (ci, fs.set kf v))) k n) : aW G σ B pc L (v :: .ref a :: rest) ws k n :=
  fun H locs ls hP hD hS hl => va_putF (D := G.D) (ci := ci) hB.hx hB.hb hB.hts hin ty0 hty hnm hB.hown hB.hK hP hD hS q0 he hc kf hk (hB.hts _ hw) (by subst hr; exact fun _ h => h) hfin hin2 hown (by rw [hty kf hk, hty1]) hn hfit hlf hd (fun H1 locs1 hP1 hD1 hS1 => kk H1 locs1 ls hP1 hD1 hS1 hl)
theorem a_iaload (hB : Bok G σ B) {a N : Nat} {f : Nat → Int32} {i : Int32} (hd : decode σ.cc pc = .ok (.iaload, 1)) (q0 : Nat) (he : ws[q0]? = some (a, aI G N f)) (hin : vp_in i N)
    (kk : aW G σ B (pc + 1) L (.int (f i.toNatClampNeg) :: rest) ws k n) : aW G σ B pc L (.int i :: .ref a :: rest) ws k n :=
  fun H locs ls hP hD hS hl => va_iald (D := G.D) hB.hx hB.hb hB.hK hP q0 1 he rfl hin hd (kk H locs ls hP hD hS hl)
theorem a_iastore (hB : Bok G σ B) {a N : Nat} {f : Nat → Int32} {i : Int32} {x : Int32} (hd : decode σ.cc pc = .ok (.iastore, 1)) (q0 : Nat) (he : ws[q0]? = some (a, aI G N f)) (hin : vp_in i N)
    (kk : aW G σ B (pc + 1) L (rest) (ws.set q0 (a, aI G N (upd f i.toNatClampNeg x))) k n) : aW G σ B pc L (.int x :: .int i :: .ref a :: rest) ws k n :=
  fun H locs ls hP hD hS hl => va_iast (D := G.D) hB.hx hB.hb hB.hK hP hD hS q0 1 he rfl hin hd (fun H1 locs1 hP1 hD1 hS1 => kk H1 locs1 ls hP1 hD1 hS1 hl)
theorem a_laload (hB : Bok G σ B) {a N : Nat} {f : Nat → Int64} {i : Int32} (hd : decode σ.cc pc = .ok (.laload, 1)) (q0 : Nat) (he : ws[q0]? = some (a, aJ G N f)) (hin : vp_in i N)
    (kk : aW G σ B (pc + 1) L (.long (f i.toNatClampNeg) :: rest) ws k n) : aW G σ B pc L (.int i :: .ref a :: rest) ws k n :=
  fun H locs ls hP hD hS hl => va_lald (D := G.D) hB.hx hB.hb hB.hK hP q0 2 he rfl hin hd (kk H locs ls hP hD hS hl)
theorem a_lastore (hB : Bok G σ B) {a N : Nat} {f : Nat → Int64} {i : Int32} {x : Int64} (hd : decode σ.cc pc = .ok (.lastore, 1)) (q0 : Nat) (he : ws[q0]? = some (a, aJ G N f)) (hin : vp_in i N)
    (kk : aW G σ B (pc + 1) L (rest) (ws.set q0 (a, aJ G N (vp_updL f i.toNatClampNeg x))) k n) : aW G σ B pc L (.long x :: .int i :: .ref a :: rest) ws k n :=
  fun H locs ls hP hD hS hl => va_last (D := G.D) hB.hx hB.hb hB.hK hP hD hS q0 2 he rfl hin hd (fun H1 locs1 hP1 hD1 hS1 => kk H1 locs1 ls hP1 hD1 hS1 hl)
theorem a_daload (hB : Bok G σ B) {a N : Nat} {f : Nat → UInt64} {i : Int32} (hd : decode σ.cc pc = .ok (.daload, 1)) (q0 : Nat) (he : ws[q0]? = some (a, aD G N f)) (hin : vp_in i N)
    (kk : aW G σ B (pc + 1) L (.double (f i.toNatClampNeg) :: rest) ws k n) : aW G σ B pc L (.int i :: .ref a :: rest) ws k n :=
  fun H locs ls hP hD hS hl => va_dald (D := G.D) hB.hx hB.hb hB.hK hP q0 0 he rfl hin hd (kk H locs ls hP hD hS hl)
theorem a_dastore (hB : Bok G σ B) {a N : Nat} {f : Nat → UInt64} {i : Int32} {x : UInt64} (hd : decode σ.cc pc = .ok (.dastore, 1)) (q0 : Nat) (he : ws[q0]? = some (a, aD G N f)) (hin : vp_in i N)
    (kk : aW G σ B (pc + 1) L (rest) (ws.set q0 (a, aD G N (vf_upd f i.toNatClampNeg x))) k n) : aW G σ B pc L (.double x :: .int i :: .ref a :: rest) ws k n :=
  fun H locs ls hP hD hS hl => va_dast (D := G.D) hB.hx hB.hb hB.hK hP hD hS q0 0 he rfl hin hd (fun H1 locs1 hP1 hD1 hS1 => kk H1 locs1 ls hP1 hD1 hS1 hl)
theorem a_aaload (hB : Bok G σ B) {a N : Nat} {f : Nat → Option Nat} {i : Int32} (hd : decode σ.cc pc = .ok (.aaload, 1)) (q0 : Nat) (he : ws[q0]? = some (a, aP G N f)) (hin : vp_in i N)
    (kk : aW G σ B (pc + 1) L (va_rf (f i.toNatClampNeg) :: rest) ws k n) : aW G σ B pc L (.int i :: .ref a :: rest) ws k n :=
  fun H locs ls hP hD hS hl => va_aldq (D := G.D) hB.hx hB.hb hB.hK hP q0 3 he rfl hin hd (kk H locs ls hP hD hS hl)
theorem a_aastore (hB : Bok G σ B) {a N v : Nat} {f : Nat → Option Nat} {i : Int32} {vs : List Value} (hd : decode σ.cc pc = .ok (.aastore, 1)) (q0 qk : Nat) (he : ws[q0]? = some (a, aP G N f)) (hv : ws[qk]? = some (v, .inr (4, vs))) (hin : vp_in i N)
    (kk : aW G σ B (pc + 1) L (rest) (ws.set q0 (a, aP G N (va_up f i.toNatClampNeg (some v)))) k n) : aW G σ B pc L (.ref v :: .int i :: .ref a :: rest) ws k n :=
  fun H locs ls hP hD hS hl => va_astq (D := G.D) hB.hx hB.hb hB.hK hP hD hS q0 3 qk 4 (r := (RX4, TX4, 6)) he rfl hv rfl hin hd (fun H1 locs1 hP1 hD1 hS1 => kk H1 locs1 ls hP1 hD1 hS1 hl)
theorem a_alen (hB : Bok G σ B) {a : Nat} {cA : ClassId} {ty : FieldType} {x : vp_A} {v : Int32} (hd : decode σ.cc pc = .ok (.arraylength, 1)) (q0 t0 : Nat) (he : ws[q0]? = some (a, .inl (cA, x))) (ht : G.tys[t0]? = some (cA, ty)) (hv : Int32.ofNat x.1 = v)
    (kk : aW G σ B (pc + 1) L (.int v :: rest) ws k n) : aW G σ B pc L (.ref a :: rest) ws k n :=
  fun H locs ls hP hD hS hl => va_alen (D := G.D) hB.hx hB.hb hB.hK hP q0 t0 he ht hv hd (kk H locs ls hP hD hS hl)
end Ops

