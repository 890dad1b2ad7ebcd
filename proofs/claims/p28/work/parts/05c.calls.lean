/-- a callee's cells put back into their places, what is new behind -/
def wput : va_W → List Nat → va_W → va_W
  | ws, i :: is, x :: xs => wput (ws.set i x) is xs
  | ws, _, xs => ws ++ xs
theorem wput_nil (ws xs : va_W) : wput ws [] xs = ws ++ xs := by cases xs <;> rfl
theorem wput_at : ∀ (ps : List Nat) (ws ws' : va_W), ps.length ≤ ws'.length → ∀ (j : Nat) (q : Nat × va_E), (wput ws ps ws')[j]? = some q →
    (∃ i : Nat, ps[i]? = some j ∧ ws'[i]? = some q) ∨ (j ∉ ps ∧ ws[j]? = some q) ∨ (∃ i : Nat, ps.length ≤ i ∧ ws'[i]? = some q ∧ j = ws.length + (i - ps.length))
  | [], ws, ws', _, j, q, h => by
    rw [wput_nil, List.getElem?_append] at h
    by_cases hj : j < ws.length
    · rw [if_pos hj] at h
      exact Or.inr (Or.inl ⟨List.not_mem_nil, h⟩)
    · rw [if_neg hj] at h
      exact Or.inr (Or.inr ⟨j - ws.length, Nat.zero_le _, h, by show j = ws.length + (j - ws.length - 0); omega⟩)
  | p :: ps, ws, [], hl, j, q, h => absurd hl (by simp)
  | p :: ps, ws, x :: xs, hl, j, q, h => by
    have h9 : (wput (ws.set p x) ps xs)[j]? = some q := h
    rcases wput_at ps (ws.set p x) xs (by simpa using hl) j q h9 with ⟨i, h1, h2⟩ | ⟨h1, h2⟩ | ⟨i, h1, h2, h3⟩
    · exact Or.inl ⟨i + 1, by simpa using h1, by simpa using h2⟩
    · by_cases hj : j = p
      · subst hj
        rw [List.getElem?_set] at h2
        simp only [if_true] at h2
        by_cases hlt : j < ws.length
        · rw [if_pos hlt] at h2
          exact Or.inl ⟨0, rfl, by simpa using h2⟩
        · rw [if_neg hlt] at h2
          cases h2
      · rw [List.getElem?_set_ne (fun e => hj e.symm)] at h2
        exact Or.inr (Or.inl ⟨by simp [hj, h1], h2⟩)
    · refine Or.inr (Or.inr ⟨i + 1, by simp; omega, by simpa using h2, ?_⟩)
      rw [List.length_set] at h3
      simp
      omega
theorem AKeep.len {ws ws' : va_W} (h : AKeep ws ws') : ws.length ≤ ws'.length := by
  have h1 := congrArg List.length h
  simp only [List.length_take, List.length_map] at h1
  omega
theorem AKeep.at {ws ws' : va_W} (h : AKeep ws ws') {i : Nat} {p q : Nat × va_E} (h1 : ws[i]? = some p) (h2 : ws'[i]? = some q) : q.1 = p.1 := by
  have hi : i < ws.length := (List.getElem?_eq_some_iff.mp h1).1
  have h3 := congrArg (fun l => l[i]?) h
  simp only [List.getElem?_take, if_pos hi, List.getElem?_map, h1, h2, Option.map_some] at h3
  exact Option.some.inj h3
theorem AKeep.self {ws : va_W} : AKeep ws ws := by simp [AKeep, ← List.map_take]
theorem AKeep.trans {a b c : va_W} (h1 : AKeep a b) (h2 : AKeep b c) : AKeep a c := by
  have hl := h1.len
  unfold AKeep at *
  rw [← h1, ← h2, List.take_take, Nat.min_eq_left hl]
theorem AKeep.set {ws : va_W} {i a : Nat} {e e' : va_E} (h : ws[i]? = some (a, e)) : AKeep ws (ws.set i (a, e')) := by
  unfold AKeep
  rw [List.map_set]
  have h1 : (ws.map (·.1)).set i a = ws.map (·.1) := by
    apply List.ext_getElem?
    intro j
    rw [List.getElem?_set]
    by_cases hj : i = j
    · subst hj
      have h2 := List.getElem?_eq_some_iff.mp h
      simp [h2.1, h2.2]
    · rw [if_neg hj]
  show ((ws.map (·.1)).set i a).take ws.length = _
  rw [h1, List.take_of_length_le (by simp)]
theorem AKeep.app {ws xs : va_W} : AKeep ws (ws ++ xs) := by simp [AKeep, List.take_append]
theorem wput_len : ∀ (ps : List Nat) (ws ws' : va_W), ws.length ≤ (wput ws ps ws').length
  | [], ws, ws' => by rw [wput_nil]; simp
  | p :: ps, ws, [] => by show ws.length ≤ (ws ++ []).length; simp
  | p :: ps, ws, x :: xs => by
    have h := wput_len ps (ws.set p x) xs
    rw [List.length_set] at h
    exact h
theorem AKeep.wput : ∀ (ps : List Nat) (ws wc ws' : va_W), ps.map (fun i => ws[i]?) = wc.map some → AKeep wc ws' → va_nd ps = true → AKeep ws (wput ws ps ws')
  | [], ws, wc, ws', _, _, _ => by rw [wput_nil]; exact AKeep.app
  | p :: ps, ws, [], ws', h, _, _ => by simp at h
  | p :: ps, ws, w :: wc, [], h, hk, _ => by have := hk.len; simp at this
  | p :: ps, ws, w :: wc, x :: xs, h, hk, hn => by
    simp only [List.map_cons, List.cons.injEq] at h
    obtain ⟨h1, h2⟩ := h
    have hx : x.1 = w.1 := hk.at (i := 0) rfl rfl
    have hk2 : AKeep wc xs := by
      have := hk
      unfold AKeep at this ⊢
      simp only [List.map_cons, List.length_cons, List.take_succ_cons, List.cons.injEq] at this
      exact this.2
    simp only [va_nd, Bool.and_eq_true, decide_eq_true_eq] at hn
    have h3 : AKeep ws (ws.set p x) := by
      have h4 : ws[p]? = some (w.1, w.2) := h1
      have h5 := AKeep.set (e' := x.2) h4
      have e : x = (w.1, x.2) := by rw [← hx]
      rw [e]
      exact h5
    refine h3.trans (AKeep.wput ps (ws.set p x) wc xs ?_ hk2 hn.2)
    rw [← h2]
    apply List.map_congr_left
    intro i hi
    exact List.getElem?_set_ne (fun e => hn.1 (by rw [e]; exact hi))
theorem wput_join {A : Nat → Prop} {D : va_G} {cl : List vw_C} {ws wc ws' : va_W} {H H1 : Heap} (hP : va_P D cl ws H) (hD : va_D A ws) (ps : List Nat) (hps : ps.map (fun i => ws[i]?) = wc.map some) (hnd : va_nd ps = true)
    (hk : ∀ q : Nat, q < H.size → ¬ va_A wc H.size q → H1[q]? = H[q]?) (hF : ∀ q, va_A wc H.size q → A q) (hkeep : AKeep wc ws') (hP1 : va_P D cl ws' H1) (hD1 : va_D (va_A wc H.size) ws') : va_P D cl (wput ws ps ws') H1 ∧ va_D A (wput ws ps ws') := by
  have hlen : ps.length = wc.length := by simpa using congrArg List.length hps
  have hl2 := hkeep.len
  have hat : ∀ {i j : Nat}, ps[i]? = some j → ∃ w, wc[i]? = some w ∧ ws[j]? = some w := by
    intro i j h
    have h1 : (ps.map (fun i => ws[i]?))[i]? = (wc.map some)[i]? := by rw [hps]
    rw [List.getElem?_map, List.getElem?_map, h] at h1
    cases h2 : wc[i]? with
    | none => rw [h2] at h1; cases h1
    | some w => rw [h2] at h1; exact ⟨w, rfl, Option.some.inj h1⟩
  have hat2 : ∀ {i : Nat} {w : Nat × va_E}, wc[i]? = some w → ∃ j, ps[i]? = some j ∧ ws[j]? = some w := by
    intro i w h
    have h1 : (ps.map (fun i => ws[i]?))[i]? = (wc.map some)[i]? := by rw [hps]
    rw [List.getElem?_map, List.getElem?_map, h] at h1
    cases h2 : ps[i]? with
    | none => rw [h2] at h1; cases h1
    | some j => rw [h2] at h1; exact ⟨j, rfl, Option.some.inj h1⟩
  have hout : ∀ {j : Nat} {q : Nat × va_E}, j ∉ ps → ws[j]? = some q → ¬ va_A wc H.size q.1 := by
    intro j q hj hq h
    rcases h with ⟨i, e, h⟩ | h
    · obtain ⟨p, h1, h2⟩ := hat2 h
      have := hD.1 j p q _ hq h2 rfl
      subst this
      exact hj (List.mem_of_getElem? h1)
    · exact Nat.not_lt.mpr h (hP j q hq).lt
  have key := wput_at ps ws ws' (by omega)
  refine ⟨?_, ?_, ?_⟩
  · intro j q hq
    rcases key j q hq with ⟨i, h1, h2⟩ | ⟨h1, h2⟩ | ⟨i, h1, h2, h3⟩
    · exact hP1 i q h2
    · exact (hP j q h2).kept (hk q.1 (hP j q h2).lt (hout h1 h2))
    · exact hP1 i q h2
  · have c12 : ∀ {a i j : Nat} {p q : Nat × va_E}, ps[a]? = some i → ws'[a]? = some p → ws[j]? = some q → p.1 = q.1 → i = j := by
      intro a i j p q h1 h2 h3 he
      obtain ⟨w, e1, e2⟩ := hat h1
      exact hD.1 i j w q e2 h3 ((hkeep.at e1 h2).symm.trans he)
    have c13 : ∀ {a b i : Nat} {p q : Nat × va_E}, ps[a]? = some i → ws'[a]? = some p → ps.length ≤ b → ws'[b]? = some q → p.1 ≠ q.1 := by
      intro a b i p q h1 h2 h3 h4 he
      have h5 := hD1.1 a b p q h2 h4 he
      have h6 := (List.getElem?_eq_some_iff.mp h1).1
      omega
    have c23 : ∀ {j b : Nat} {p q : Nat × va_E}, j ∉ ps → ws[j]? = some p → ps.length ≤ b → ws'[b]? = some q → p.1 ≠ q.1 := by
      intro j b p q h1 h2 h3 h4 he
      have h5 := hD1.2 b q h4
      rw [← he] at h5
      exact hout h1 h2 h5
    intro i j p q hp hq he
    rcases key i p hp with ⟨a, h1, h2⟩ | ⟨h1, h2⟩ | ⟨a, h1, h2, h3⟩ <;> rcases key j q hq with ⟨b, g1, g2⟩ | ⟨g1, g2⟩ | ⟨b, g1, g2, g3⟩
    · have h5 := hD1.1 a b p q h2 g2 he
      subst h5
      exact Option.some.inj (h1.symm.trans g1)
    · exact c12 h1 h2 g2 he
    · exact absurd he (c13 h1 h2 g1 g2)
    · exact (c12 g1 g2 h2 he.symm).symm
    · exact hD.1 i j p q h2 g2 he
    · exact absurd he (c23 h1 h2 g1 g2)
    · exact absurd he.symm (c13 g1 g2 h1 h2)
    · exact absurd he.symm (c23 g1 g2 h1 h2)
    · have h5 := hD1.1 a b p q h2 g2 he
      omega
  · intro j q hq
    rcases key j q hq with ⟨i, h1, h2⟩ | ⟨h1, h2⟩ | ⟨i, h1, h2, h3⟩
    · exact hF _ (hD1.2 i q h2)
    · exact hD.2 j q h2
    · exact hF _ (hD1.2 i q h2)
theorem wput_self : ∀ (ps : List Nat) (ws wc : va_W), ps.map (fun i => ws[i]?) = wc.map some → wput ws ps wc = ws
  | [], ws, wc, h => by
    have : wc = [] := List.eq_nil_of_length_eq_zero (by simpa using (congrArg List.length h).symm)
    subst this
    rw [wput_nil, List.append_nil]
  | p :: ps, ws, [], h => by simp at h
  | p :: ps, ws, w :: wc, h => by
    simp only [List.map_cons, List.cons.injEq] at h
    obtain ⟨h1, h2⟩ := h
    have hlt : p < ws.length := (List.getElem?_eq_some_iff.mp h1).1
    have h3 : ws.set p w = ws := by
      apply List.ext_getElem?
      intro j
      rw [List.getElem?_set]
      by_cases hj : p = j
      · subst hj
        simp [hlt, (List.getElem?_eq_some_iff.mp h1).2]
      · rw [if_neg hj]
    show wput (ws.set p w) ps wc = ws
    rw [h3]
    exact wput_self ps ws wc h2
section Calls
variable {G : GP} {σ τ : MS} {B : Bd} {pc k n mc ms idx nA M S : Nat} {L : List (Nat × Value)} {st rest As : List Value} {ws wc : va_W} {Qf : Option Value → va_W → Prop} {Xf : String → va_W → Prop} {C : String}
/-- what the callee is given -/
theorem call_pre (hB : Bok G σ B) {H : Heap} {locs : List Loc} (hP : va_P G.D vwCl ws H) (hD : va_D B.A ws) (hS : va_S B.A B.s.heap H locs) (ps : List Nat) (hps : ps.map (fun i => ws[i]?) = wc.map some) (hnd : va_nd ps = true) (av : List Value) : ∀ U : State, U.heap = H → B.s.WarmedH U.vm → APc G H.size av wc av.toArray U := by
  intro U hU hW
  refine ⟨rfl, by rw [hU], ?_, ?_, ?_⟩
  · rw [hU]
    intro i q hq
    have h1 : (ps.map (fun i => ws[i]?))[i]? = (wc.map some)[i]? := by rw [hps]
    rw [List.getElem?_map, List.getElem?_map, hq] at h1
    cases h2 : ps[i]? with
    | none => rw [h2] at h1; cases h1
    | some j => rw [h2] at h1; exact hP j q (Option.some.inj h1)
  · exact EnvOk.warm hW (fun a ha hn => by rw [hU]; exact hS.2.1 a ha (fun z => hn (hB.hAG _ z))) hB.hE
  · exact (hD.sub ps hnd hps).weaken (fun _ _ _ h => hB.hAG _ h)
theorem call_hF (hB : Bok G σ B) {H : Heap} {locs : List Loc} (hD : va_D B.A ws) (hS : va_S B.A B.s.heap H locs) (ps : List Nat) (hps : ps.map (fun i => ws[i]?) = wc.map some) : ∀ q, va_A wc H.size q → B.A q := va_free hD hS hB.hA ps hps
theorem call_b0 (hB : Bok G σ B) {H : Heap} {locs : List Loc} (hS : va_S B.A B.s.heap H locs) : G.b0 ≤ H.size := Nat.le_trans hB.hb0 hS.1
/-- behind a call -/
theorem call_after (hB : Bok G σ B) {H : Heap} {locs : List Loc} {ls : Array Slot} (hP : va_P G.D vwCl ws H) (hD : va_D B.A ws) (hS : va_S B.A B.s.heap H locs) (hl : lv_has ls σ.nL L) (ps : List Nat) (hps : ps.map (fun i => ws[i]?) = wc.map some) (hnd : va_nd ps = true)
    (hr : va_Run B.p G.l B.e B.R B.s B.m B.args B.below B.meth B.c H locs k n mc ms (F0 B.m pc ls st) rest (AQ G (va_A wc H.size) wc Qf As.toArray) (va_A wc H.size))
    (kk : ∀ (v : Option Value) (ws' : va_W), Qf v ws' → AKeep wc ws' → aW G σ B (pc + 3) L (v.toList ++ rest) (wput ws ps ws') (k + mc) (n + ms)) :
    W B.p G.l B.e B.R B.s B.m B.args B.below B.meth B.c H locs k n B.Q (F0 B.m pc ls st) := by
  have hF := call_hF hB hD hS ps hps
  intro T hT X
  obtain ⟨v, st₀, t, T', L9, h0, X', hL, e1, e2, ⟨⟨v2, ws', hv, hq, hkeep, hP1, hD1⟩, hz, hk⟩, go⟩ := hr T hT X
  cases hv
  rw [h0] at hz hk
  have hk' : ∀ q : Nat, q < H.size → ¬ va_A wc H.size q → t.heap[q]? = H[q]? := hk
  obtain ⟨hP2, hD2⟩ := wput_join hP hD ps hps hnd hk' hF hkeep hP1 hD1
  obtain ⟨t2, a1, b1⟩ := kk v ws' hq hkeep T'.heap (locs ++ L9) ls (by rw [e1]; exact hP2) hD2
    ⟨Nat.le_trans hS.1 (by rw [e1]; exact hz), fun q h1 h2 => by
      rw [e1, hk' q (Nat.lt_of_lt_of_le h1 hS.1) (fun z => h2 (hF q z))]; exact hS.2.1 q h1 h2, fun q hq => by
      rcases List.mem_append.mp hq with h | h
      · exact hS.2.2 q h
      · exact hF _ (hL q h)⟩ hl T' rfl X'
  exact ⟨t2, go t2 a1, b1⟩
theorem gw_goodIn_code {y : MethodName} {cc : ByteArray} {nL : Nat} {ret : Option FieldType} (h : Cond.code y cc nL ret ∈ gw) : GoodIn gw (Cond.code y cc nL ret :: gw) := fun w hw => by
  rcases List.mem_cons.mp hw with rfl | hw
  · exact gw_goodIn _ h
  · exact gw_goodIn w hw
theorem call_rest {m : MethodId} {pc : Nat} {ls : Array Slot} {st : List Value} (h : (rest.map fun v => v.category).sum ≤ 8) : 2 * (F0 m pc ls st).monitorRoom + (rest.map fun v => v.category).sum ≤ 8 := by
  show 2 * 0 + _ ≤ 8
  omega
/-- room for a callee -/
def Bd.fits (B : Bd) (τ : MS) (k n mc ms : Nat) : Prop := τ.lv + 1 ≤ B.R.frames ∧ 8 + (τ.nL + 11) + 36 * τ.lv ≤ B.R.locals ∧ k + mc ≤ B.R.cells ∧ n + ms ≤ B.R.slots
theorem a_callV (hB : Bok G σ B) {a ci N q0 : Nat} {T : u_T} {fs : List Value} (hM : AM G τ mc ms (.ref a :: As) wc Qf) (mk : MKv τ.y τ.cc τ.nL τ.ret C nA) (hw : Cond.methodLink σ.own idx τ.y ∈ gw) (hd : decode σ.cc pc = .ok (.invokevirtual idx, 3)) (hst : st = As.reverse ++ .ref a :: rest) (hnA : As.length = nA) (ps : List Nat) (hps : ps.map (fun i => ws[i]?) = wc.map some) (hnd : va_nd ps = true)
    (hc : vwCl[ci]? = some (C, T, N)) (he : ws[q0]? = some (a, .inr (ci, fs))) (hfit : B.fits τ k n mc ms) (hcat : (rest.map fun v => v.category).sum ≤ 8)
    (kk : ∀ (v : Option Value) (ws' : va_W), Qf v ws' → AKeep wc ws' → aW G σ B (pc + 3) L (v.toList ++ rest) (wput ws ps ws') (k + mc) (n + ms)) : aW G σ B pc L st ws k n := by
  intro H locs ls hP hD hS hl
  obtain ⟨⟨m1, m2, m3, m4⟩, m5, m6, m7, m8⟩ := mk
  refine call_after (As := .ref a :: As) (k := k) (n := n) (st := st) hB hP hD hS hl ps hps hnd ?_ kk
  refine va_runV (C := C) (nL := σ.nL) (n := nA) (ws := Cond.code τ.y τ.cc τ.nL τ.ret :: gw) (Ts := gw) (own := σ.own) ⟨hB.hx, hB.hb, hB.hml, hB.hown, hB.hts⟩ (hM H.size (call_b0 hB hS))
    ⟨callB_of nA hB.hts (gw_goodIn_code m5) rfl rfl rfl (hB.hts _ (m1 ▸ m6)) (hB.hts _ hw) ⟨m2, m3, m4⟩ ⟨hfit.1, hfit.2.1⟩, hB.hts _ m7, hB.hts _ m8⟩
    ⟨FrameBlind.APc, va_recv hB.hK hP hc he, call_pre hB hP hD hS ps hps hnd _⟩ rfl hnA hl.1 hst (call_rest hcat) hd ⟨hfit.2.2.1, hfit.2.2.2⟩
theorem a_callS (hB : Bok G σ B) (hM : AM G τ mc ms As wc Qf) (mk : MKs τ.y τ.cc τ.nL τ.ret C nA) (hw : Cond.methodLink σ.own idx τ.y ∈ gw) (hd : decode σ.cc pc = .ok (.invokestatic idx, 3)) (hst : st = As.reverse ++ rest) (hnA : As.length = nA) (ps : List Nat) (hps : ps.map (fun i => ws[i]?) = wc.map some) (hnd : va_nd ps = true)
    (hfit : B.fits τ k n mc ms) (hcat : (rest.map fun v => v.category).sum ≤ 8)
    (kk : ∀ (v : Option Value) (ws' : va_W), Qf v ws' → AKeep wc ws' → aW G σ B (pc + 3) L (v.toList ++ rest) (wput ws ps ws') (k + mc) (n + ms)) : aW G σ B pc L st ws k n := by
  intro H locs ls hP hD hS hl
  obtain ⟨⟨m1, m2, m3, m4⟩, m5, m6, m7⟩ := mk
  refine call_after (As := As) (k := k) (n := n) (st := st) hB hP hD hS hl ps hps hnd ?_ kk
  refine va_runS (nL := σ.nL) (n := nA) (ws := Cond.code τ.y τ.cc τ.nL τ.ret :: gw) (Ts := gw) (own := σ.own) ⟨hB.hx, hB.hb, hB.hml, hB.hown, hB.hts⟩ (hM H.size (call_b0 hB hS))
    ⟨callB_of nA hB.hts (gw_goodIn_code m5) rfl rfl rfl (hB.hts _ (m1 ▸ m6)) (hB.hts _ hw) ⟨m2, m3, m4⟩ ⟨hfit.1, hfit.2.1⟩, hB.hts _ m7⟩
    ⟨FrameBlind.APc, call_pre hB hP hD hS ps hps hnd _⟩ rfl hnA hl.1 hst (call_rest hcat) hd ⟨hfit.2.2.1, hfit.2.2.2⟩
/-- a constructor, by an ordinary link -/
theorem a_callI (hB : Bok G σ B) {a : Nat} (hM : AM G τ mc ms (.ref a :: As) wc Qf) (hret : τ.ret = none) (mk : MKi τ.y τ.cc τ.nL C nA) (hw : Cond.methodLink σ.own idx τ.y ∈ gw) (hd : decode σ.cc pc = .ok (.invokespecial idx, 3)) (hst : st = As.reverse ++ .ref a :: rest) (hnA : As.length = nA) (ps : List Nat) (hps : ps.map (fun i => ws[i]?) = wc.map some) (hnd : va_nd ps = true)
    (hfit : B.fits τ k n mc ms) (hcat : (rest.map fun v => v.category).sum ≤ 8)
    (kk : ∀ (v : Option Value) (ws' : va_W), Qf v ws' → AKeep wc ws' → aW G σ B (pc + 3) L (v.toList ++ rest) (wput ws ps ws') (k + mc) (n + ms)) : aW G σ B pc L st ws k n := by
  intro H locs ls hP hD hS hl
  obtain ⟨⟨m1, m2, m3, m4⟩, m5, m6, m7, m8⟩ := mk
  refine call_after (As := .ref a :: As) (k := k) (n := n) (st := st) hB hP hD hS hl ps hps hnd ?_ kk
  refine va_runI (nL := σ.nL) (n := nA) (ws := Cond.code τ.y τ.cc τ.nL none :: gw) (Ts := gw) (own := σ.own) ⟨hB.hx, hB.hb, hB.hml, hB.hown, hB.hts⟩ (by have h := hM H.size (call_b0 hB hS); rw [hret] at h; exact h)
    ⟨callB_of nA hB.hts (gw_goodIn_code m6) rfl rfl rfl (hB.hts _ (m1 ▸ m7)) (hB.hts _ hw) ⟨m2, m3, m4⟩ ⟨hfit.1, hfit.2.1⟩, m5, hB.hts _ m8⟩
    ⟨FrameBlind.APc, call_pre hB hP hD hS ps hps hnd _⟩ rfl hnA hl.1 hst (call_rest hcat) hd ⟨hfit.2.2.1, hfit.2.2.2⟩
/-- .. by a nest mate's -/
theorem a_callIN (hB : Bok G σ B) {a : Nat} (hM : AM G τ mc ms (.ref a :: As) wc Qf) (hret : τ.ret = none) (mk : MKi τ.y τ.cc τ.nL C nA) (hw : Cond.methodLinkNest σ.own idx τ.y "RareFaults" ∈ gwN) (hd : decode σ.cc pc = .ok (.invokespecial idx, 3)) (hst : st = As.reverse ++ .ref a :: rest) (hnA : As.length = nA) (ps : List Nat) (hps : ps.map (fun i => ws[i]?) = wc.map some) (hnd : va_nd ps = true)
    (hfit : B.fits τ k n mc ms) (hcat : (rest.map fun v => v.category).sum ≤ 8)
    (kk : ∀ (v : Option Value) (ws' : va_W), Qf v ws' → AKeep wc ws' → aW G σ B (pc + 3) L (v.toList ++ rest) (wput ws ps ws') (k + mc) (n + ms)) : aW G σ B pc L st ws k n := by
  intro H locs ls hP hD hS hl
  obtain ⟨⟨m1, m2, m3, m4⟩, m5, m6, m7, m8⟩ := mk
  refine call_after (As := .ref a :: As) (k := k) (n := n) (st := st) hB hP hD hS hl ps hps hnd ?_ kk
  refine va_runIN (nL := σ.nL) (n := nA) (ws := Cond.code τ.y τ.cc τ.nL none :: gw) (Ts := gw) (own := σ.own) (host := "RareFaults") ⟨hB.hx, hB.hb, hB.hml, hB.hown, hB.hts⟩ (by have h := hM H.size (call_b0 hB hS); rw [hret] at h; exact h)
    ⟨va_cnB nA hB.hts (gw_goodIn_code m6) rfl rfl rfl (hB.hE.2.1 _ hw) (hB.hts _ (m1 ▸ m7)) ⟨m2, m3, m4⟩ ⟨hfit.1, hfit.2.1⟩, m5, hB.hts _ m8⟩
    ⟨FrameBlind.APc, call_pre hB hP hD hS ps hps hnd _⟩ rfl hnA hl.1 hst (call_rest hcat) hd ⟨hfit.2.2.1, hfit.2.2.2⟩
/-- a call that changes nothing: V is the answer -/
theorem a_callVr (hB : Bok G σ B) {a ci N q0 : Nat} {T : u_T} {fs : List Value} {V : Option Value} (hM : AMd G τ (.ref a :: As) wc V wc) (mk : MKv τ.y τ.cc τ.nL τ.ret C nA) (hw : Cond.methodLink σ.own idx τ.y ∈ gw) (hd : decode σ.cc pc = .ok (.invokevirtual idx, 3)) (hst : st = As.reverse ++ .ref a :: rest) (hnA : As.length = nA) (ps : List Nat) (hps : ps.map (fun i => ws[i]?) = wc.map some) (hnd : va_nd ps = true)
    (hc : vwCl[ci]? = some (C, T, N)) (he : ws[q0]? = some (a, .inr (ci, fs))) (hfit : B.fits τ k n 0 0) (hcat : (rest.map fun v => v.category).sum ≤ 8)
    (kk : aW G σ B (pc + 3) L (V.toList ++ rest) ws k n) : aW G σ B pc L st ws k n := by
  refine a_callV hB hM mk hw hd hst hnA ps hps hnd hc he hfit hcat (fun v ws' hq _ => ?_)
  obtain ⟨rfl, rfl⟩ := hq
  rw [wput_self ps ws ws' hps]
  exact kk
/-- a call that changes its own cells -/
theorem a_callVd (hB : Bok G σ B) {a ci N q0 : Nat} {T : u_T} {fs : List Value} {V : Option Value} {wd w2 : va_W} (hM : AMd G τ (.ref a :: As) wc V wd) (mk : MKv τ.y τ.cc τ.nL τ.ret C nA) (hw : Cond.methodLink σ.own idx τ.y ∈ gw) (hd : decode σ.cc pc = .ok (.invokevirtual idx, 3)) (hst : st = As.reverse ++ .ref a :: rest) (hnA : As.length = nA) (ps : List Nat) (hps : ps.map (fun i => ws[i]?) = wc.map some) (hnd : va_nd ps = true)
    (hc : vwCl[ci]? = some (C, T, N)) (he : ws[q0]? = some (a, .inr (ci, fs))) (hfit : B.fits τ k n 0 0) (hcat : (rest.map fun v => v.category).sum ≤ 8) (hw2 : wput ws ps wd = w2)
    (kk : aW G σ B (pc + 3) L (V.toList ++ rest) w2 k n) : aW G σ B pc L st ws k n := by
  refine a_callV hB hM mk hw hd hst hnA ps hps hnd hc he hfit hcat (fun v ws' hq _ => ?_)
  obtain ⟨rfl, rfl⟩ := hq
  rw [hw2]
  exact kk
theorem a_callSr (hB : Bok G σ B) {V : Option Value} (hM : AMd G τ As wc V wc) (mk : MKs τ.y τ.cc τ.nL τ.ret C nA) (hw : Cond.methodLink σ.own idx τ.y ∈ gw) (hd : decode σ.cc pc = .ok (.invokestatic idx, 3)) (hst : st = As.reverse ++ rest) (hnA : As.length = nA) (ps : List Nat) (hps : ps.map (fun i => ws[i]?) = wc.map some) (hnd : va_nd ps = true)
    (hfit : B.fits τ k n 0 0) (hcat : (rest.map fun v => v.category).sum ≤ 8)
    (kk : aW G σ B (pc + 3) L (V.toList ++ rest) ws k n) : aW G σ B pc L st ws k n := by
  refine a_callS hB hM mk hw hd hst hnA ps hps hnd hfit hcat (fun v ws' hq _ => ?_)
  obtain ⟨rfl, rfl⟩ := hq
  rw [wput_self ps ws ws' hps]
  exact kk
end Calls

