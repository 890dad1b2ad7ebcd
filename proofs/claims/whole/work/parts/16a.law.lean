/-! THE LAW'S LOOP -/
def sL_law : MS := (x, code, 10, ret, RL, 12)
/-- where the law stands: its machine, its script -/
def LCtx (G : GP) (B : Bd) (b Ln : Nat) (xs : Nat → Int32) : Prop := Bok G sL_law B ∧ B.room sL_law 601024 7293034 ∧ va_X b Ln xs B.s B.s.heap ∧ b < B.s.heap.size ∧ ¬ B.A b ∧ Ln ≤ 2048 ∧ G.l.stackTraces = false
abbrev lawL (b x0 m0 oa od i : Nat) : List (Nat × Value) := [(0, .ref b), (1, .ref x0), (2, .ref m0), (3, .ref oa), (4, .ref od), (5, .int (nI i))]
def LAt (G : GP) (B : Bd) (b x0 m0 oa od i pc k n : Nat) : Prop := ∀ (th : Nat) (wC wN : va_W) (fo : Nat → Int64) (fd : Nat → UInt64), LW G x0 m0 th wC wN → aW G sL_law B pc (lawL b x0 m0 oa od i) [] ((oa, aJ G 1 fo) :: (od, aD G 1 fd) :: (wC ++ wN)) k n
theorem lg_self (x : Int64) : lg_cmp x x = 0 := by
  unfold lg_cmp
  rw [if_neg (fun h : x > x => Int64.lt_irrefl h), if_pos rfl]
section LawR
variable {G : GP} {σ : MS} {B : Bd} {pc k n : Nat} {L : List (Nat × Value)} {rest : List Value} {ws : va_W}
theorem a_laload0 (hB : Bok G σ B) {a : Nat} {f : Nat → Int64} {y : Int64} (hd : decode σ.cc pc = .ok (.laload, 1)) (q0 : Nat) (he : ws[q0]? = some (a, aJ G 1 f)) (hf : f 0 = y)
    (kk : aW G σ B (pc + 1) L (.long y :: rest) ws k n) : aW G σ B pc L (.int (nI 0) :: .ref a :: rest) ws k n := by
  subst hf
  refine a_laload hB hd q0 he (vp_in_nI (by decide) (by decide)) ?_
  rw [nI_clamp (by decide)]
  exact kk
theorem a_daload0 (hB : Bok G σ B) {a : Nat} {f : Nat → UInt64} {y : UInt64} (hd : decode σ.cc pc = .ok (.daload, 1)) (q0 : Nat) (he : ws[q0]? = some (a, aD G 1 f)) (hf : f 0 = y)
    (kk : aW G σ B (pc + 1) L (.double y :: rest) ws k n) : aW G σ B pc L (.int (nI 0) :: .ref a :: rest) ws k n := by
  subst hf
  refine a_daload hB hd q0 he (vp_in_nI (by decide) (by decide)) ?_
  rw [nI_clamp (by decide)]
  exact kk
end LawR
