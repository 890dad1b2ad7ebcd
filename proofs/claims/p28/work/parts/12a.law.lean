/-! THE LAW'S OWN METHODS: a helper calls one method of the class and catches what it throws -/
section LawA
variable {G : GP} {σ τ : MS} {B : Bd} {pc k n mc ms idx nA : Nat} {L : List (Nat × Value)} {st rest As : List Value} {ws wc : va_W} {Qf : Option Value → va_W → Prop} {C : String}
end LawA
-- a world's tail as a callee's world
theorem segL_at : ∀ (n a i : Nat), i < n → (segL a n)[i]? = some (a + i)
  | 0, a, i, h => absurd h (Nat.not_lt_zero _)
  | n + 1, a, 0, _ => rfl
  | n + 1, a, i + 1, h => by
    show (segL (a + 1) n)[i]? = _
    rw [segL_at n (a + 1) i (by omega)]
    congr 1
    omega
theorem segL_mem : ∀ {n a x : Nat}, x ∈ segL a n → a ≤ x
  | 0, a, x, h => absurd h List.not_mem_nil
  | n + 1, a, x, h => by
    rcases List.mem_cons.mp h with rfl | h
    · exact Nat.le_refl _
    · exact Nat.le_trans (Nat.le_succ a) (segL_mem h)
theorem segL_nd : ∀ (n a : Nat), va_nd (segL a n) = true
  | 0, a => rfl
  | n + 1, a => by
    show (decide (a ∉ segL (a + 1) n) && va_nd (segL (a + 1) n)) = true
    rw [segL_nd n (a + 1), Bool.and_true, decide_eq_true_eq]
    intro h
    exact absurd (segL_mem h) (by omega)
theorem seg_map : ∀ (wc w1 w3 : va_W), (segL w1.length wc.length).map (fun i => (w1 ++ (wc ++ w3))[i]?) = wc.map some
  | [], w1, w3 => rfl
  | x :: xs, w1, w3 => by
    show (w1 ++ (x :: xs ++ w3))[w1.length]? :: (segL (w1.length + 1) xs.length).map (fun i => (w1 ++ (x :: xs ++ w3))[i]?) = some x :: xs.map some
    have h := seg_map xs (w1 ++ [x]) w3
    have e1 : (w1 ++ [x]).length = w1.length + 1 := by simp
    have e2 : (w1 ++ [x]) ++ (xs ++ w3) = w1 ++ (x :: xs ++ w3) := by simp
    rw [e1, e2] at h
    rw [h]
    simp
theorem seg_tail (o : Nat × va_E) (wc : va_W) : (segL 1 wc.length).map (fun i => (o :: wc)[i]?) = wc.map some := by
  have h := seg_map wc [o] []
  simpa using h
theorem AKeep.cons {o o' : Nat × va_E} {wc w : va_W} (ho : o.1 = o'.1) (h : AKeep wc w) : AKeep (o :: wc) (o' :: w) := by
  show (o'.1 :: w.map (·.1)).take (wc.length + 1) = o.1 :: wc.map (·.1)
  rw [List.take_succ_cons, ho]
  exact congrArg _ h
theorem AKeep.rf (wc : va_W) : AKeep wc wc := by
  show (wc.map (·.1)).take wc.length = _
  exact List.take_of_length_le (by simp)

