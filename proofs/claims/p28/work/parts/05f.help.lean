section Help
variable {G : GP} {σ τ : MS} {B : Bd} {M S k n mc ms x : Nat}
theorem fit_of (hR : B.room σ M S) (h : τ.lv + 1 ≤ σ.lv ∧ τ.nL ≤ 17 ∧ k + mc ≤ M ∧ n + ms ≤ S) : B.fits τ k n mc ms := by
  obtain ⟨h1, h2, h3, h4⟩ := hR
  obtain ⟨g1, g2, g3, g4⟩ := h
  refine ⟨by omega, ?_, by omega, by omega⟩
  have : 36 * (τ.lv + 1) ≤ 36 * σ.lv := Nat.mul_le_mul_left 36 g1
  omega
theorem roomF (hR : B.room σ M S) (h : 1 ≤ σ.lv) : 1 ≤ B.R.frames := Nat.le_trans h hR.1
theorem room12 (hR : B.room σ M S) (h : x + 12 ≤ 36 * σ.lv) : x + 12 ≤ B.R.locals := Nat.le_trans h hR.2.1
theorem room13 (hR : B.room σ M S) (h : x + 13 ≤ 36 * σ.lv) : x + 13 ≤ B.R.locals := Nat.le_trans h hR.2.1
theorem room82 (hR : B.room σ M S) (h : x + 82 ≤ 36 * σ.lv) : x + 82 ≤ B.R.locals := Nat.le_trans h hR.2.1
theorem room6 (hR : B.room σ M S) (h : 5 < σ.lv) : 5 < B.R.frames := Nat.lt_of_lt_of_le h hR.1
theorem roomc (hR : B.room σ M S) (h : k ≤ M) : k ≤ B.R.cells := Nat.le_trans h hR.2.2.1
theorem rooms (hR : B.room σ M S) (h : n ≤ S) : n ≤ B.R.slots := Nat.le_trans h hR.2.2.2
theorem AKeep.of {ws ws' : va_W} (h : (ws'.map (·.1)).take ws.length = ws.map (·.1)) : AKeep ws ws' := h
end Help
-- a segment put back
def segL : Nat → Nat → List Nat
  | _, 0 => []
  | a, n + 1 => a :: segL (a + 1) n
theorem wput_seg0 : ∀ (wc wd w1 w3 : va_W), wd.length = wc.length → wput (w1 ++ (wc ++ w3)) (segL w1.length wc.length) wd = w1 ++ (wd ++ w3)
  | [], [], w1, w3, _ => by show wput (w1 ++ ([] ++ w3)) [] [] = _; rw [wput_nil, List.append_nil]
  | [], y :: ys, w1, w3, h => absurd h (by simp)
  | x :: xs, [], w1, w3, h => absurd h (by simp)
  | x :: xs, y :: ys, w1, w3, h => by
    have h1 := wput_seg0 xs ys (w1 ++ [y]) w3 (by simpa using h)
    have h2 : (w1 ++ (x :: xs ++ w3)).set w1.length y = (w1 ++ [y]) ++ (xs ++ w3) := by
      rw [List.set_append_right _ _ (Nat.le_refl _), Nat.sub_self]
      simp
    show wput ((w1 ++ (x :: xs ++ w3)).set w1.length y) (segL (w1.length + 1) xs.length) ys = _
    rw [h2]
    have h3 : (w1 ++ [y]).length = w1.length + 1 := by simp
    rw [h3] at h1
    rw [h1]
    simp
theorem wput_seg {ws wc wd w1 w3 w2 : va_W} {ps : List Nat} (h : ws = w1 ++ (wc ++ w3)) (hp : ps = segL w1.length wc.length) (hl : wd.length = wc.length) (h2 : w1 ++ (wd ++ w3) = w2) : wput ws ps wd = w2 := by
  subst h; subst hp; subst h2
  exact wput_seg0 wc wd w1 w3 hl
theorem wput_ext : ∀ (ps : List Nat) (ws wd ex : va_W), wd.length = ps.length → wput ws ps (wd ++ ex) = wput ws ps wd ++ ex
  | [], ws, [], ex, _ => by rw [wput_nil, wput_nil]; simp
  | [], ws, y :: ys, ex, h => absurd h (by simp)
  | p :: ps, ws, [], ex, h => absurd h (by simp)
  | p :: ps, ws, y :: ys, ex, h => by
    show wput (ws.set p y) ps (ys ++ ex) = wput (ws.set p y) ps ys ++ ex
    exact wput_ext ps (ws.set p y) ys ex (by simpa using h)
theorem segL_len : ∀ (n a : Nat), (segL a n).length = n
  | 0, _ => rfl
  | n + 1, a => by show (segL (a + 1) n).length + 1 = n + 1; rw [segL_len n]
theorem wput_segE {ws wc wd w1 w3 w2 ex wdx : va_W} {ps : List Nat} (h : ws = w1 ++ (wc ++ w3)) (hp : ps = segL w1.length wc.length) (hl : wd.length = wc.length) (hx : wdx = wd ++ ex) (h2 : (w1 ++ (wd ++ w3)) ++ ex = w2) : wput ws ps wdx = w2 := by
  subst h; subst hp; subst h2; subst hx
  rw [wput_ext _ _ _ _ (by rw [segL_len]; exact hl), wput_seg0 wc wd w1 w3 hl]
-- the worlds
abbrev wT (G : GP) (t c : Nat) (w : Nat → Nat) : va_W := [(t, ob 7 [.ref c]), (c, aN G 36 w)]

