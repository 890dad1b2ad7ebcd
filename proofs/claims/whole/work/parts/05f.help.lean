section Help
variable {G : GP} {σ τ : MS} {B : Bd} {M S k n mc ms x : Nat}
theorem fit_of (hR : B.room σ M S) (h : τ.lv + 1 ≤ σ.lv ∧ τ.nL ≤ 17 ∧ k + mc ≤ M ∧ n + ms ≤ S) : B.fits τ k n mc ms := by
  obtain ⟨h1, h2, h3, h4⟩ := hR
  obtain ⟨g1, g2, g3, g4⟩ := h
  refine ⟨by omega, ?_, by omega, by omega⟩
  have : 36 * (τ.lv + 1) ≤ 36 * σ.lv := Nat.mul_le_mul_left 36 g1
  omega
theorem roomF (hR : B.room σ M S) (h : 1 ≤ σ.lv) : 1 ≤ B.R.frames := Nat.le_trans h hR.1
theorem room12 (hR : B.room σ M S) (h : x + 12 ≤ 36 * σ.lv) : x + 12 ≤ B.R.locals := Nat.le_trans h hR.2.1
theorem room13 (hR : B.room σ M S) (h : x + 13 ≤ 36 * σ.lv) : x + 13 ≤ B.R.locals := Nat.le_trans h hR.2.1
theorem room82 (hR : B.room σ M S) (h : x + 82 ≤ 36 * σ.lv) : x + 82 ≤ B.R.locals := Nat.le_trans h hR.2.1
theorem room6 (hR : B.room σ M S) (h : 5 < σ.lv) : 5 < B.R.frames := Nat.lt_of_lt_of_le h hR.1
theorem roomc (hR : B.room σ M S) (h : k ≤ M) : k ≤ B.R.cells := Nat.le_trans h hR.2.2.1
theorem rooms (hR : B.room σ M S) (h : n ≤ S) : n ≤ B.R.slots := Nat.le_trans h hR.2.2.2
theorem AKeep.of {ws ws' : va_W} (h : (ws'.map (·.1)).take ws.length = ws.map (·.1)) : AKeep ws ws' := h
end Help
-- the worlds
abbrev wT (G : GP) (t c : Nat) (w : Nat → Nat) : va_W := [(t, ob 7 [.ref c]), (c, aN G 36 w)]
