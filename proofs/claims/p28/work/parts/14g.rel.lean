/-- at the start -/
theorem Rel.start : Rel PV0 (uN (uN zN 1 10) 2 1) zD := by
  have ew : ∀ p l, gt (wq (uN (uN zN 1 10) 2 1)) p l = 0 := fun p l => by
    rw [wq_uN (by decide), wq_uN (by decide)]
    unfold gt
    split <;> rfl
  have et : ∀ j, tq (uN (uN zN 1 10) 2 1) j = 0 := fun j => by
    rw [tq_uN (by decide), tq_uN (by decide)]
    rfl
  have g0 : ∀ p l, gt (fun _ => 0) p l = 0 := fun p l => by
    unfold gt
    split <;> rfl
  exact Rel.mk (wt := fun _ => 0) (tl := fun _ => 0) (S := SV0) (parts := 0) (limit := 10) (seed := 1) (by decide) (by decide) (by decide) (fun _ => Nat.zero_le _) (fun _ => Nat.zero_le _) (fun p hp => absurd hp (Nat.not_lt_zero _)) (fun p l hp => absurd hp (Nat.not_lt_zero _)) (fun p l _ _ _ => ⟨g0 p l, g0 p l⟩) rfl rfl rfl rfl rfl (fun p l hp => absurd hp (Nat.not_lt_zero _)) (fun p l hp => absurd hp (Nat.not_lt_zero _)) (fun p l _ _ => by rw [ew]; exact Nat.zero_le _) (fun j => by rw [et]; exact Nat.zero_le _) (fun _ _ => rfl)
