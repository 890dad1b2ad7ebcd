/-- at the start -/
theorem Rel.start : Rel PV0 (uN (uN zN 1 10) 2 1) zD := by
  have ew : ∀ p l, gt (wq (uN (uN zN 1 10) 2 1)) p l = 0 := fun p l => by
    rw [wq_uN (by decide), wq_uN (by decide)]
    unfold gt
    split <;> rfl
  have et : ∀ j, tq (uN (uN zN 1 10) 2 1) j = 0 := fun j => by
    rw [tq_uN (by decide), tq_uN (by decide)]
    rfl
  have g0 : ∀ p l, gt (fun _ => 0) p l = 0 := fun p l => by
    unfold gt
    split <;> rfl
  exact Rel.mk (wt := fun _ => 0) (tl := fun _ => 0) (S := SV0) (parts := 0) (limit := 10) (seed := 1) (by decide) (by decide) (by decide) (fun _ => Nat.zero_le _) (fun _ => Nat.zero_le _) (fun p hp => absurd hp (Nat.not_lt_zero _)) (fun p l hp => absurd hp (Nat.not_lt_zero _)) (fun p l _ _ _ => ⟨g0 p l, g0 p l⟩) rfl rfl rfl rfl rfl (fun p l hp => absurd hp (Nat.not_lt_zero _)) (fun p l hp => absurd hp (Nat.not_lt_zero _)) (fun p l _ _ => by rw [ew]; exact Nat.zero_le _) (fun j => by rw [et]; exact Nat.zero_le _) (fun _ _ => rfl)
/-- the two readers' states -/
def SR (S : Nat × Nat × Nat) (T : TV) : Prop := S.1 = T.2.1 + 1 ∧ S.2.1 = T.2.2.1 ∧ S.2.2 = (if T.2.2.2 = 0 then 0 else 1)
theorem sr_A {S : Nat × Nat × Nat} {T : TV} (h : SR S T) (h6 : T.2.2.1 ≤ 6) (c : Nat) : syA S c = mtA T c := by
  obtain ⟨h1, h2, h3⟩ := h
  unfold syA mtA
  by_cases q : c = 59
  · rw [if_pos q, if_pos q, h3]
  · rw [if_neg q, if_neg q]
    by_cases d : 48 ≤ c ∧ c ≤ 57
    · rw [if_pos d, if_pos d]
      have x2 : (syD S (c - 48)).2.1 = T.2.2.1 + 1 := by show S.2.1 + 1 = _; omega
      have x0 : S.2.2 = 0 ↔ T.2.2.2 = 0 := by
        rw [h3]
        by_cases t0 : T.2.2.2 = 0
        · rw [if_pos t0]; exact ⟨fun _ => t0, fun _ => rfl⟩
        · rw [if_neg t0]; exact ⟨fun y => absurd y (by decide), fun y => absurd y t0⟩
      have x3 : (syD S (c - 48)).2.2 = 0 ↔ (T.2.2.2 = 0 ∧ c - 48 = 0) := by
        have e : (syD S (c - 48)).2.2 = if S.2.2 = 0 ∧ c - 48 = 0 then 0 else 1 := rfl
        rw [e, ← x0]
        by_cases y : S.2.2 = 0 ∧ c - 48 = 0
        · rw [if_pos y]; exact ⟨fun _ => y, fun _ => rfl⟩
        · rw [if_neg y]; exact ⟨fun u => absurd u (by decide), fun u => absurd u y⟩
      have e : ((syD S (c - 48)).2.1 < 6 ∨ (syD S (c - 48)).2.1 = 6 ∧ ¬ (syD S (c - 48)).2.2 = 0) ↔ ¬ (T.2.2.1 = 6 ∨ (T.2.2.1 = 5 ∧ T.2.2.2 + (c - 48) = 0)) := by
        rw [x2, x3]
        omega
      by_cases x : T.2.2.1 = 6 ∨ (T.2.2.1 = 5 ∧ T.2.2.2 + (c - 48) = 0)
      · rw [if_neg (fun y => (e.mp y) x), if_pos x]
      · rw [if_pos (e.mpr x), if_neg x]
    · rw [if_neg d, if_neg d]
theorem sr_S {S : Nat × Nat × Nat} {T : TV} (h : SR S T) {c : Nat} (hc : ¬ mtA T c = 0) : SR (syS S c) (mtS T c) := by
  obtain ⟨h1, h2, h3⟩ := h
  unfold syS
  by_cases q : c = 59
  · subst q
    rw [if_pos rfl, mtS_n hc]
    exact ⟨by show S.1 + 1 = T.2.1 + 1 + 1; omega, rfl, rfl⟩
  · rw [if_neg q, mtS_d hc q]
    have d : 48 ≤ c ∧ c ≤ 57 := Classical.byContradiction fun d => hc (by unfold mtA; rw [if_neg q, if_neg d])
    rw [if_pos d]
    refine ⟨h1, by show S.2.1 + 1 = T.2.2.1 + 1; omega, ?_⟩
    show (if S.2.2 = 0 ∧ c - 48 = 0 then 0 else 1) = if T.2.2.2 + (c - 48) = 0 then 0 else 1
    rw [h3]
    by_cases t0 : T.2.2.2 = 0
    · rw [if_pos t0]
      by_cases c0 : c - 48 = 0
      · rw [if_pos ⟨rfl, c0⟩, if_pos (by omega)]
      · rw [if_neg (fun x => c0 x.2), if_neg (by omega)]
    · rw [if_neg t0, if_neg (by omega), if_neg (by omega)]
theorem sr_N {td tx cs : Nat → Nat} {n : Nat} (hc : ∀ i, i < n → cs i = tx i) : ∀ i, i ≤ n → (∀ m, m < i → ¬ mtA (mtK td tx m) (tx m) = 0) → SR (syN cs i) (mtK td tx i)
  | 0, _, _ => ⟨rfl, rfl, rfl⟩
  | i + 1, hi, h => by
    have ih := sr_N hc i (by omega) (fun m hm => h m (by omega))
    show SR (syS (syN cs i) (cs i)) (mtS (mtK td tx i) (tx i))
    rw [hc i (by omega)]
    exact sr_S ih (h i (by omega))
/-- where the reading stops -/
def stopAt (td tx : Nat → Nat) (len : Nat) : Nat := lfr (fun i => mtA (mtK td tx i) (tx i) = 0) len 0
theorem stop_spec (td tx : Nat → Nat) (len : Nat) : stopAt td tx len ≤ len ∧ (∀ i, i < stopAt td tx len → ¬ mtA (mtK td tx i) (tx i) = 0) ∧ (stopAt td tx len < len → mtA (mtK td tx (stopAt td tx len)) (tx (stopAt td tx len)) = 0) := by
  obtain ⟨-, a, b, c⟩ := lfr_spec (fun i => mtA (mtK td tx i) (tx i) = 0) len 0
  refine ⟨?_, fun i hi => c i (Nat.zero_le _) hi, fun h => b ?_⟩
  · show lfr _ len 0 ≤ len
    omega
  · have h : lfr (fun i => mtA (mtK td tx i) (tx i) = 0) len 0 < len := h
    omega
/-- the class's reader stops there, too -/
theorem stop_cls {td tx cs : Nat → Nat} {len : Nat} (hc : ∀ i, i < len → cs i = tx i) : (∀ i, i < stopAt td tx len → ¬ syA (syN cs i) (cs i) = 0) ∧ (stopAt td tx len < len → syA (syN cs (stopAt td tx len)) (cs (stopAt td tx len)) = 0) := by
  obtain ⟨a, b, c⟩ := stop_spec td tx len
  have key : ∀ i, i ≤ stopAt td tx len → i < len → syA (syN cs i) (cs i) = mtA (mtK td tx i) (tx i) := fun i h1 h2 => by
    have s := sr_N (td := td) hc i (by omega) (fun m hm => b m (by omega))
    rw [hc i h2]
    exact sr_A s (mtK_inv td tx i).1 _
  refine ⟨fun i hi => ?_, fun h => ?_⟩
  · rw [key i (by omega) (by omega)]
    exact b i hi
  · rw [key _ (Nat.le_refl _) h]
    exact c h
