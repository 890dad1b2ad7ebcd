theorem va_D_iff {A : Nat → Prop} {ws : va_W} : va_D A ws ↔ (ws.map (·.1)).Nodup ∧ ∀ q, q ∈ ws → A q.1 := by
  constructor
  · intro h
    refine ⟨List.pairwise_iff_getElem.mpr (fun i j hi hj hij e => ?_), fun q hq => ?_⟩
    · rw [List.length_map] at hi hj
      rw [List.getElem_map, List.getElem_map] at e
      have := h.1 i j ws[i] ws[j] (List.getElem?_eq_getElem hi) (List.getElem?_eq_getElem hj) e
      omega
    · obtain ⟨k, hk⟩ := List.getElem?_of_mem hq
      exact h.2 k q hk
  · intro h
    refine ⟨fun i j p q hp hq e => ?_, fun k q hk => h.2 q (List.mem_of_getElem? hk)⟩
    obtain ⟨hi, rfl⟩ := List.getElem?_eq_some_iff.mp hp
    obtain ⟨hj, rfl⟩ := List.getElem?_eq_some_iff.mp hq
    have n := List.pairwise_iff_getElem.mp h.1
    have li : i < (ws.map (·.1)).length := by rw [List.length_map]; exact hi
    have lj : j < (ws.map (·.1)).length := by rw [List.length_map]; exact hj
    rcases Nat.lt_trichotomy i j with x | x | x
    · have y := n i j li lj x
      rw [List.getElem_map, List.getElem_map] at y
      exact absurd e y
    · exact x
    · have y := n j i lj li x
      rw [List.getElem_map, List.getElem_map] at y
      exact absurd e.symm y
theorem va_P_perm {D : va_G} {cl : List vw_C} {ws ws' : va_W} {H : Heap} (p : ws.Perm ws') (h : va_P D cl ws H) : va_P D cl ws' H := by
  intro k q hk
  obtain ⟨i, hi⟩ := List.getElem?_of_mem (p.mem_iff.mpr (List.mem_of_getElem? hk))
  exact h i q hi
theorem va_D_perm {A : Nat → Prop} {ws ws' : va_W} (p : ws.Perm ws') (h : va_D A ws) : va_D A ws' := by
  rw [va_D_iff] at h ⊢
  exact ⟨(p.map _).nodup_iff.mp h.1, fun q hq => h.2 q (p.mem_iff.mpr hq)⟩
/-- a world in another order -/
theorem aW_perm {G : GP} {σ : MS} {B : Bd} {pc : Nat} {L : List (Nat × Value)} {st : List Value} {ws ws' : va_W} {k n : Nat} (p : ws.Perm ws') (kk : aW G σ B pc L st ws' k n) : aW G σ B pc L st ws k n :=
  fun H locs ls hP hD hS hl => kk H locs ls (va_P_perm p hP) (va_D_perm p hD) hS hl

