set_option maxHeartbeats 20000000 in
set_option maxRecDepth 100000 in
theorem rs_one {G : GP} {B : Bd} {na wa ua la : Nat} {xa : Nat → Nat} {P : PV} {num : Nat} {nn ww uu ll : Nat → Nat} {wC : va_W} (hB : Bok G sL_rows B) (hR : B.room sL_rows 0 0) (h : LI P num nn ww uu ll) {s A : Nat} (hs : s < 31) (hA216 : A ≤ 216) (h729 : ∀ k, wyS (Wf ww) 0 P.parts k ≤ 729) {k : Nat} (hk : k < A) (kk : aW G sL_rows B 138 [(0, .ref (xa 0)), (2, .ref na), (3, .ref wa), (4, .int (nI s)), (5, .int (nI A)), (6, .int (nI (scA (Wf ww) P.parts s k))), (7, .int (nI (scB (Wf ww) P.parts s k))), (8, .int (nI (scC (Wf ww) P.parts k))), (9, .int (nI (scB (Wf ww) P.parts P.limit k))), (10, .int (nI (scS (Wf ww) P.parts P.limit k).1)), (11, .int (nI (scS (Wf ww) P.parts P.limit k).2)), (12, .int (nI k)), (13, .int (nI (wyS (Wf ww) 0 P.parts k))), (14, .int (nI (ldS P.parts k)))] [] (w4 G na wa ua la nn ww uu ll ++ wC) 0 0) : aW G sL_rows B 75 [(0, .ref (xa 0)), (2, .ref na), (3, .ref wa), (4, .int (nI s)), (5, .int (nI A)), (6, .int (nI (scA (Wf ww) P.parts s k))), (7, .int (nI (scB (Wf ww) P.parts s k))), (8, .int (nI (scC (Wf ww) P.parts k))), (9, .int (nI (scB (Wf ww) P.parts P.limit k))), (10, .int (nI (scS (Wf ww) P.parts P.limit k).1)), (11, .int (nI (scS (Wf ww) P.parts P.limit k).2)), (12, .int (nI k))] [] (w4 G na wa ua la nn ww uu ll ++ wC) 0 0 := by
  obtain ⟨z0, z1, z2, z3, z4, z5⟩ := h.2.2.2.2.1
  have h3 := h.2.1
  have h15 := h.2.2.1
  have hw := h.2.2.2.2.2.1
  have hc := h.c
  have hW : ∀ p l, p < P.parts → l < 6 → Wf ww p l = gt P.wt p l := fun p l hp hl => (hw p l hp hl).1
  refine a_iconstN (v := 1) hB dL_rows_75 (by decide) ?_
  refine a_istore hB dL_rows_76 (by decide) ?_
  refine a_iconstN (v := 0) hB dL_rows_78 (by decide) ?_
  refine a_istore hB dL_rows_79 (by decide) ?_
  refine a_aload_n hB dL_rows_81 rfl ?_
  refine a_iconstN (v := 0) hB dL_rows_82 (by decide) ?_
  refine a_ialoadN hB dL_rows_83 0 rfl (by omega) (by decide) ?_
  refine a_iconstN (v := 1) hB dL_rows_84 (by decide) ?_
  refine a_isub hB dL_rows_85 ?_
  refine a_istore hB dL_rows_86 (by decide) ?_
  refine a_iload hB dL_rows_88 rfl ?_
  refine a_istore hB dL_rows_90 (by decide) ?_
  have lp92 : ∀ (j92 i a b : Nat), a * wyS (Wf ww) 0 j92 i = wyS (Wf ww) 0 P.parts k ∧ b + ldS j92 i = ldS P.parts k ∧ i < 2 ^ 31 ∧ j92 ≤ P.parts → aW G sL_rows B 92 [(0, .ref (xa 0)), (2, .ref na), (3, .ref wa), (4, .int (nI s)), (5, .int (nI A)), (6, .int (nI (scA (Wf ww) P.parts s k))), (7, .int (nI (scB (Wf ww) P.parts s k))), (8, .int (nI (scC (Wf ww) P.parts k))), (9, .int (nI (scB (Wf ww) P.parts P.limit k))), (10, .int (nI (scS (Wf ww) P.parts P.limit k).1)), (11, .int (nI (scS (Wf ww) P.parts P.limit k).2)), (12, .int (nI k)), (13, .int (nI a)), (14, .int (nI b)), (15, .int (pI j92)), (16, .int (nI i))] [] (w4 G na wa ua la nn ww uu ll ++ wC) 0 0 := by
    intro j92
    induction j92 with
    | zero =>
      intro i a b hi
      obtain ⟨hi1, hi2, hi3, hi4⟩ := hi
      have ea : a = wyS (Wf ww) 0 P.parts k := (Nat.mul_one a).symm.trans hi1
      have eb : b = ldS P.parts k := hi2
      subst ea
      subst eb
      refine a_iload hB dL_rows_92 rfl ?_
      refine a_if_lt_t (tgt := 138) hB dL_rows_94 (by decide) pI_0 ?_
      exact aW_at [0, 1, 2, 3, 4, 5, 6, 7, 8, 9, 10, 11, 12, 13] rfl rfl rfl kk
    | succ j92 ih92 =>
      intro i a b hi
      rw [pI_s]
      obtain ⟨hi1, hi2, hi3, hi4⟩ := hi
      have hs1 : wyS (Wf ww) 0 (j92 + 1) i = ww (6 * j92 + i % 6) * wyS (Wf ww) 0 j92 (i / 6) := by
        show ww (6 * (0 + j92) + i % 6) * wyS (Wf ww) 0 j92 (i / 6) = _
        rw [Nat.zero_add]
      have hs2 : ldS (j92 + 1) i = i % 6 + ldS j92 (i / 6) := rfl
      have hm6 : i % 6 < 6 := Nat.mod_lt _ (by decide)
      refine a_iload hB dL_rows_92 rfl ?_
      refine a_if_ltN_f (tgt := 138) hB dL_rows_94 (by decide) (by omega) ?_
      refine a_iload hB dL_rows_97 rfl ?_
      refine a_aload_n hB dL_rows_99 rfl ?_
      refine a_bipushN (v := 6) hB dL_rows_100 (by decide) ?_
      refine a_iload hB dL_rows_102 rfl ?_
      refine a_imulN hB dL_rows_104 ?_
      refine a_iload hB dL_rows_105 rfl ?_
      refine a_bipushN (v := 6) hB dL_rows_107 (by decide) ?_
      refine a_iremN hB dL_rows_109 (by omega) (by omega) (by omega) ?_
      refine a_iaddN hB dL_rows_110 ?_
      refine a_ialoadN hB dL_rows_111 1 rfl (by omega) (by decide) ?_
      refine a_imulN hB dL_rows_112 ?_
      refine a_istore hB dL_rows_113 (by decide) ?_
      refine a_iload hB dL_rows_115 rfl ?_
      refine a_iload hB dL_rows_117 rfl ?_
      refine a_bipushN (v := 6) hB dL_rows_119 (by decide) ?_
      refine a_iremN hB dL_rows_121 (by omega) (by omega) (by omega) ?_
      refine a_iaddN hB dL_rows_122 ?_
      refine a_istore hB dL_rows_123 (by decide) ?_
      refine a_iinc (v := -1) hB dL_rows_125 rfl (by decide) (by decide) ?_
      refine a_iload hB dL_rows_128 rfl ?_
      refine a_bipushN (v := 6) hB dL_rows_130 (by decide) ?_
      refine a_idivN hB dL_rows_132 (by omega) (by omega) (by omega) ?_
      refine a_istore hB dL_rows_133 (by decide) ?_
      refine a_goto (tgt := 92) hB dL_rows_135 (by decide) ?_
      exact aW_at [0, 1, 2, 3, 4, 5, 6, 7, 8, 9, 10, 11, 12, 13, 14, 15] (by rw [← pI_d]; rfl) rfl rfl (ih92 (i / 6) _ _ ⟨by rw [← hi1, hs1, Nat.mul_assoc], by rw [← hi2, hs2, Nat.add_assoc], by omega, by omega⟩)
  exact aW_at [0, 1, 2, 3, 4, 5, 6, 7, 8, 9, 10, 11, 12, 13, 14, 15] (by rw [← z0]; rfl) rfl rfl (lp92 P.parts k 1 0 ⟨Nat.one_mul _, Nat.zero_add _, by omega, Nat.le_refl _⟩)
