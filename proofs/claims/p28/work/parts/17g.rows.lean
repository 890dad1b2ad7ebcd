set_option maxHeartbeats 20000000 in
set_option maxRecDepth 100000 in
theorem rs_scan {G : GP} {B : Bd} {na wa ua la : Nat} {xa pa : Nat → Nat} {qs : Nat → Nat → Nat} {mk : Nat} {P : PV} {num : Nat} {nn ww uu ll : Nat → Nat} {wC : va_W} {y : Int32} (hB : Bok G sL_rows B) (hR : B.room sL_rows 0 0) (hE : BE G B (w4 G na wa ua la nn ww uu ll ++ wC) 0 0 (RwQ G na wa ua la xa pa qs mk P num nn ww uu ll)) (hK : KW G xa pa qs mk P num wC) (h : LI P num nn ww uu ll) {s A : Nat} (hs : s < 31) (hA : A = 6 ^ P.parts) : aW G sL_rows B 45 [(0, .ref (xa 0)), (1, .int y), (2, .ref na), (3, .ref wa), (4, .int (nI s))] [.int (nI A)] (w4 G na wa ua la nn ww uu ll ++ wC) 0 0 := by
  obtain ⟨z0, z1, z2, z3, z4, z5⟩ := h.2.2.2.2.1
  have h3 := h.2.1
  have h15 := h.2.2.1
  have hw := h.2.2.2.2.2.1
  have hc := h.c
  have hW : ∀ p l, p < P.parts → l < 6 → Wf ww p l = gt P.wt p l := fun p l hp hl => (hw p l hp hl).1
  have hA216 : A ≤ 216 := by
    rw [hA]
    exact Nat.pow_le_pow_right (n := 6) (by decide) h3
  have h729 : ∀ k, wyS (Wf ww) 0 P.parts k ≤ 729 := fun k => Nat.le_trans (wyS_le P.parts (fun p l hp hl => by rw [hW p l (by omega) hl]; exact hc.1.1.2.1 p l (by omega) hl) k) (Nat.pow_le_pow_right (n := 9) (by decide) h3)
  refine a_istore hB dL_rows_45 (by decide) ?_
  refine a_iconstN (v := 0) hB dL_rows_47 (by decide) ?_
  refine a_istore hB dL_rows_48 (by decide) ?_
  refine a_iconstN (v := 0) hB dL_rows_50 (by decide) ?_
  refine a_istore hB dL_rows_51 (by decide) ?_
  refine aW_at (L' := [(0, .ref (xa 0)), (2, .ref na), (3, .ref wa), (4, .int (nI s)), (5, .int (nI A)), (6, .int (nI 0)), (7, .int (nI 0))]) [0, 2, 3, 4, 5, 6, 7] rfl rfl rfl ?_
  refine a_iconstN (v := 0) hB dL_rows_53 (by decide) ?_
  refine a_istore hB dL_rows_54 (by decide) ?_
  refine a_iconstN (v := 0) hB dL_rows_56 (by decide) ?_
  refine a_istore hB dL_rows_57 (by decide) ?_
  refine aW_at (L' := [(0, .ref (xa 0)), (2, .ref na), (3, .ref wa), (4, .int (nI s)), (5, .int (nI A)), (6, .int (nI 0)), (7, .int (nI 0)), (8, .int (nI 0)), (9, .int (nI 0))]) [0, 1, 2, 3, 4, 5, 6, 7, 8] rfl rfl rfl ?_
  refine a_iconstN (v := 0) hB dL_rows_59 (by decide) ?_
  refine a_istore hB dL_rows_60 (by decide) ?_
  refine a_iconstN (v := 0) hB dL_rows_62 (by decide) ?_
  refine a_istore hB dL_rows_63 (by decide) ?_
  refine aW_at (L' := [(0, .ref (xa 0)), (2, .ref na), (3, .ref wa), (4, .int (nI s)), (5, .int (nI A)), (6, .int (nI 0)), (7, .int (nI 0)), (8, .int (nI 0)), (9, .int (nI 0)), (10, .int (nI 0)), (11, .int (nI 0))]) [0, 1, 2, 3, 4, 5, 6, 7, 8, 9, 10] rfl rfl rfl ?_
  refine a_iconstN (v := 0) hB dL_rows_65 (by decide) ?_
  refine a_istore hB dL_rows_66 (by decide) ?_
  have lp68 : ∀ (j68 k : Nat), k + j68 = A → aW G sL_rows B 68 [(0, .ref (xa 0)), (2, .ref na), (3, .ref wa), (4, .int (nI s)), (5, .int (nI A)), (6, .int (nI (scA (Wf ww) P.parts s k))), (7, .int (nI (scB (Wf ww) P.parts s k))), (8, .int (nI (scC (Wf ww) P.parts k))), (9, .int (nI (scB (Wf ww) P.parts P.limit k))), (10, .int (nI (scS (Wf ww) P.parts P.limit k).1)), (11, .int (nI (scS (Wf ww) P.parts P.limit k).2)), (12, .int (nI k))] [] (w4 G na wa ua la nn ww uu ll ++ wC) 0 0 := by
    intro j68
    induction j68 with
    | zero =>
      intro k hk
      refine a_iload hB dL_rows_68 rfl ?_
      refine a_iload hB dL_rows_70 rfl ?_
      refine a_icmp_geN_t (tgt := 212) hB dL_rows_72 (by decide) (by omega) (by omega) (by omega) ?_
      obtain rfl : k = A := by omega
      obtain ⟨hb1, hb2⟩ := scS_bs (P := P) (W := Wf ww) (by omega) hW
      have hbd := sc_le (n := P.parts) (s := s) h729 k
      have hbl := sc_le (n := P.parts) (s := P.limit) h729 k
      have hbs := scS_le (n := P.parts) (s := P.limit) h729 k
      subst hA
      have e6 : scA (Wf ww) P.parts s (6 ^ P.parts) = vW P s 0 := rows_same (by omega) hW hs
      have e7 : scB (Wf ww) P.parts s (6 ^ P.parts) = vW P s 1 := rows_from (by omega) hW s
      have e8 : scC (Wf ww) P.parts (6 ^ P.parts) = vW P 0 1 := rows_all (by omega) hW
      have e9 : scB (Wf ww) P.parts P.limit (6 ^ P.parts) = wfrom (cnt P (-1)) P.limit := rows_from (by omega) hW P.limit
      have e10 : (scS (Wf ww) P.parts P.limit (6 ^ P.parts)).1 = vC P num 7 := hb1.trans (vC7 (by omega)).symm
      have h7e := vC7 (P := P) (num := num) (by omega)
      have kk := rs_like (f := scB (Wf ww) P.parts P.limit (6 ^ P.parts)) (row := (scS (Wf ww) P.parts P.limit (6 ^ P.parts)).2) hB hR hE hK h hs (by omega) (by omega) (by omega) (by omega) e9 (by omega) (by omega) (fun q p hp => vL_none (by omega) (by omega)) (fun q p hp => FM.vLE (by omega) (hb2 (by omega)) hp)
      rw [← e6, ← e7, ← e8, ← e10] at kk
      exact aW_at [0, 1, 3, 5, 6, 7, 8, 9, 10] rfl rfl rfl kk
    | succ j68 ih68 =>
      intro k hk
      refine a_iload hB dL_rows_68 rfl ?_
      refine a_iload hB dL_rows_70 rfl ?_
      refine a_icmp_geN_f (tgt := 212) hB dL_rows_72 (by decide) (by omega) (by omega) (by omega) ?_
      exact rs_one hB hR h hs hA216 h729 (by omega) (rs_two hB hR h hs hA216 h729 (by omega) (ih68 (k + 1) (by omega)))
  exact aW_at [0, 1, 2, 3, 4, 5, 6, 7, 8, 9, 10, 11] rfl rfl rfl (lp68 A 0 (by omega))
set_option maxHeartbeats 4000000 in
set_option maxRecDepth 100000 in
theorem c_L_rows {G : GP} {na wa ua la : Nat} {xa pa : Nat → Nat} {qs : Nat → Nat → Nat} {mk : Nat} {P : PV} {num : Nat} {nn ww uu ll : Nat → Nat} {wC : va_W} {y : Int32} (hK : KW G xa pa qs mk P num wC) (h : LI P num nn ww uu ll) : AM G sL_rows 0 0 [.ref (xa 0), .int y, .ref na, .ref wa] (w4 G na wa ua la nn ww uu ll ++ wC) (RwQ G na wa ua la xa pa qs mk P num nn ww uu ll) := by
  refine AM.of (σ := sL_rows) (by decide +kernel) (by decide +kernel) (Nat.le_of_ble_eq_true rfl) (fun B hB hR hE0 hN => ?_)
  have hE := BE.of hE0
  refine a_iload_n hB dL_rows_0 rfl ?_
  refine a_bipushN (v := 17) hB dL_rows_1 (by decide) ?_
  refine a_callS hB (c_L_at (by omega) (by omega)) mk_L_at ml_L_20 dL_rows_3 rfl rfl [] rfl (by decide) (fit_of hR (by decide)) (Nat.le_of_ble_eq_true rfl) (fun v3 w3 hq3 hk3 => ?_)
  obtain ⟨⟨r3, hr3, rfl⟩, rfl⟩ := hq3
  refine aW_w (wput_e _) ?_
  refine a_istore hB dL_rows_6 (by decide) ?_
  obtain ⟨z0, z1, z2, z3, z4, z5⟩ := id h.2.2.2.2.1
  have h3 := h.2.1
  refine a_aload_n hB dL_rows_8 rfl ?_
  refine a_iconstN (v := 0) hB dL_rows_9 (by decide) ?_
  refine a_ialoadN hB dL_rows_10 0 rfl (by omega) (by decide) ?_
  refine a_if_neN (tgt := 18) hB dL_rows_11 (by decide) (by omega) (fun c11 => ?_) (fun c11 => ?_)
  · refine a_aload_n hB dL_rows_18 rfl ?_
    refine a_iconstN (v := 0) hB dL_rows_19 (by decide) ?_
    refine a_ialoadN hB dL_rows_20 0 rfl (by omega) (by decide) ?_
    refine a_iconstN (v := 1) hB dL_rows_21 (by decide) ?_
    refine a_icmp_neN (tgt := 30) hB dL_rows_22 (by decide) (by omega) (by omega) (fun c22 => ?_) (fun c22 => ?_)
    · refine a_aload_n hB dL_rows_30 rfl ?_
      refine a_iconstN (v := 0) hB dL_rows_31 (by decide) ?_
      refine a_ialoadN hB dL_rows_32 0 rfl (by omega) (by decide) ?_
      refine a_iconstN (v := 2) hB dL_rows_33 (by decide) ?_
      refine a_icmp_neN (tgt := 42) hB dL_rows_34 (by decide) (by omega) (by omega) (fun c34 => ?_) (fun c34 => ?_)
      · refine a_sipushN (v := 216) hB dL_rows_42 (by decide) ?_
        exact aW_at [0, 1, 2, 3, 4] rfl rfl rfl (rs_scan hB hR hE hK h (by omega) (by rcases (show P.parts = 0 ∨ P.parts = 1 ∨ P.parts = 2 ∨ P.parts = 3 by omega) with q | q | q | q <;> first | (exfalso; omega) | rw [q]))
      · refine a_bipushN (v := 36) hB dL_rows_37 (by decide) ?_
        refine a_goto (tgt := 45) hB dL_rows_39 (by decide) ?_
        exact aW_at [0, 1, 2, 3, 4] rfl rfl rfl (rs_scan hB hR hE hK h (by omega) (by rcases (show P.parts = 0 ∨ P.parts = 1 ∨ P.parts = 2 ∨ P.parts = 3 by omega) with q | q | q | q <;> first | (exfalso; omega) | rw [q]))
    · refine a_bipushN (v := 6) hB dL_rows_25 (by decide) ?_
      refine a_goto (tgt := 45) hB dL_rows_27 (by decide) ?_
      exact aW_at [0, 1, 2, 3, 4] rfl rfl rfl (rs_scan hB hR hE hK h (by omega) (by rcases (show P.parts = 0 ∨ P.parts = 1 ∨ P.parts = 2 ∨ P.parts = 3 by omega) with q | q | q | q <;> first | (exfalso; omega) | rw [q]))
  · refine a_iconstN (v := 1) hB dL_rows_14 (by decide) ?_
    refine a_goto (tgt := 45) hB dL_rows_15 (by decide) ?_
    exact aW_at [0, 1, 2, 3, 4] rfl rfl rfl (rs_scan hB hR hE hK h (by omega) (by rcases (show P.parts = 0 ∨ P.parts = 1 ∨ P.parts = 2 ∨ P.parts = 3 by omega) with q | q | q | q <;> first | (exfalso; omega) | rw [q]))
