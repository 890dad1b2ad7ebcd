theorem dload_spec {tl : Nat → Nat} {p s : Nat} (h : 0 < tot tl p) : dload tl p s < 6 ∧ s / 65536 % tot tl p < sumN (fun l => gt tl p l) (dload tl p s + 1) ∧ ∀ l, l < dload tl p s → sumN (fun l => gt tl p l) (l + 1) ≤ s / 65536 % tot tl p := dl6_spec (Nat.mod_lt _ h)
theorem tot_pos {w : Nat → Nat} {p : Nat} (h : ∃ l, l < 6 ∧ 0 < gt w p l) : 0 < tot w p := by
  obtain ⟨l, hl, h0⟩ := h
  unfold tot sumN sumN sumN sumN sumN sumN sumN
  have : l = 0 ∨ l = 1 ∨ l = 2 ∨ l = 3 ∨ l = 4 ∨ l = 5 := by omega
  rcases this with rfl | rfl | rfl | rfl | rfl | rfl <;> omega
theorem rowS_seed (P : PV) (h : P.seed < 2147483648) : ∀ i, (rowS P i).1 < 2147483648
  | 0 => h
  | i + 1 => nxt_lt _
theorem rowS_sum {P : PV} {n : Nat} (h : ∀ p, p < n → ∃ l, l < 6 ∧ 0 < gt P.tl p l) : ∀ i, i ≤ n → (rowS P i).2.2.1 ≤ 5 * i
  | 0, _ => Nat.le_refl _
  | i + 1, hi => by
    have h1 := rowS_sum h i (by omega)
    have h2 := (dload_spec (s := nxt (rowS P i).1) (tot_pos (h i (by omega)))).1
    show (rowS P i).2.2.1 + dload P.tl i (nxt (rowS P i).1) ≤ 5 * (i + 1)
    omega
theorem PV.drawRow_0 {P : PV} (h : (rowS P P.parts).2.2.1 < P.limit) : P.drawRow = (P.rowP P.parts).setSv ((P.rowP P.parts).sv.add (rowS P P.parts).2.2.2 0) := by
  have e : P.isF = 0 := if_pos h
  unfold PV.drawRow
  rw [e]
theorem PV.drawRow_1 {P : PV} (h : ¬ (rowS P P.parts).2.2.1 < P.limit) : P.drawRow = (P.rowP P.parts).setSv ((P.rowP P.parts).sv.add (rowS P P.parts).2.2.2 1) := by
  have e : P.isF = 1 := if_neg h
  unfold PV.drawRow
  rw [e]
set_option maxHeartbeats 4000000 in
set_option maxRecDepth 100000 in
theorem c_X4_drawRow {G : GP} {pa : Nat → Nat} {P : PV} (hp : P.parts ≤ 6) (hlim : P.limit ≤ 99) (hw9 : ∀ j, P.wt j ≤ 9) (ht99 : ∀ j, P.tl j ≤ 99) (hpt : ∀ p, p < P.parts → ∃ l, l < 6 ∧ 0 < gt P.tl p l) (hsd : P.seed < 2147483648) (hc : ∀ i, i < P.parts → P.corOK (rowS P i).2.2.2 i (dload P.tl i (nxt (rowS P i).1))) (hA : vf_n64 (FP.dadd P.sv.sm (rowS P P.parts).2.2.2) ∧ vf_n64 (FP.dmul (rowS P P.parts).2.2.2 (rowS P P.parts).2.2.2) ∧ vf_n64 (FP.dadd P.sv.sq (FP.dmul (rowS P P.parts).2.2.2 (rowS P P.parts).2.2.2)) ∧ vf_n64 (FP.dadd P.sv.fs (rowS P P.parts).2.2.2)) : AMd G sX4_drawRow [.ref (pa 0)] (wP G pa P) none (wP G pa P.drawRow) := by
  refine AM.of (σ := sX4_drawRow) (by decide +kernel) (by decide +kernel) (Nat.le_of_ble_eq_true rfl) (fun B hB hR hE0 hN => ?_)
  have hE := BE.of hE0
  refine a_iconstN (v := 0) hB dX4_drawRow_0 (by decide) ?_
  refine a_istore_n hB dX4_drawRow_1 (by decide) ?_
  refine a_dconst1 hB dX4_drawRow_2 ?_
  refine a_dstore_n hB dX4_drawRow_3 (by decide) ?_
  refine a_iconstN (v := 0) hB dX4_drawRow_4 (by decide) ?_
  refine a_istore hB dX4_drawRow_5 (by decide) ?_
  have lp7 : ∀ (j7 i : Nat), i + j7 = P.parts → aW G sX4_drawRow B 7 [(0, .ref (pa 0)), (1, .int (nI (rowS P i).2.2.1)), (2, .double (rowS P i).2.2.2), (4, .int (nI i))] [] (wP G pa (P.rowP i)) 0 0 := by
    intro j7
    induction j7 with
    | zero =>
      intro i hi
      obtain rfl : i = P.parts := by omega
      have hsm := rowS_sum hpt P.parts (Nat.le_refl _)
      refine a_iload hB dX4_drawRow_7 rfl ?_
      refine a_aload_n hB dX4_drawRow_9 rfl ?_
      refine a_get (T := TX4) (ci := 4) hB dX4_drawRow_10 3 fl_X4_28 lay_X4 rfl (by decide) rfl 0 rfl rfl ?_
      refine a_icmp_geN_t (tgt := 56) hB dX4_drawRow_13 (by decide) (by omega) (by show P.parts < _; omega) (Nat.le_refl _) ?_
      refine a_aload_n hB dX4_drawRow_56 rfl ?_
      refine a_get (T := TX4) (ci := 4) hB dX4_drawRow_57 2 fl_X4_24 lay_X4 rfl (by decide) rfl 0 rfl rfl ?_
      refine a_dload_n hB dX4_drawRow_60 rfl ?_
      refine a_iload_n hB dX4_drawRow_61 rfl ?_
      refine a_aload_n hB dX4_drawRow_62 rfl ?_
      refine a_get (T := TX4) (ci := 4) hB dX4_drawRow_63 4 fl_X4_32 lay_X4 rfl (by decide) rfl 0 rfl rfl ?_
      refine a_icmp_ltN (tgt := 73) hB dX4_drawRow_66 (by decide) (by omega) (by show P.limit < _; omega) (fun c66 => ?_) (fun c66 => ?_)
      · have hdr := PV.drawRow_0 (P := P) c66
        refine a_iconstN (v := 0) hB dX4_drawRow_73 (by decide) ?_
        refine a_callVd (q0 := 5) hB (c_X5_add (S := (P.rowP P.parts).sv) (x := (rowS P P.parts).2.2.2) (by decide) (fun _ => hA.2.2.2) hA.1 hA.2.1 hA.2.2.1) mk_X5_add ml_X4_79 dX4_drawRow_74 rfl rfl [5, 6] rfl (by decide) rfl rfl (fit_of hR (by decide)) (Nat.le_of_ble_eq_true rfl) rfl ?_
        exact a_vret hB hE rfl dX4_drawRow_77 (Nat.le_of_ble_eq_true rfl) (Nat.le_of_ble_eq_true rfl) (AKeep.of rfl) ⟨rfl, by rw [hdr]; rfl⟩
      · have hdr := PV.drawRow_1 (P := P) c66
        refine a_iconstN (v := 1) hB dX4_drawRow_69 (by decide) ?_
        refine a_goto (tgt := 74) hB dX4_drawRow_70 (by decide) ?_
        refine a_callVd (q0 := 5) hB (c_X5_add (S := (P.rowP P.parts).sv) (x := (rowS P P.parts).2.2.2) (by decide) (fun _ => hA.2.2.2) hA.1 hA.2.1 hA.2.2.1) mk_X5_add ml_X4_79 dX4_drawRow_74 rfl rfl [5, 6] rfl (by decide) rfl rfl (fit_of hR (by decide)) (Nat.le_of_ble_eq_true rfl) rfl ?_
        exact a_vret hB hE rfl dX4_drawRow_77 (Nat.le_of_ble_eq_true rfl) (Nat.le_of_ble_eq_true rfl) (AKeep.of rfl) ⟨rfl, by rw [hdr]; rfl⟩
    | succ j7 ih7 =>
      intro i hi
      have hpos := tot_pos (hpt i (by omega))
      have hs := dload_spec (s := nxt (rowS P i).1) hpos
      refine a_iload hB dX4_drawRow_7 rfl ?_
      refine a_aload_n hB dX4_drawRow_9 rfl ?_
      refine a_get (T := TX4) (ci := 4) hB dX4_drawRow_10 3 fl_X4_28 lay_X4 rfl (by decide) rfl 0 rfl rfl ?_
      refine a_icmp_geN_f (tgt := 56) hB dX4_drawRow_13 (by decide) (by omega) (by show P.parts < _; omega) (by show ¬ P.parts ≤ i; omega) ?_
      refine a_aload_n hB dX4_drawRow_16 rfl ?_
      refine a_iload hB dX4_drawRow_17 rfl ?_
      refine a_callVd (w2 := wP G pa ((P.rowP i).setSeed (nxt (rowS P i).1))) (q0 := 0) hB (c_X4_drawLoad (pa := pa) (P := (P.rowP i)) (r := (dload P.tl i (nxt (rowS P i).1))) (by omega) ht99 hpos (rowS_seed P hsd i) hs.1 hs.2.1 hs.2.2) mk_X4_drawLoad ml_X4_68 dX4_drawRow_19 rfl rfl [0, 1, 2, 3, 4, 5, 6] rfl (by decide) rfl rfl (fit_of hR (by decide)) (Nat.le_of_ble_eq_true rfl) rfl ?_
      refine a_istore hB dX4_drawRow_22 (by decide) ?_
      refine a_aload_n hB dX4_drawRow_24 rfl ?_
      refine a_get (T := TX4) (ci := 4) hB dX4_drawRow_25 2 fl_X4_24 lay_X4 rfl (by decide) rfl 0 rfl rfl ?_
      refine a_iload hB dX4_drawRow_28 rfl ?_
      refine a_iload hB dX4_drawRow_30 rfl ?_
      refine a_callVd (w2 := wP G pa (((P.rowP i).setSeed (nxt (rowS P i).1)).setSv (((P.rowP i).setSeed (nxt (rowS P i).1)).sv.setL i (dload P.tl i (nxt (rowS P i).1))))) (q0 := 5) hB (c_X5_setLatestLoad (S := ((P.rowP i).setSeed (nxt (rowS P i).1)).sv) (p := i) (l := (dload P.tl i (nxt (rowS P i).1))) (by omega)) mk_X5_setLatestLoad ml_X4_71 dX4_drawRow_32 rfl rfl [5, 6] rfl (by decide) rfl rfl (fit_of hR (by decide)) (Nat.le_of_ble_eq_true rfl) rfl ?_
      refine a_iload_n hB dX4_drawRow_35 rfl ?_
      refine a_iload hB dX4_drawRow_36 rfl ?_
      refine a_iaddN hB dX4_drawRow_38 ?_
      refine a_istore_n hB dX4_drawRow_39 (by decide) ?_
      refine a_aload_n hB dX4_drawRow_40 rfl ?_
      refine a_dload_n hB dX4_drawRow_41 rfl ?_
      refine a_iload hB dX4_drawRow_42 rfl ?_
      refine a_iload hB dX4_drawRow_44 rfl ?_
      refine a_callVr (q0 := 0) hB (c_X4_corrected (pa := pa) (P := (((P.rowP i).setSeed (nxt (rowS P i).1)).setSv (((P.rowP i).setSeed (nxt (rowS P i).1)).sv.setL i (dload P.tl i (nxt (rowS P i).1))))) (c := (rowS P i).2.2.2) (p := i) (l := (dload P.tl i (nxt (rowS P i).1))) (by omega) hs.1 hw9 ht99 (hc i (by omega))) mk_X4_corrected ml_X4_75 dX4_drawRow_46 rfl rfl [0, 1, 2, 3, 4, 5, 6] rfl (by decide) rfl rfl (fit_of hR (by decide)) (Nat.le_of_ble_eq_true rfl) ?_
      show aW G sX4_drawRow B _ _ (.double (P.cor (rowS P i).2.2.2 i (dload P.tl i (nxt (rowS P i).1))) :: _) _ _ _
      refine a_dstore_n hB dX4_drawRow_49 (by decide) ?_
      refine a_iincN (b := 1) hB dX4_drawRow_50 rfl (by decide) (by decide) ?_
      refine a_goto (tgt := 7) hB dX4_drawRow_53 (by decide) ?_
      exact aW_at [0, 1, 2, 3] rfl rfl rfl (ih7 (i + 1) (by omega))
  exact aW_at [0, 1, 2, 3] rfl rfl rfl (lp7 (P.parts) 0 (by omega))
