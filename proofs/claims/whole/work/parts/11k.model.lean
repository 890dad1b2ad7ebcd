set_option maxHeartbeats 4000000 in
set_option maxRecDepth 100000 in
theorem c_X10_drawLoad {G : GP} {ma z : Nat → Nat} {sf : Nat → UInt64} {st : Nat} {hh : Nat → Nat} {sh : Nat → UInt64} {len : Nat} {tx : Nat → Nat} {th : Nat} {wy mo td : Nat → Nat} {re lo to : Nat} {rw : Nat → Nat} {ha : Int64} {p r : Nat} (hp : p < 6) (hz : z 2 < 2147483648) (ht9 : ∀ l, l < 6 → gt (tq (uN z 2 (nxt (z 2)))) p l ≤ 99) (hpos : 0 < tot (tq (uN z 2 (nxt (z 2)))) p) (htt : tot (tq (uN z 2 (nxt (z 2)))) p ≤ 594) (hr : r < 6) (hd : ((uN z 2 (nxt (z 2))) 2 / 65536 % tot (tq (uN z 2 (nxt (z 2)))) p) < sumN (fun l => gt (tq (uN z 2 (nxt (z 2)))) p l) (r + 1)) (h0 : ∀ l, l < r → sumN (fun l => gt (tq (uN z 2 (nxt (z 2)))) p l) (l + 1) ≤ ((uN z 2 (nxt (z 2))) 2 / 65536 % tot (tq (uN z 2 (nxt (z 2)))) p)) (hs9 : ∀ i, i ≤ 6 → sumN (fun l => gt (tq (uN z 2 (nxt (z 2)))) p l) i ≤ 594) : AMd G sX10_drawLoad [.ref (ma 0), .int (nI p)] (wM G ma z sf st hh sh len tx th wy mo td re lo to rw ha) (some (.int (nI r))) (wM G ma (uN z 2 (nxt (z 2))) sf st hh sh len tx th wy mo td re lo to rw ha) := by
  refine AM.of (σ := sX10_drawLoad) (by decide +kernel) (by decide +kernel) (Nat.le_of_ble_eq_true rfl) (fun B hB hR hE0 hN => ?_)
  have hE := BE.of hE0
  have hnx := nxt_lt (z 2)
  have hz2 : uN z 2 (nxt (z 2)) 2 < 2147483648 := hnx
  have hnm : ((uN z 2 (nxt (z 2))) 2 / 65536 % tot (tq (uN z 2 (nxt (z 2)))) p) < tot (tq (uN z 2 (nxt (z 2)))) p := Nat.mod_lt _ hpos
  refine a_aload_n hB dX10_drawLoad_0 rfl ?_
  refine a_get (T := TX10) (ci := 10) hB dX10_drawLoad_1 0 fl_X10_7 lay_X10 rfl (by decide) rfl 0 rfl rfl ?_
  refine a_iconstN (v := 2) hB dX10_drawLoad_4 (by decide) ?_
  refine a_ialoadN hB dX10_drawLoad_5 1 rfl (by omega) (by decide) ?_
  refine a_i2lN hB dX10_drawLoad_6 (by omega) ?_
  refine a_ldc2N (v := 1103515245) hB dX10_drawLoad_7 kk_X10_57 (by decide) ?_
  refine a_lmulN hB dX10_drawLoad_10 ?_
  refine a_ldc2N (v := 12345) hB dX10_drawLoad_11 kk_X10_59 (by decide) ?_
  refine a_laddN hB dX10_drawLoad_14 ?_
  refine a_ldc2N (v := 2147483648) hB dX10_drawLoad_15 kk_X10_61 (by decide) ?_
  refine a_lremN hB dX10_drawLoad_18 (by omega) (by omega) (by omega) ?_
  rw [← nxt_eq]
  refine a_lstore_n hB dX10_drawLoad_19 (by decide) ?_
  refine a_aload_n hB dX10_drawLoad_20 rfl ?_
  refine a_get (T := TX10) (ci := 10) hB dX10_drawLoad_21 0 fl_X10_7 lay_X10 rfl (by decide) rfl 0 rfl rfl ?_
  refine a_iconstN (v := 2) hB dX10_drawLoad_24 (by decide) ?_
  refine a_lload_n hB dX10_drawLoad_25 rfl ?_
  refine a_l2iN hB dX10_drawLoad_26 ?_
  refine a_iastoreN hB dX10_drawLoad_27 1 rfl (by omega) (by decide) ?_
  refine a_aload_n hB dX10_drawLoad_28 rfl ?_
  refine a_get (T := TX10) (ci := 10) hB dX10_drawLoad_29 0 fl_X10_7 lay_X10 rfl (by decide) rfl 0 rfl rfl ?_
  refine a_iconstN (v := 2) hB dX10_drawLoad_32 (by decide) ?_
  refine a_ialoadN hB dX10_drawLoad_33 1 rfl (by omega) (by decide) ?_
  refine a_ldcN (v := 65536) hB dX10_drawLoad_34 kk_X10_63 (by decide) ?_
  refine a_idivN hB dX10_drawLoad_36 (by omega) (by omega) (by omega) ?_
  refine a_aload_n hB dX10_drawLoad_37 rfl ?_
  refine a_iload_n hB dX10_drawLoad_38 rfl ?_
  refine a_callVr (q0 := 0) hB (c_X10_tiltedTotalOf (z := (uN z 2 (nxt (z 2)))) (p := p) (by omega)) mk_X10_tiltedTotalOf ml_X10_64 dX10_drawLoad_39 rfl rfl [0, 1, 2, 3, 4, 5, 6, 7, 8, 9] rfl (by decide) rfl rfl (fit_of hR (by decide)) (Nat.le_of_ble_eq_true rfl) ?_
  refine a_iremN hB dX10_drawLoad_42 (by omega) (by omega) (by omega) ?_
  refine a_istore hB dX10_drawLoad_43 (by decide) ?_
  refine a_iconstN (v := 0) hB dX10_drawLoad_45 (by decide) ?_
  refine a_istore hB dX10_drawLoad_46 (by decide) ?_
  refine a_aload_n hB dX10_drawLoad_48 rfl ?_
  refine a_iload_n hB dX10_drawLoad_49 rfl ?_
  refine a_iconstN (v := 0) hB dX10_drawLoad_50 (by decide) ?_
  refine a_callVr (q0 := 0) hB (c_X10_tiltedOf (z := (uN z 2 (nxt (z 2)))) (p := p) (by omega) (by omega)) mk_X10_tiltedOf ml_X10_54 dX10_drawLoad_51 rfl rfl [0, 1, 2, 3, 4, 5, 6, 7, 8, 9] rfl (by decide) rfl rfl (fit_of hR (by decide)) (Nat.le_of_ble_eq_true rfl) ?_
  refine a_istore hB dX10_drawLoad_54 (by decide) ?_
  have lp56 : ∀ (j56 i : Nat), i + j56 = r → aW G sX10_drawLoad B 56 [(0, .ref (ma 0)), (1, .int (nI p)), (2, .long (lN (nxt (z 2)))), (4, .int (nI ((uN z 2 (nxt (z 2))) 2 / 65536 % tot (tq (uN z 2 (nxt (z 2)))) p))), (5, .int (nI i)), (6, .int (nI (sumN (fun l => gt (tq (uN z 2 (nxt (z 2)))) p l) (i + 1))))] [] (wM G ma (uN z 2 (nxt (z 2))) sf st hh sh len tx th wy mo td re lo to rw ha) 0 0 := by
    intro j56
    induction j56 with
    | zero =>
      intro i hi
      have hs1 := hs9 (i + 1) (by omega)
      refine a_iload hB dX10_drawLoad_56 rfl ?_
      refine a_iload hB dX10_drawLoad_58 rfl ?_
      refine a_icmp_gtN_t (tgt := 81) hB dX10_drawLoad_60 (by decide) (by omega) (by omega) (by rw [show i = r by omega]; exact hd) ?_
      refine a_iload hB dX10_drawLoad_81 rfl ?_
      exact a_iret hB hE rfl dX10_drawLoad_83 (Nat.le_of_ble_eq_true rfl) (Nat.le_of_ble_eq_true rfl) (AKeep.of rfl) ⟨by rw [show i = r by omega], rfl⟩
    | succ j56 ih56 =>
      intro i hi
      have hs1 := hs9 (i + 1) (by omega)
      refine a_iload hB dX10_drawLoad_56 rfl ?_
      refine a_iload hB dX10_drawLoad_58 rfl ?_
      refine a_icmp_gtN_f (tgt := 81) hB dX10_drawLoad_60 (by decide) (by omega) (by omega) (Nat.not_lt.mpr (h0 i (by omega))) ?_
      refine a_iincN (b := 1) hB dX10_drawLoad_63 rfl (by decide) (by decide) ?_
      refine a_iload hB dX10_drawLoad_66 rfl ?_
      refine a_aload_n hB dX10_drawLoad_68 rfl ?_
      refine a_iload_n hB dX10_drawLoad_69 rfl ?_
      refine a_iload hB dX10_drawLoad_70 rfl ?_
      refine a_callVr (q0 := 0) hB (c_X10_tiltedOf (z := (uN z 2 (nxt (z 2)))) (p := p) (by omega) (by omega)) mk_X10_tiltedOf ml_X10_54 dX10_drawLoad_72 rfl rfl [0, 1, 2, 3, 4, 5, 6, 7, 8, 9] rfl (by decide) rfl rfl (fit_of hR (by decide)) (Nat.le_of_ble_eq_true rfl) ?_
      refine a_iaddN hB dX10_drawLoad_75 ?_
      refine a_istore hB dX10_drawLoad_76 (by decide) ?_
      refine a_goto (tgt := 56) hB dX10_drawLoad_78 (by decide) ?_
      exact aW_at [0, 1, 2, 3, 4, 5] rfl rfl rfl (ih56 (i + 1) (by omega))
  exact aW_at [0, 1, 2, 3, 4, 5] (by rw [show sumN (fun l => gt (tq (uN z 2 (nxt (z 2)))) p l) (0 + 1) = gt (tq (uN z 2 (nxt (z 2)))) p 0 from Nat.zero_add _]; rfl) rfl rfl (lp56 (r) 0 (by omega))
