def sL_at : MS := (yL_at, cL_at, 2, (some .int), RL, 0)
def sL_cell : MS := (yL_cell, cL_cell, 2, (some .int), RL, 0)
def sL_total : MS := (yL_total, cL_total, 4, (some .int), RL, 0)
def sL_draw : MS := (yL_draw, cL_draw, 7, (some .int), RL, 1)
def sL_parts : MS := (yL_parts, cL_parts, 12, (some .boolean), RL, 8)
def sL_samples : MS := (yL_samples, cL_samples, 11, (some .boolean), RL, 8)
def sL_rows : MS := (yL_rows, cL_rows, 17, (some .boolean), RL, 8)
def sL_agree : MS := (yL_agree, cL_agree, 8, (some .boolean), RL, 9)
def sL_law : MS := (x, code, 9, ret, RL, 12)
/-- the law's four rows of numbers -/
abbrev w4 (G : GP) (na wa ua la : Nat) (nn ww uu ll : Nat → Nat) : va_W := [(na, aN G 6 nn), (wa, aN G 24 ww), (ua, aN G 24 uu), (la, aN G 3 ll)]
theorem wput_e (ws : va_W) : wput ws [] [] = ws := by rw [wput_nil, List.append_nil]
section LawRows
variable {G : GP} {σ τ : MS} {B : Bd} {pc k n na wa ua la mc ms idx nA : Nat} {L : List (Nat × Value)} {st rest As : List Value} {wC ws : va_W} {nn ww uu ll : Nat → Nat} {Qf : Option Value → va_W → Prop} {C : String}
theorem a_st0 (hB : Bok G σ B) {i v : Nat} (hd : decode σ.cc pc = .ok (.iastore, 1)) (hi : i < 6)
    (kk : aW G σ B (pc + 1) L rest (w4 G na wa ua la (uN nn i v) ww uu ll ++ wC) k n) : aW G σ B pc L (.int (nI v) :: .int (nI i) :: .ref na :: rest) (w4 G na wa ua la nn ww uu ll ++ wC) k n :=
  a_iastoreN hB hd 0 rfl hi (by decide) kk
theorem a_st1 (hB : Bok G σ B) {i v : Nat} (hd : decode σ.cc pc = .ok (.iastore, 1)) (hi : i < 24)
    (kk : aW G σ B (pc + 1) L rest (w4 G na wa ua la nn (uN ww i v) uu ll ++ wC) k n) : aW G σ B pc L (.int (nI v) :: .int (nI i) :: .ref wa :: rest) (w4 G na wa ua la nn ww uu ll ++ wC) k n :=
  a_iastoreN hB hd 1 rfl hi (by decide) kk
theorem a_st2 (hB : Bok G σ B) {i v : Nat} (hd : decode σ.cc pc = .ok (.iastore, 1)) (hi : i < 24)
    (kk : aW G σ B (pc + 1) L rest (w4 G na wa ua la nn ww (uN uu i v) ll ++ wC) k n) : aW G σ B pc L (.int (nI v) :: .int (nI i) :: .ref ua :: rest) (w4 G na wa ua la nn ww uu ll ++ wC) k n :=
  a_iastoreN hB hd 2 rfl hi (by decide) kk
theorem a_st3 (hB : Bok G σ B) {i v : Nat} (hd : decode σ.cc pc = .ok (.iastore, 1)) (hi : i < 3)
    (kk : aW G σ B (pc + 1) L rest (w4 G na wa ua la nn ww uu (uN ll i v) ++ wC) k n) : aW G σ B pc L (.int (nI v) :: .int (nI i) :: .ref la :: rest) (w4 G na wa ua la nn ww uu ll ++ wC) k n :=
  a_iastoreN hB hd 3 rfl hi (by decide) kk
/-- 'if (n[5] < 6) n[5]++' -/
theorem a_inc5 (hB : Bok G σ B) (d0 : decode σ.cc pc = .ok (.aload_n 3, 1)) (d1 : decode σ.cc (pc + 1) = .ok (.iconst 5, 1)) (d2 : decode σ.cc (pc + 1 + 1) = .ok (.iaload, 1)) (d3 : decode σ.cc (pc + 1 + 1 + 1) = .ok (.bipush 6, 2)) (d5 : decode σ.cc (pc + 1 + 1 + 1 + 2) = .ok (.if_icmp .ge 10, 3))
    (d8 : decode σ.cc (pc + 1 + 1 + 1 + 2 + 3) = .ok (.aload_n 3, 1)) (d9 : decode σ.cc (pc + 1 + 1 + 1 + 2 + 3 + 1) = .ok (.iconst 5, 1)) (d10 : decode σ.cc (pc + 1 + 1 + 1 + 2 + 3 + 1 + 1) = .ok (.dup2, 1)) (d11 : decode σ.cc (pc + 1 + 1 + 1 + 2 + 3 + 1 + 1 + 1) = .ok (.iaload, 1)) (d12 : decode σ.cc (pc + 1 + 1 + 1 + 2 + 3 + 1 + 1 + 1 + 1) = .ok (.iconst 1, 1)) (d13 : decode σ.cc (pc + 1 + 1 + 1 + 2 + 3 + 1 + 1 + 1 + 1 + 1) = .ok (.iadd, 1)) (d14 : decode σ.cc (pc + 1 + 1 + 1 + 2 + 3 + 1 + 1 + 1 + 1 + 1 + 1) = .ok (.iastore, 1))
    (hl : lget L ((3 : Fin 4) : Nat) = some (.ref na)) {tgt num : Nat} (ht : tgt = pc + 15) (hlt : 6 < 2 ^ 31) (h5 : nn 5 = num ∧ num ≤ 6)
    (kk : ∀ n1 : Nat → Nat, (∀ j, ¬ j = 5 → n1 j = nn j) → n1 5 = min (num + 1) 6 → aW G σ B tgt L rest (w4 G na wa ua la n1 ww uu ll ++ wC) k n) : aW G σ B pc L rest (w4 G na wa ua la nn ww uu ll ++ wC) k n := by
  obtain ⟨e5, h6⟩ := h5
  refine a_aload_n hB d0 hl ?_
  refine a_iconstN (v := 5) hB d1 (by decide) ?_
  refine a_ialoadN hB d2 0 rfl (by decide) (by decide) ?_
  refine a_bipushN (v := 6) hB d3 (by decide) ?_
  refine a_icmp_geN (tgt := tgt) hB d5 (by omega) (by omega) hlt (fun c => ?_) (fun c => ?_)
  · exact kk nn (fun _ _ => rfl) (by omega)
  · refine a_aload_n hB d8 hl ?_
    refine a_iconstN (v := 5) hB d9 (by decide) ?_
    refine a_dup2_11 hB d10 rfl rfl ?_
    refine a_ialoadN hB d11 0 rfl (by decide) (by decide) ?_
    refine a_iconstN (v := 1) hB d12 (by decide) ?_
    refine a_iaddN hB d13 ?_
    refine a_st0 hB d14 (by decide) ?_
    have e : pc + 1 + 1 + 1 + 2 + 3 + 1 + 1 + 1 + 1 + 1 + 1 + 1 = tgt := by omega
    rw [e]
    refine kk (uN nn 5 (nn 5 + 1)) (fun j hj => if_neg hj) ?_
    rw [show uN nn 5 (nn 5 + 1) 5 = nn 5 + 1 from if_pos rfl]
    omega
/-- a call of one of the law's own methods, over the whole world -/
theorem a_callSq (hB : Bok G σ B) (hM : AM G τ mc ms As ws Qf) (mk : MKs τ.y τ.cc τ.nL τ.ret C nA) (hw : Cond.methodLink σ.own idx τ.y ∈ gw) (hd : decode σ.cc pc = .ok (.invokestatic idx, 3)) (hst : st = As.reverse ++ rest) (hnA : As.length = nA)
    (hfit : B.fits τ k n mc ms) (hcat : (rest.map fun v => v.category).sum ≤ 8)
    (kk : ∀ (v : Option Value) (w : va_W), Qf v w → aW G σ B (pc + 3) L (v.toList ++ rest) w (k + mc) (n + ms)) : aW G σ B pc L st ws k n := by
  have hs := seg_map ws [] []
  rw [List.append_nil, List.nil_append] at hs
  refine a_callS hB hM mk hw hd hst hnA (segL 0 ws.length) hs (segL_nd _ _) hfit hcat (fun v w hq hk => ?_)
  have hp := wput_front (wr := []) hk
  rw [List.append_nil, List.append_nil] at hp
  exact aW_perm hp (kk v w hq)
end LawRows
set_option maxHeartbeats 4000000 in
set_option maxRecDepth 100000 in
theorem c_L_at {G : GP} {x : Int32} {N : Nat} (h0 : 0 < N) (hNN : N < 2 ^ 31) : AM G sL_at 0 0 [.int x, .int (nI N)] [] (fun v w => (∃ r, r < N ∧ v = some (.int (nI r))) ∧ w = []) := by
  refine AM.of (σ := sL_at) (by decide +kernel) (by decide +kernel) (Nat.le_of_ble_eq_true rfl) (fun B hB hR hE0 hN => ?_)
  have hE := BE.of hE0
  refine a_iload_n hB dL_at_0 rfl ?_
  refine a_iconstN (v := 1) hB dL_at_1 (by decide) ?_
  refine a_iushr1 hB dL_at_2 ?_
  refine a_iload_n hB dL_at_3 rfl ?_
  refine a_iremN hB dL_at_4 (ush1_lt _) h0 hNN ?_
  exact a_iret hB hE rfl dL_at_5 (Nat.le_of_ble_eq_true rfl) (Nat.le_of_ble_eq_true rfl) (AKeep.of rfl) ⟨⟨_, Nat.mod_lt _ h0, rfl⟩, rfl⟩
set_option maxHeartbeats 4000000 in
set_option maxRecDepth 100000 in
theorem c_L_cell {G : GP} {i : Nat} (hi : i < 2 ^ 31) (hLn : G.sn ≤ 2048) : AM G sL_cell 0 0 [.ref G.sb, .int (nI i)] [] (fun v w => (∃ x : Int32, v = some (.int x)) ∧ w = []) := by
  refine AM.of (σ := sL_cell) (by decide +kernel) (by decide +kernel) (Nat.le_of_ble_eq_true rfl) (fun B hB hR hE0 hN => ?_)
  have hE := BE.of hE0
  refine a_iload_n hB dL_cell_0 rfl ?_
  refine a_aload_n hB dL_cell_1 rfl ?_
  refine a_scrLen hB dL_cell_2 ?_
  refine a_icmp_geN (tgt := 12) hB dL_cell_3 (by decide) hi (by omega) (fun c3 => ?_) (fun c3 => ?_)
  · refine a_ldc (v := 1518025757) hB dL_cell_12 kk_L_7 ?_
    refine a_iload_n hB dL_cell_14 rfl ?_
    refine a_sipushN (v := 587) hB dL_cell_15 (by decide) ?_
    refine a_iaddN hB dL_cell_18 ?_
    refine a_imul hB dL_cell_19 ?_
    exact a_iret hB hE rfl dL_cell_20 (Nat.le_of_ble_eq_true rfl) (Nat.le_of_ble_eq_true rfl) (AKeep.of rfl) ⟨⟨_, rfl⟩, rfl⟩
  · refine a_aload_n hB dL_cell_6 rfl ?_
    refine a_iload_n hB dL_cell_7 rfl ?_
    refine a_scrGet hB (by omega) hLn dL_cell_8 ?_
    refine a_goto (tgt := 20) hB dL_cell_9 (by decide) ?_
    exact a_iret hB hE rfl dL_cell_20 (Nat.le_of_ble_eq_true rfl) (Nat.le_of_ble_eq_true rfl) (AKeep.of rfl) ⟨⟨_, rfl⟩, rfl⟩
set_option maxHeartbeats 4000000 in
set_option maxRecDepth 100000 in
theorem c_L_total {G : GP} {a p : Nat} {w : Nat → Nat} (hp : p < 4) : AMd G sL_total [.ref a, .int (nI p)] [(a, aN G 24 w)] (some (.int (nI (sumN (fun l => w (6 * p + l)) 6)))) [(a, aN G 24 w)] := by
  refine AM.of (σ := sL_total) (by decide +kernel) (by decide +kernel) (Nat.le_of_ble_eq_true rfl) (fun B hB hR hE0 hN => ?_)
  have hE := BE.of hE0
  refine a_iconstN (v := 0) hB dL_total_0 (by decide) ?_
  refine a_istore_n hB dL_total_1 (by decide) ?_
  refine a_iconstN (v := 0) hB dL_total_2 (by decide) ?_
  refine a_istore_n hB dL_total_3 (by decide) ?_
  have lp4 : ∀ (j4 i : Nat), i + j4 = 6 → aW G sL_total B 4 [(0, .ref a), (1, .int (nI p)), (2, .int (nI (sumN (fun l => w (6 * p + l)) i))), (3, .int (nI i))] [] [(a, aN G 24 w)] 0 0 := by
    intro j4
    induction j4 with
    | zero =>
      intro i hi
      refine a_iload_n hB dL_total_4 rfl ?_
      refine a_bipushN (v := 6) hB dL_total_5 (by decide) ?_
      refine a_icmp_geN_t (tgt := 27) hB dL_total_7 (by decide) (by omega) (by omega) (by omega) ?_
      refine a_iload_n hB dL_total_27 rfl ?_
      exact a_iret hB hE rfl dL_total_28 (Nat.le_of_ble_eq_true rfl) (Nat.le_of_ble_eq_true rfl) (AKeep.of rfl) ⟨by rw [show i = 6 by omega], rfl⟩
    | succ j4 ih4 =>
      intro i hi
      refine a_iload_n hB dL_total_4 rfl ?_
      refine a_bipushN (v := 6) hB dL_total_5 (by decide) ?_
      refine a_icmp_geN_f (tgt := 27) hB dL_total_7 (by decide) (by omega) (by omega) (by omega) ?_
      refine a_iload_n hB dL_total_10 rfl ?_
      refine a_aload_n hB dL_total_11 rfl ?_
      refine a_bipushN (v := 6) hB dL_total_12 (by decide) ?_
      refine a_iload_n hB dL_total_14 rfl ?_
      refine a_imulN hB dL_total_15 ?_
      refine a_iload_n hB dL_total_16 rfl ?_
      refine a_iaddN hB dL_total_17 ?_
      refine a_ialoadN hB dL_total_18 0 rfl (by omega) (by decide) ?_
      refine a_iaddN hB dL_total_19 ?_
      refine a_istore_n hB dL_total_20 (by decide) ?_
      refine a_iincN (b := 1) hB dL_total_21 rfl (by decide) (by decide) ?_
      refine a_goto (tgt := 4) hB dL_total_24 (by decide) ?_
      exact aW_at [0, 1, 2, 3] rfl rfl rfl (ih4 (i + 1) (by omega))
  exact aW_at [0, 1, 2, 3] rfl rfl rfl (lp4 (6) 0 (by omega))
set_option maxHeartbeats 4000000 in
set_option maxRecDepth 100000 in
theorem c_L_draw {G : GP} {na ua p : Nat} {nn uu : Nat → Nat} (hp : p < 4) (hs : nn 2 < 2147483648) (hT : 0 < sumN (fun l => uu (6 * p + l)) 6) (hT2 : sumN (fun l => uu (6 * p + l)) 6 < 2 ^ 31) : AM G sL_draw 0 0 [.ref na, .ref ua, .int (nI p)] [(na, aN G 6 nn), (ua, aN G 24 uu)] (fun v w => v = some (.int (nI (dl6 (fun l => uu (6 * p + l)) (nxt (nn 2) / 65536 % sumN (fun l => uu (6 * p + l)) 6)))) ∧ w = [(na, aN G 6 (uN nn 2 (nxt (nn 2)))), (ua, aN G 24 uu)]) := by
  refine AM.of (σ := sL_draw) (by decide +kernel) (by decide +kernel) (Nat.le_of_ble_eq_true rfl) (fun B hB hR hE0 hN => ?_)
  have hE := BE.of hE0
  have hnx := nxt_lt (nn 2)
  have hnm : nxt (nn 2) / 65536 % sumN (fun l => uu (6 * p + l)) 6 < sumN (fun l => uu (6 * p + l)) 6 := Nat.mod_lt _ hT
  obtain ⟨hd1, hd2, hd3⟩ := dl6_spec hnm
  have hsub : ∀ i, nxt (nn 2) / 65536 % sumN (fun l => uu (6 * p + l)) 6 - sumN (fun l => uu (6 * p + l)) i - uu (6 * p + i) = nxt (nn 2) / 65536 % sumN (fun l => uu (6 * p + l)) 6 - sumN (fun l => uu (6 * p + l)) (i + 1) := fun i => Nat.sub_sub _ _ _
  refine a_aload_n hB dL_draw_0 rfl ?_
  refine a_iconstN (v := 2) hB dL_draw_1 (by decide) ?_
  refine a_ialoadN hB dL_draw_2 0 rfl (by omega) (by decide) ?_
  refine a_i2lN hB dL_draw_3 (by omega) ?_
  refine a_ldc2N (v := 1103515245) hB dL_draw_4 kk_L_8 (by decide) ?_
  refine a_lmulN hB dL_draw_7 ?_
  refine a_ldc2N (v := 12345) hB dL_draw_8 kk_L_10 (by decide) ?_
  refine a_laddN hB dL_draw_11 ?_
  refine a_lstore_n hB dL_draw_12 (by decide) ?_
  refine a_aload_n hB dL_draw_13 rfl ?_
  refine a_iconstN (v := 2) hB dL_draw_14 (by decide) ?_
  refine a_lload_n hB dL_draw_15 rfl ?_
  refine a_ldc2N (v := 2147483647) hB dL_draw_16 kk_L_12 (by decide) ?_
  refine a_land31 hB dL_draw_19 ?_
  rw [← nxt_eq]
  refine a_l2iN hB dL_draw_20 ?_
  refine a_iastoreN hB dL_draw_21 0 rfl (by omega) (by decide) ?_
  refine a_aload_n hB dL_draw_22 rfl ?_
  refine a_iconstN (v := 2) hB dL_draw_23 (by decide) ?_
  refine a_ialoadN hB dL_draw_24 0 rfl (by omega) (by decide) ?_
  show aW G sL_draw B _ _ (.int (nI (nxt (nn 2))) :: _) _ _ _
  refine a_bipushN (v := 16) hB dL_draw_25 (by decide) ?_
  refine a_ishr16 hB dL_draw_27 (by omega) ?_
  refine a_aload_n hB dL_draw_28 rfl ?_
  refine a_iload_n hB dL_draw_29 rfl ?_
  refine a_callSr hB (c_L_total (by omega)) mk_L_total ml_L_14 dL_draw_30 rfl rfl [1] rfl (by decide) (fit_of hR (by decide)) (Nat.le_of_ble_eq_true rfl) ?_
  refine a_iremN hB dL_draw_33 (by omega) (by omega) (by omega) ?_
  refine a_istore hB dL_draw_34 (by decide) ?_
  refine a_iconstN (v := 0) hB dL_draw_36 (by decide) ?_
  refine a_istore hB dL_draw_37 (by decide) ?_
  have lp39 : ∀ (j39 i : Nat), i + j39 = dl6 (fun l => uu (6 * p + l)) (nxt (nn 2) / 65536 % sumN (fun l => uu (6 * p + l)) 6) → aW G sL_draw B 39 [(0, .ref na), (1, .ref ua), (2, .int (nI p)), (5, .int (nI (nxt (nn 2) / 65536 % sumN (fun l => uu (6 * p + l)) 6 - sumN (fun l => uu (6 * p + l)) i))), (6, .int (nI i))] [] [(na, aN G 6 (uN nn 2 (nxt (nn 2)))), (ua, aN G 24 uu)] 0 0 := by
    intro j39
    induction j39 with
    | zero =>
      intro i hi
      have hi6 : i < 6 := by omega
      have hri : i = dl6 (fun l => uu (6 * p + l)) (nxt (nn 2) / 65536 % sumN (fun l => uu (6 * p + l)) 6) := by omega
      have hlt : nxt (nn 2) / 65536 % sumN (fun l => uu (6 * p + l)) 6 < sumN (fun l => uu (6 * p + l)) i + uu (6 * p + i) := by rw [← hri] at hd2; exact hd2
      have hT6 : uu (6 * p + i) ≤ sumN (fun l => uu (6 * p + l)) 6 := sumN_ge (f := (fun l => uu (6 * p + l))) hi6
      have hle0 : sumN (fun l => uu (6 * p + l)) i ≤ nxt (nn 2) / 65536 % sumN (fun l => uu (6 * p + l)) 6 := by
        rcases Nat.eq_zero_or_pos i with q | q
        · rw [q]; exact Nat.zero_le _
        · have h9 := hd3 (i - 1) (by omega)
          rw [show i - 1 + 1 = i by omega] at h9
          exact h9
      refine a_iload hB dL_draw_39 rfl ?_
      refine a_aload_n hB dL_draw_41 rfl ?_
      refine a_bipushN (v := 6) hB dL_draw_42 (by decide) ?_
      refine a_iload_n hB dL_draw_44 rfl ?_
      refine a_imulN hB dL_draw_45 ?_
      refine a_iload hB dL_draw_46 rfl ?_
      refine a_iaddN hB dL_draw_48 ?_
      refine a_ialoadN hB dL_draw_49 1 rfl (by omega) (by decide) ?_
      refine a_icmp_ltN_t (tgt := 73) hB dL_draw_50 (by decide) (by omega) (by omega) (by omega) ?_
      refine a_iload hB dL_draw_73 rfl ?_
      exact a_iret hB hE rfl dL_draw_75 (Nat.le_of_ble_eq_true rfl) (Nat.le_of_ble_eq_true rfl) (AKeep.of rfl) ⟨by rw [show i = dl6 (fun l => uu (6 * p + l)) (nxt (nn 2) / 65536 % sumN (fun l => uu (6 * p + l)) 6) by omega], rfl⟩
    | succ j39 ih39 =>
      intro i hi
      have hi6 : i < 6 := by omega
      have hle : sumN (fun l => uu (6 * p + l)) i + uu (6 * p + i) ≤ nxt (nn 2) / 65536 % sumN (fun l => uu (6 * p + l)) 6 := hd3 i (by omega)
      refine a_iload hB dL_draw_39 rfl ?_
      refine a_aload_n hB dL_draw_41 rfl ?_
      refine a_bipushN (v := 6) hB dL_draw_42 (by decide) ?_
      refine a_iload_n hB dL_draw_44 rfl ?_
      refine a_imulN hB dL_draw_45 ?_
      refine a_iload hB dL_draw_46 rfl ?_
      refine a_iaddN hB dL_draw_48 ?_
      refine a_ialoadN hB dL_draw_49 1 rfl (by omega) (by decide) ?_
      refine a_icmp_ltN_f (tgt := 73) hB dL_draw_50 (by decide) (by omega) (by omega) (by omega) ?_
      refine a_iload hB dL_draw_53 rfl ?_
      refine a_aload_n hB dL_draw_55 rfl ?_
      refine a_bipushN (v := 6) hB dL_draw_56 (by decide) ?_
      refine a_iload_n hB dL_draw_58 rfl ?_
      refine a_imulN hB dL_draw_59 ?_
      refine a_iload hB dL_draw_60 rfl ?_
      refine a_iincN (b := 1) hB dL_draw_62 rfl (by decide) (by decide) ?_
      refine a_iaddN hB dL_draw_65 ?_
      refine a_ialoadN hB dL_draw_66 1 rfl (by omega) (by decide) ?_
      refine a_isubN hB dL_draw_67 (by omega) ?_
      refine a_istore hB dL_draw_68 (by decide) ?_
      refine a_goto (tgt := 39) hB dL_draw_70 (by decide) ?_
      exact aW_at [0, 1, 2, 3, 4] (by rw [← hsub i]; rfl) rfl rfl (ih39 (i + 1) (by omega))
  exact aW_at [0, 1, 2, 4, 5] rfl rfl rfl (lp39 (dl6 (fun l => uu (6 * p + l)) (nxt (nn 2) / 65536 % sumN (fun l => uu (6 * p + l)) 6)) 0 (by omega))
