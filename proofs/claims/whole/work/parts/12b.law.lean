def sL_addAll : MS := (yL_addAll, cL_addAll, 3, (some .int), RL, 7)
set_option maxHeartbeats 4000000 in
set_option maxRecDepth 100000 in
theorem hL_addAll_ok {G : GP} {wc : va_W} {mc ms xo oa : Nat} {fo : Nat → Int64} {fs : List Value} (hx : wc[0]? = some (xo, .inr (9, fs))) {Qf : Option Value → va_W → Prop} (hQ : ∀ v w, Qf v w → ∃ x9 : Int32, v = some (.int x9)) (hM : AM G sX9_addAll mc ms [.ref xo] wc Qf) : AMH G sL_addAll [(0, 8, 11, 13), (0, 8, 14, 15)] mc ms [.ref xo, .ref oa] ((oa, aJ G 1 fo) :: wc) (fun v w => v = some (.int (nI 0)) ∧ ∃ (x9 : Int32) (w9 : va_W), Qf (some (.int x9)) w9 ∧ w = (oa, aJ G 1 (vp_updL fo (nI 0).toNatClampNeg x9.toInt64)) :: w9) := by
  refine AMH.of (σ := sL_addAll) (by decide +kernel) (by decide +kernel) (Nat.le_of_ble_eq_true rfl) (fun B hB hR hE0 hT => ?_)
  have hE := BE.ofX hE0
  refine a_aload_n hB dL_addAll_0 rfl ?_
  refine a_iconstN (v := 0) hB dL_addAll_1 (by decide) ?_
  refine a_aload_n hB dL_addAll_2 rfl ?_
  refine a_callV (q0 := 1) hB hM mk_X9_addAll ml_L_44 dL_addAll_3 rfl rfl (segL 1 wc.length) (seg_tail _ wc) (segL_nd _ _) rfl hx (fit_ofG hR (by decide)) (Nat.le_of_ble_eq_true rfl) (fun v w hq hk => ?_)
  obtain ⟨x9, rfl⟩ := hQ _ _ hq
  refine aW_w (ws' := (oa, aJ G 1 fo) :: w) (wput_tail hk) ?_
  refine a_i2l hB dL_addAll_6 ?_
  refine a_lastore hB dL_addAll_7 0 rfl (vp_in_nI (by decide) (by decide)) ?_
  refine a_goto (tgt := 17) hB dL_addAll_8 (by decide) ?_
  refine a_iconstN (v := 0) hB dL_addAll_17 (by decide) ?_
  exact a_iret hB hE rfl dL_addAll_18 (Nat.le_of_eq (Nat.zero_add _)) (Nat.le_of_eq (Nat.zero_add _)) (AKeep.cons rfl hk) ⟨rfl, x9, w, hq, rfl⟩
set_option maxHeartbeats 4000000 in
set_option maxRecDepth 100000 in
theorem hL_addAll_1 {G : GP} {wc : va_W} {mc ms xo oa : Nat} {fo : Nat → Int64} {fs : List Value} (hx : wc[0]? = some (xo, .inr (9, fs))) (hM : AMX G sX9_addAll mc ms [.ref xo] wc (fun _ _ => False) (fun E w => E = xIAE ∧ w = wc)) : AMH G sL_addAll [(0, 8, 11, 13), (0, 8, 14, 15)] mc ms [.ref xo, .ref oa] ((oa, aJ G 1 fo) :: wc) (fun v w => v = some (.int (nI 1)) ∧ w = (oa, aJ G 1 fo) :: wc) := by
  refine AMH.of (σ := sL_addAll) (by decide +kernel) (by decide +kernel) (Nat.le_of_ble_eq_true rfl) (fun B hB hR hE0 hT => ?_)
  have hE := BE.ofX hE0
  refine a_aload_n hB dL_addAll_0 rfl ?_
  refine a_iconstN (v := 0) hB dL_addAll_1 (by decide) ?_
  refine a_aload_n hB dL_addAll_2 rfl ?_
  refine a_callVX (q0 := 1) hB hM mk_X9_addAll ml_L_44 dL_addAll_3 rfl rfl (segL 1 wc.length) (seg_tail _ wc) (segL_nd _ _) rfl hx (fit_ofG hR (by decide)) (Nat.le_of_ble_eq_true rfl) (fun E w hq hk => ?_) (fun v w hq hk => hq.elim)
  obtain ⟨rfl, hw9⟩ := hq
  refine aX_catch hB hT (by decide +kernel) (hp := []) (x := (0, 8, 11, 13)) (hq := [(0, 8, 14, 15)]) rfl (fun z hz => absurd hz List.not_mem_nil) (by decide) (by decide) cl_L_13 (fun q9 => ?_)
  refine aW_w (ws' := (oa, aJ G 1 fo) :: w) (wput_tail hk) ?_
  refine a_astore_n hB dL_addAll_11 (by decide) ?_
  refine a_iconstN (v := 1) hB dL_addAll_12 (by decide) ?_
  exact a_iret hB hE rfl dL_addAll_13 (Nat.le_of_eq (Nat.zero_add _)) (Nat.le_of_eq (Nat.zero_add _)) (AKeep.cons rfl hk) ⟨rfl, by rw [hw9]⟩
set_option maxHeartbeats 4000000 in
set_option maxRecDepth 100000 in
theorem hL_addAll_2 {G : GP} {wc : va_W} {mc ms xo oa : Nat} {fo : Nat → Int64} {fs : List Value} (hx : wc[0]? = some (xo, .inr (9, fs))) (hM : AMX G sX9_addAll mc ms [.ref xo] wc (fun _ _ => False) (fun E w => E = xISE ∧ w = wc)) : AMH G sL_addAll [(0, 8, 11, 13), (0, 8, 14, 15)] mc ms [.ref xo, .ref oa] ((oa, aJ G 1 fo) :: wc) (fun v w => v = some (.int (nI 2)) ∧ w = (oa, aJ G 1 fo) :: wc) := by
  refine AMH.of (σ := sL_addAll) (by decide +kernel) (by decide +kernel) (Nat.le_of_ble_eq_true rfl) (fun B hB hR hE0 hT => ?_)
  have hE := BE.ofX hE0
  refine a_aload_n hB dL_addAll_0 rfl ?_
  refine a_iconstN (v := 0) hB dL_addAll_1 (by decide) ?_
  refine a_aload_n hB dL_addAll_2 rfl ?_
  have hpass : ∀ z ∈ ([(0, 8, 11, 13)] : List (Nat × Nat × Nat × Nat)), z.2.2.2 ≠ 0 ∧ ∃ nm : String, Cond.classLink RL z.2.2.2 nm ∈ gw ∧ (xISE, nm) ∈ gwX := by
    intro z hz
    simp only [List.mem_cons, List.not_mem_nil, or_false] at hz
    rcases hz with rfl
    · exact ⟨by decide, xIAE, cl_L_13, by decide +kernel⟩
  refine a_callVX (q0 := 1) hB hM mk_X9_addAll ml_L_44 dL_addAll_3 rfl rfl (segL 1 wc.length) (seg_tail _ wc) (segL_nd _ _) rfl hx (fit_ofG hR (by decide)) (Nat.le_of_ble_eq_true rfl) (fun E w hq hk => ?_) (fun v w hq hk => hq.elim)
  obtain ⟨rfl, hw9⟩ := hq
  refine aX_catch hB hT (by decide +kernel) (hp := [(0, 8, 11, 13)]) (x := (0, 8, 14, 15)) (hq := []) rfl hpass (by decide) (by decide) cl_L_15 (fun q9 => ?_)
  refine aW_w (ws' := (oa, aJ G 1 fo) :: w) (wput_tail hk) ?_
  refine a_astore_n hB dL_addAll_14 (by decide) ?_
  refine a_iconstN (v := 2) hB dL_addAll_15 (by decide) ?_
  exact a_iret hB hE rfl dL_addAll_16 (Nat.le_of_eq (Nat.zero_add _)) (Nat.le_of_eq (Nat.zero_add _)) (AKeep.cons rfl hk) ⟨rfl, by rw [hw9]⟩
def sL_addPart : MS := (yL_addPart, cL_addPart, 4, (some .int), RL, 7)
set_option maxHeartbeats 4000000 in
set_option maxRecDepth 100000 in
theorem hL_addPart_ok {G : GP} {wc : va_W} {mc ms xo oa : Nat} {a : Int32} {fo : Nat → Int64} {fs : List Value} (hx : wc[0]? = some (xo, .inr (9, fs))) {Qf : Option Value → va_W → Prop} (hQ : ∀ v w, Qf v w → ∃ x9 : Int32, v = some (.int x9)) (hM : AM G sX9_addPart mc ms [.ref xo, .int a] wc Qf) : AMH G sL_addPart [(0, 9, 12, 13), (0, 9, 15, 15)] mc ms [.ref xo, .int a, .ref oa] ((oa, aJ G 1 fo) :: wc) (fun v w => v = some (.int (nI 0)) ∧ ∃ (x9 : Int32) (w9 : va_W), Qf (some (.int x9)) w9 ∧ w = (oa, aJ G 1 (vp_updL fo (nI 0).toNatClampNeg x9.toInt64)) :: w9) := by
  refine AMH.of (σ := sL_addPart) (by decide +kernel) (by decide +kernel) (Nat.le_of_ble_eq_true rfl) (fun B hB hR hE0 hT => ?_)
  have hE := BE.ofX hE0
  refine a_aload_n hB dL_addPart_0 rfl ?_
  refine a_iconstN (v := 0) hB dL_addPart_1 (by decide) ?_
  refine a_aload_n hB dL_addPart_2 rfl ?_
  refine a_iload_n hB dL_addPart_3 rfl ?_
  refine a_callV (q0 := 1) hB hM mk_X9_addPart ml_L_7 dL_addPart_4 rfl rfl (segL 1 wc.length) (seg_tail _ wc) (segL_nd _ _) rfl hx (fit_ofG hR (by decide)) (Nat.le_of_ble_eq_true rfl) (fun v w hq hk => ?_)
  obtain ⟨x9, rfl⟩ := hQ _ _ hq
  refine aW_w (ws' := (oa, aJ G 1 fo) :: w) (wput_tail hk) ?_
  refine a_i2l hB dL_addPart_7 ?_
  refine a_lastore hB dL_addPart_8 0 rfl (vp_in_nI (by decide) (by decide)) ?_
  refine a_goto (tgt := 18) hB dL_addPart_9 (by decide) ?_
  refine a_iconstN (v := 0) hB dL_addPart_18 (by decide) ?_
  exact a_iret hB hE rfl dL_addPart_19 (Nat.le_of_eq (Nat.zero_add _)) (Nat.le_of_eq (Nat.zero_add _)) (AKeep.cons rfl hk) ⟨rfl, x9, w, hq, rfl⟩
set_option maxHeartbeats 4000000 in
set_option maxRecDepth 100000 in
theorem hL_addPart_1 {G : GP} {wc : va_W} {mc ms xo oa : Nat} {a : Int32} {fo : Nat → Int64} {fs : List Value} (hx : wc[0]? = some (xo, .inr (9, fs))) (hM : AMX G sX9_addPart mc ms [.ref xo, .int a] wc (fun _ _ => False) (fun E w => E = xIAE ∧ w = wc)) : AMH G sL_addPart [(0, 9, 12, 13), (0, 9, 15, 15)] mc ms [.ref xo, .int a, .ref oa] ((oa, aJ G 1 fo) :: wc) (fun v w => v = some (.int (nI 1)) ∧ w = (oa, aJ G 1 fo) :: wc) := by
  refine AMH.of (σ := sL_addPart) (by decide +kernel) (by decide +kernel) (Nat.le_of_ble_eq_true rfl) (fun B hB hR hE0 hT => ?_)
  have hE := BE.ofX hE0
  refine a_aload_n hB dL_addPart_0 rfl ?_
  refine a_iconstN (v := 0) hB dL_addPart_1 (by decide) ?_
  refine a_aload_n hB dL_addPart_2 rfl ?_
  refine a_iload_n hB dL_addPart_3 rfl ?_
  refine a_callVX (q0 := 1) hB hM mk_X9_addPart ml_L_7 dL_addPart_4 rfl rfl (segL 1 wc.length) (seg_tail _ wc) (segL_nd _ _) rfl hx (fit_ofG hR (by decide)) (Nat.le_of_ble_eq_true rfl) (fun E w hq hk => ?_) (fun v w hq hk => hq.elim)
  obtain ⟨rfl, hw9⟩ := hq
  refine aX_catch hB hT (by decide +kernel) (hp := []) (x := (0, 9, 12, 13)) (hq := [(0, 9, 15, 15)]) rfl (fun z hz => absurd hz List.not_mem_nil) (by decide) (by decide) cl_L_13 (fun q9 => ?_)
  refine aW_w (ws' := (oa, aJ G 1 fo) :: w) (wput_tail hk) ?_
  refine a_astore_n hB dL_addPart_12 (by decide) ?_
  refine a_iconstN (v := 1) hB dL_addPart_13 (by decide) ?_
  exact a_iret hB hE rfl dL_addPart_14 (Nat.le_of_eq (Nat.zero_add _)) (Nat.le_of_eq (Nat.zero_add _)) (AKeep.cons rfl hk) ⟨rfl, by rw [hw9]⟩
set_option maxHeartbeats 4000000 in
set_option maxRecDepth 100000 in
theorem hL_addPart_2 {G : GP} {wc : va_W} {mc ms xo oa : Nat} {a : Int32} {fo : Nat → Int64} {fs : List Value} (hx : wc[0]? = some (xo, .inr (9, fs))) (hM : AMX G sX9_addPart mc ms [.ref xo, .int a] wc (fun _ _ => False) (fun E w => E = xISE ∧ w = wc)) : AMH G sL_addPart [(0, 9, 12, 13), (0, 9, 15, 15)] mc ms [.ref xo, .int a, .ref oa] ((oa, aJ G 1 fo) :: wc) (fun v w => v = some (.int (nI 2)) ∧ w = (oa, aJ G 1 fo) :: wc) := by
  refine AMH.of (σ := sL_addPart) (by decide +kernel) (by decide +kernel) (Nat.le_of_ble_eq_true rfl) (fun B hB hR hE0 hT => ?_)
  have hE := BE.ofX hE0
  refine a_aload_n hB dL_addPart_0 rfl ?_
  refine a_iconstN (v := 0) hB dL_addPart_1 (by decide) ?_
  refine a_aload_n hB dL_addPart_2 rfl ?_
  refine a_iload_n hB dL_addPart_3 rfl ?_
  have hpass : ∀ z ∈ ([(0, 9, 12, 13)] : List (Nat × Nat × Nat × Nat)), z.2.2.2 ≠ 0 ∧ ∃ nm : String, Cond.classLink RL z.2.2.2 nm ∈ gw ∧ (xISE, nm) ∈ gwX := by
    intro z hz
    simp only [List.mem_cons, List.not_mem_nil, or_false] at hz
    rcases hz with rfl
    · exact ⟨by decide, xIAE, cl_L_13, by decide +kernel⟩
  refine a_callVX (q0 := 1) hB hM mk_X9_addPart ml_L_7 dL_addPart_4 rfl rfl (segL 1 wc.length) (seg_tail _ wc) (segL_nd _ _) rfl hx (fit_ofG hR (by decide)) (Nat.le_of_ble_eq_true rfl) (fun E w hq hk => ?_) (fun v w hq hk => hq.elim)
  obtain ⟨rfl, hw9⟩ := hq
  refine aX_catch hB hT (by decide +kernel) (hp := [(0, 9, 12, 13)]) (x := (0, 9, 15, 15)) (hq := []) rfl hpass (by decide) (by decide) cl_L_15 (fun q9 => ?_)
  refine aW_w (ws' := (oa, aJ G 1 fo) :: w) (wput_tail hk) ?_
  refine a_astore_n hB dL_addPart_15 (by decide) ?_
  refine a_iconstN (v := 2) hB dL_addPart_16 (by decide) ?_
  exact a_iret hB hE rfl dL_addPart_17 (Nat.le_of_eq (Nat.zero_add _)) (Nat.le_of_eq (Nat.zero_add _)) (AKeep.cons rfl hk) ⟨rfl, by rw [hw9]⟩
def sL_append : MS := (yL_append, cL_append, 4, (some .int), RL, 8)
set_option maxHeartbeats 4000000 in
set_option maxRecDepth 100000 in
theorem hL_append_ok {G : GP} {wc : va_W} {mc ms xo oa : Nat} {a : Int32} {fo : Nat → Int64} {fs : List Value} (hx : wc[0]? = some (xo, .inr (9, fs))) {Qf : Option Value → va_W → Prop} (hQ : ∀ v w, Qf v w → ∃ x9 : Int32, v = some (.int x9)) (hM : AM G sX9_append mc ms [.ref xo, .int a] wc Qf) : AMH G sL_append [(0, 9, 12, 13), (0, 9, 15, 15)] mc ms [.ref xo, .int a, .ref oa] ((oa, aJ G 1 fo) :: wc) (fun v w => v = some (.int (nI 0)) ∧ ∃ (x9 : Int32) (w9 : va_W), Qf (some (.int x9)) w9 ∧ w = (oa, aJ G 1 (vp_updL fo (nI 0).toNatClampNeg x9.toInt64)) :: w9) := by
  refine AMH.of (σ := sL_append) (by decide +kernel) (by decide +kernel) (Nat.le_of_ble_eq_true rfl) (fun B hB hR hE0 hT => ?_)
  have hE := BE.ofX hE0
  refine a_aload_n hB dL_append_0 rfl ?_
  refine a_iconstN (v := 0) hB dL_append_1 (by decide) ?_
  refine a_aload_n hB dL_append_2 rfl ?_
  refine a_iload_n hB dL_append_3 rfl ?_
  refine a_callV (q0 := 1) hB hM mk_X9_append ml_L_41 dL_append_4 rfl rfl (segL 1 wc.length) (seg_tail _ wc) (segL_nd _ _) rfl hx (fit_ofG hR (by decide)) (Nat.le_of_ble_eq_true rfl) (fun v w hq hk => ?_)
  obtain ⟨x9, rfl⟩ := hQ _ _ hq
  refine aW_w (ws' := (oa, aJ G 1 fo) :: w) (wput_tail hk) ?_
  refine a_i2l hB dL_append_7 ?_
  refine a_lastore hB dL_append_8 0 rfl (vp_in_nI (by decide) (by decide)) ?_
  refine a_goto (tgt := 18) hB dL_append_9 (by decide) ?_
  refine a_iconstN (v := 0) hB dL_append_18 (by decide) ?_
  exact a_iret hB hE rfl dL_append_19 (Nat.le_of_eq (Nat.zero_add _)) (Nat.le_of_eq (Nat.zero_add _)) (AKeep.cons rfl hk) ⟨rfl, x9, w, hq, rfl⟩
set_option maxHeartbeats 4000000 in
set_option maxRecDepth 100000 in
theorem hL_append_1 {G : GP} {wc : va_W} {mc ms xo oa : Nat} {a : Int32} {fo : Nat → Int64} {fs : List Value} (hx : wc[0]? = some (xo, .inr (9, fs))) (hM : AMX G sX9_append mc ms [.ref xo, .int a] wc (fun _ _ => False) (fun E w => E = xIAE ∧ w = wc)) : AMH G sL_append [(0, 9, 12, 13), (0, 9, 15, 15)] mc ms [.ref xo, .int a, .ref oa] ((oa, aJ G 1 fo) :: wc) (fun v w => v = some (.int (nI 1)) ∧ w = (oa, aJ G 1 fo) :: wc) := by
  refine AMH.of (σ := sL_append) (by decide +kernel) (by decide +kernel) (Nat.le_of_ble_eq_true rfl) (fun B hB hR hE0 hT => ?_)
  have hE := BE.ofX hE0
  refine a_aload_n hB dL_append_0 rfl ?_
  refine a_iconstN (v := 0) hB dL_append_1 (by decide) ?_
  refine a_aload_n hB dL_append_2 rfl ?_
  refine a_iload_n hB dL_append_3 rfl ?_
  refine a_callVX (q0 := 1) hB hM mk_X9_append ml_L_41 dL_append_4 rfl rfl (segL 1 wc.length) (seg_tail _ wc) (segL_nd _ _) rfl hx (fit_ofG hR (by decide)) (Nat.le_of_ble_eq_true rfl) (fun E w hq hk => ?_) (fun v w hq hk => hq.elim)
  obtain ⟨rfl, hw9⟩ := hq
  refine aX_catch hB hT (by decide +kernel) (hp := []) (x := (0, 9, 12, 13)) (hq := [(0, 9, 15, 15)]) rfl (fun z hz => absurd hz List.not_mem_nil) (by decide) (by decide) cl_L_13 (fun q9 => ?_)
  refine aW_w (ws' := (oa, aJ G 1 fo) :: w) (wput_tail hk) ?_
  refine a_astore_n hB dL_append_12 (by decide) ?_
  refine a_iconstN (v := 1) hB dL_append_13 (by decide) ?_
  exact a_iret hB hE rfl dL_append_14 (Nat.le_of_eq (Nat.zero_add _)) (Nat.le_of_eq (Nat.zero_add _)) (AKeep.cons rfl hk) ⟨rfl, by rw [hw9]⟩
set_option maxHeartbeats 4000000 in
set_option maxRecDepth 100000 in
theorem hL_append_2 {G : GP} {wc : va_W} {mc ms xo oa : Nat} {a : Int32} {fo : Nat → Int64} {fs : List Value} (hx : wc[0]? = some (xo, .inr (9, fs))) (hM : AMX G sX9_append mc ms [.ref xo, .int a] wc (fun _ _ => False) (fun E w => E = xISE ∧ w = wc)) : AMH G sL_append [(0, 9, 12, 13), (0, 9, 15, 15)] mc ms [.ref xo, .int a, .ref oa] ((oa, aJ G 1 fo) :: wc) (fun v w => v = some (.int (nI 2)) ∧ w = (oa, aJ G 1 fo) :: wc) := by
  refine AMH.of (σ := sL_append) (by decide +kernel) (by decide +kernel) (Nat.le_of_ble_eq_true rfl) (fun B hB hR hE0 hT => ?_)
  have hE := BE.ofX hE0
  refine a_aload_n hB dL_append_0 rfl ?_
  refine a_iconstN (v := 0) hB dL_append_1 (by decide) ?_
  refine a_aload_n hB dL_append_2 rfl ?_
  refine a_iload_n hB dL_append_3 rfl ?_
  have hpass : ∀ z ∈ ([(0, 9, 12, 13)] : List (Nat × Nat × Nat × Nat)), z.2.2.2 ≠ 0 ∧ ∃ nm : String, Cond.classLink RL z.2.2.2 nm ∈ gw ∧ (xISE, nm) ∈ gwX := by
    intro z hz
    simp only [List.mem_cons, List.not_mem_nil, or_false] at hz
    rcases hz with rfl
    · exact ⟨by decide, xIAE, cl_L_13, by decide +kernel⟩
  refine a_callVX (q0 := 1) hB hM mk_X9_append ml_L_41 dL_append_4 rfl rfl (segL 1 wc.length) (seg_tail _ wc) (segL_nd _ _) rfl hx (fit_ofG hR (by decide)) (Nat.le_of_ble_eq_true rfl) (fun E w hq hk => ?_) (fun v w hq hk => hq.elim)
  obtain ⟨rfl, hw9⟩ := hq
  refine aX_catch hB hT (by decide +kernel) (hp := [(0, 9, 12, 13)]) (x := (0, 9, 15, 15)) (hq := []) rfl hpass (by decide) (by decide) cl_L_15 (fun q9 => ?_)
  refine aW_w (ws' := (oa, aJ G 1 fo) :: w) (wput_tail hk) ?_
  refine a_astore_n hB dL_append_15 (by decide) ?_
  refine a_iconstN (v := 2) hB dL_append_16 (by decide) ?_
  exact a_iret hB hE rfl dL_append_17 (Nat.le_of_eq (Nat.zero_add _)) (Nat.le_of_eq (Nat.zero_add _)) (AKeep.cons rfl hk) ⟨rfl, by rw [hw9]⟩
def sL_count : MS := (yL_count, cL_count, 4, (some .int), RL, 8)
set_option maxHeartbeats 4000000 in
set_option maxRecDepth 100000 in
theorem hL_count_ok {G : GP} {wc : va_W} {mc ms xo oa : Nat} {a : Int32} {fo : Nat → Int64} {fs : List Value} (hx : wc[0]? = some (xo, .inr (9, fs))) {Qf : Option Value → va_W → Prop} (hQ : ∀ v w, Qf v w → ∃ x9 : Int32, v = some (.int x9)) (hM : AM G sX9_count mc ms [.ref xo, .int a] wc Qf) : AMH G sL_count [(0, 9, 12, 13)] mc ms [.ref xo, .int a, .ref oa] ((oa, aJ G 1 fo) :: wc) (fun v w => v = some (.int (nI 0)) ∧ ∃ (x9 : Int32) (w9 : va_W), Qf (some (.int x9)) w9 ∧ w = (oa, aJ G 1 (vp_updL fo (nI 0).toNatClampNeg x9.toInt64)) :: w9) := by
  refine AMH.of (σ := sL_count) (by decide +kernel) (by decide +kernel) (Nat.le_of_ble_eq_true rfl) (fun B hB hR hE0 hT => ?_)
  have hE := BE.ofX hE0
  refine a_aload_n hB dL_count_0 rfl ?_
  refine a_iconstN (v := 0) hB dL_count_1 (by decide) ?_
  refine a_aload_n hB dL_count_2 rfl ?_
  refine a_iload_n hB dL_count_3 rfl ?_
  refine a_callV (q0 := 1) hB hM mk_X9_count ml_L_66 dL_count_4 rfl rfl (segL 1 wc.length) (seg_tail _ wc) (segL_nd _ _) rfl hx (fit_ofG hR (by decide)) (Nat.le_of_ble_eq_true rfl) (fun v w hq hk => ?_)
  obtain ⟨x9, rfl⟩ := hQ _ _ hq
  refine aW_w (ws' := (oa, aJ G 1 fo) :: w) (wput_tail hk) ?_
  refine a_i2l hB dL_count_7 ?_
  refine a_lastore hB dL_count_8 0 rfl (vp_in_nI (by decide) (by decide)) ?_
  refine a_goto (tgt := 15) hB dL_count_9 (by decide) ?_
  refine a_iconstN (v := 0) hB dL_count_15 (by decide) ?_
  exact a_iret hB hE rfl dL_count_16 (Nat.le_of_eq (Nat.zero_add _)) (Nat.le_of_eq (Nat.zero_add _)) (AKeep.cons rfl hk) ⟨rfl, x9, w, hq, rfl⟩
set_option maxHeartbeats 4000000 in
set_option maxRecDepth 100000 in
theorem hL_count_1 {G : GP} {wc : va_W} {mc ms xo oa : Nat} {a : Int32} {fo : Nat → Int64} {fs : List Value} (hx : wc[0]? = some (xo, .inr (9, fs))) (hM : AMX G sX9_count mc ms [.ref xo, .int a] wc (fun _ _ => False) (fun E w => E = xIAE ∧ w = wc)) : AMH G sL_count [(0, 9, 12, 13)] mc ms [.ref xo, .int a, .ref oa] ((oa, aJ G 1 fo) :: wc) (fun v w => v = some (.int (nI 1)) ∧ w = (oa, aJ G 1 fo) :: wc) := by
  refine AMH.of (σ := sL_count) (by decide +kernel) (by decide +kernel) (Nat.le_of_ble_eq_true rfl) (fun B hB hR hE0 hT => ?_)
  have hE := BE.ofX hE0
  refine a_aload_n hB dL_count_0 rfl ?_
  refine a_iconstN (v := 0) hB dL_count_1 (by decide) ?_
  refine a_aload_n hB dL_count_2 rfl ?_
  refine a_iload_n hB dL_count_3 rfl ?_
  refine a_callVX (q0 := 1) hB hM mk_X9_count ml_L_66 dL_count_4 rfl rfl (segL 1 wc.length) (seg_tail _ wc) (segL_nd _ _) rfl hx (fit_ofG hR (by decide)) (Nat.le_of_ble_eq_true rfl) (fun E w hq hk => ?_) (fun v w hq hk => hq.elim)
  obtain ⟨rfl, hw9⟩ := hq
  refine aX_catch hB hT (by decide +kernel) (hp := []) (x := (0, 9, 12, 13)) (hq := []) rfl (fun z hz => absurd hz List.not_mem_nil) (by decide) (by decide) cl_L_13 (fun q9 => ?_)
  refine aW_w (ws' := (oa, aJ G 1 fo) :: w) (wput_tail hk) ?_
  refine a_astore_n hB dL_count_12 (by decide) ?_
  refine a_iconstN (v := 1) hB dL_count_13 (by decide) ?_
  exact a_iret hB hE rfl dL_count_14 (Nat.le_of_eq (Nat.zero_add _)) (Nat.le_of_eq (Nat.zero_add _)) (AKeep.cons rfl hk) ⟨rfl, by rw [hw9]⟩
def sL_draw : MS := (yL_draw, cL_draw, 4, (some .int), RL, 8)
set_option maxHeartbeats 4000000 in
set_option maxRecDepth 100000 in
theorem hL_draw_ok {G : GP} {wc : va_W} {mc ms xo oa : Nat} {a : Int32} {fo : Nat → Int64} {fs : List Value} (hx : wc[0]? = some (xo, .inr (9, fs))) {Qf : Option Value → va_W → Prop} (hQ : ∀ v w, Qf v w → ∃ x9 : Int32, v = some (.int x9)) (hM : AM G sX9_draw mc ms [.ref xo, .int a] wc Qf) : AMH G sL_draw [(0, 9, 12, 13), (0, 9, 15, 15)] mc ms [.ref xo, .int a, .ref oa] ((oa, aJ G 1 fo) :: wc) (fun v w => v = some (.int (nI 0)) ∧ ∃ (x9 : Int32) (w9 : va_W), Qf (some (.int x9)) w9 ∧ w = (oa, aJ G 1 (vp_updL fo (nI 0).toNatClampNeg x9.toInt64)) :: w9) := by
  refine AMH.of (σ := sL_draw) (by decide +kernel) (by decide +kernel) (Nat.le_of_ble_eq_true rfl) (fun B hB hR hE0 hT => ?_)
  have hE := BE.ofX hE0
  refine a_aload_n hB dL_draw_0 rfl ?_
  refine a_iconstN (v := 0) hB dL_draw_1 (by decide) ?_
  refine a_aload_n hB dL_draw_2 rfl ?_
  refine a_iload_n hB dL_draw_3 rfl ?_
  refine a_callV (q0 := 1) hB hM mk_X9_draw ml_L_38 dL_draw_4 rfl rfl (segL 1 wc.length) (seg_tail _ wc) (segL_nd _ _) rfl hx (fit_ofG hR (by decide)) (Nat.le_of_ble_eq_true rfl) (fun v w hq hk => ?_)
  obtain ⟨x9, rfl⟩ := hQ _ _ hq
  refine aW_w (ws' := (oa, aJ G 1 fo) :: w) (wput_tail hk) ?_
  refine a_i2l hB dL_draw_7 ?_
  refine a_lastore hB dL_draw_8 0 rfl (vp_in_nI (by decide) (by decide)) ?_
  refine a_goto (tgt := 18) hB dL_draw_9 (by decide) ?_
  refine a_iconstN (v := 0) hB dL_draw_18 (by decide) ?_
  exact a_iret hB hE rfl dL_draw_19 (Nat.le_of_eq (Nat.zero_add _)) (Nat.le_of_eq (Nat.zero_add _)) (AKeep.cons rfl hk) ⟨rfl, x9, w, hq, rfl⟩
set_option maxHeartbeats 4000000 in
set_option maxRecDepth 100000 in
theorem hL_draw_1 {G : GP} {wc : va_W} {mc ms xo oa : Nat} {a : Int32} {fo : Nat → Int64} {fs : List Value} (hx : wc[0]? = some (xo, .inr (9, fs))) (hM : AMX G sX9_draw mc ms [.ref xo, .int a] wc (fun _ _ => False) (fun E w => E = xIAE ∧ w = wc)) : AMH G sL_draw [(0, 9, 12, 13), (0, 9, 15, 15)] mc ms [.ref xo, .int a, .ref oa] ((oa, aJ G 1 fo) :: wc) (fun v w => v = some (.int (nI 1)) ∧ w = (oa, aJ G 1 fo) :: wc) := by
  refine AMH.of (σ := sL_draw) (by decide +kernel) (by decide +kernel) (Nat.le_of_ble_eq_true rfl) (fun B hB hR hE0 hT => ?_)
  have hE := BE.ofX hE0
  refine a_aload_n hB dL_draw_0 rfl ?_
  refine a_iconstN (v := 0) hB dL_draw_1 (by decide) ?_
  refine a_aload_n hB dL_draw_2 rfl ?_
  refine a_iload_n hB dL_draw_3 rfl ?_
  refine a_callVX (q0 := 1) hB hM mk_X9_draw ml_L_38 dL_draw_4 rfl rfl (segL 1 wc.length) (seg_tail _ wc) (segL_nd _ _) rfl hx (fit_ofG hR (by decide)) (Nat.le_of_ble_eq_true rfl) (fun E w hq hk => ?_) (fun v w hq hk => hq.elim)
  obtain ⟨rfl, hw9⟩ := hq
  refine aX_catch hB hT (by decide +kernel) (hp := []) (x := (0, 9, 12, 13)) (hq := [(0, 9, 15, 15)]) rfl (fun z hz => absurd hz List.not_mem_nil) (by decide) (by decide) cl_L_13 (fun q9 => ?_)
  refine aW_w (ws' := (oa, aJ G 1 fo) :: w) (wput_tail hk) ?_
  refine a_astore_n hB dL_draw_12 (by decide) ?_
  refine a_iconstN (v := 1) hB dL_draw_13 (by decide) ?_
  exact a_iret hB hE rfl dL_draw_14 (Nat.le_of_eq (Nat.zero_add _)) (Nat.le_of_eq (Nat.zero_add _)) (AKeep.cons rfl hk) ⟨rfl, by rw [hw9]⟩
set_option maxHeartbeats 4000000 in
set_option maxRecDepth 100000 in
theorem hL_draw_2 {G : GP} {wc : va_W} {mc ms xo oa : Nat} {a : Int32} {fo : Nat → Int64} {fs : List Value} (hx : wc[0]? = some (xo, .inr (9, fs))) (hM : AMX G sX9_draw mc ms [.ref xo, .int a] wc (fun _ _ => False) (fun E w => E = xISE ∧ w = wc)) : AMH G sL_draw [(0, 9, 12, 13), (0, 9, 15, 15)] mc ms [.ref xo, .int a, .ref oa] ((oa, aJ G 1 fo) :: wc) (fun v w => v = some (.int (nI 2)) ∧ w = (oa, aJ G 1 fo) :: wc) := by
  refine AMH.of (σ := sL_draw) (by decide +kernel) (by decide +kernel) (Nat.le_of_ble_eq_true rfl) (fun B hB hR hE0 hT => ?_)
  have hE := BE.ofX hE0
  refine a_aload_n hB dL_draw_0 rfl ?_
  refine a_iconstN (v := 0) hB dL_draw_1 (by decide) ?_
  refine a_aload_n hB dL_draw_2 rfl ?_
  refine a_iload_n hB dL_draw_3 rfl ?_
  have hpass : ∀ z ∈ ([(0, 9, 12, 13)] : List (Nat × Nat × Nat × Nat)), z.2.2.2 ≠ 0 ∧ ∃ nm : String, Cond.classLink RL z.2.2.2 nm ∈ gw ∧ (xISE, nm) ∈ gwX := by
    intro z hz
    simp only [List.mem_cons, List.not_mem_nil, or_false] at hz
    rcases hz with rfl
    · exact ⟨by decide, xIAE, cl_L_13, by decide +kernel⟩
  refine a_callVX (q0 := 1) hB hM mk_X9_draw ml_L_38 dL_draw_4 rfl rfl (segL 1 wc.length) (seg_tail _ wc) (segL_nd _ _) rfl hx (fit_ofG hR (by decide)) (Nat.le_of_ble_eq_true rfl) (fun E w hq hk => ?_) (fun v w hq hk => hq.elim)
  obtain ⟨rfl, hw9⟩ := hq
  refine aX_catch hB hT (by decide +kernel) (hp := [(0, 9, 12, 13)]) (x := (0, 9, 15, 15)) (hq := []) rfl hpass (by decide) (by decide) cl_L_15 (fun q9 => ?_)
  refine aW_w (ws' := (oa, aJ G 1 fo) :: w) (wput_tail hk) ?_
  refine a_astore_n hB dL_draw_15 (by decide) ?_
  refine a_iconstN (v := 2) hB dL_draw_16 (by decide) ?_
  exact a_iret hB hE rfl dL_draw_17 (Nat.le_of_eq (Nat.zero_add _)) (Nat.le_of_eq (Nat.zero_add _)) (AKeep.cons rfl hk) ⟨rfl, by rw [hw9]⟩
def sL_ifLimit : MS := (yL_ifLimit, cL_ifLimit, 4, (some .int), RL, 8)
set_option maxHeartbeats 4000000 in
set_option maxRecDepth 100000 in
theorem hL_ifLimit_ok {G : GP} {wc : va_W} {mc ms xo oa : Nat} {a : Int32} {fo : Nat → UInt64} {fs : List Value} (hx : wc[0]? = some (xo, .inr (9, fs))) {Qf : Option Value → va_W → Prop} (hQ : ∀ v w, Qf v w → ∃ x9 : UInt64, v = some (.double x9)) (hM : AM G sX9_ifLimit mc ms [.ref xo, .int a] wc Qf) : AMH G sL_ifLimit [(0, 8, 11, 13)] mc ms [.ref xo, .int a, .ref oa] ((oa, aD G 1 fo) :: wc) (fun v w => v = some (.int (nI 0)) ∧ ∃ (x9 : UInt64) (w9 : va_W), Qf (some (.double x9)) w9 ∧ w = (oa, aD G 1 (vf_upd fo (nI 0).toNatClampNeg x9)) :: w9) := by
  refine AMH.of (σ := sL_ifLimit) (by decide +kernel) (by decide +kernel) (Nat.le_of_ble_eq_true rfl) (fun B hB hR hE0 hT => ?_)
  have hE := BE.ofX hE0
  refine a_aload_n hB dL_ifLimit_0 rfl ?_
  refine a_iconstN (v := 0) hB dL_ifLimit_1 (by decide) ?_
  refine a_aload_n hB dL_ifLimit_2 rfl ?_
  refine a_iload_n hB dL_ifLimit_3 rfl ?_
  refine a_callV (q0 := 1) hB hM mk_X9_ifLimit ml_L_73 dL_ifLimit_4 rfl rfl (segL 1 wc.length) (seg_tail _ wc) (segL_nd _ _) rfl hx (fit_ofG hR (by decide)) (Nat.le_of_ble_eq_true rfl) (fun v w hq hk => ?_)
  obtain ⟨x9, rfl⟩ := hQ _ _ hq
  refine aW_w (ws' := (oa, aD G 1 fo) :: w) (wput_tail hk) ?_
  refine a_dastore hB dL_ifLimit_7 0 rfl (vp_in_nI (by decide) (by decide)) ?_
  refine a_goto (tgt := 14) hB dL_ifLimit_8 (by decide) ?_
  refine a_iconstN (v := 0) hB dL_ifLimit_14 (by decide) ?_
  exact a_iret hB hE rfl dL_ifLimit_15 (Nat.le_of_eq (Nat.zero_add _)) (Nat.le_of_eq (Nat.zero_add _)) (AKeep.cons rfl hk) ⟨rfl, x9, w, hq, rfl⟩
set_option maxHeartbeats 4000000 in
set_option maxRecDepth 100000 in
theorem hL_ifLimit_1 {G : GP} {wc : va_W} {mc ms xo oa : Nat} {a : Int32} {fo : Nat → UInt64} {fs : List Value} (hx : wc[0]? = some (xo, .inr (9, fs))) (hM : AMX G sX9_ifLimit mc ms [.ref xo, .int a] wc (fun _ _ => False) (fun E w => E = xIAE ∧ w = wc)) : AMH G sL_ifLimit [(0, 8, 11, 13)] mc ms [.ref xo, .int a, .ref oa] ((oa, aD G 1 fo) :: wc) (fun v w => v = some (.int (nI 1)) ∧ w = (oa, aD G 1 fo) :: wc) := by
  refine AMH.of (σ := sL_ifLimit) (by decide +kernel) (by decide +kernel) (Nat.le_of_ble_eq_true rfl) (fun B hB hR hE0 hT => ?_)
  have hE := BE.ofX hE0
  refine a_aload_n hB dL_ifLimit_0 rfl ?_
  refine a_iconstN (v := 0) hB dL_ifLimit_1 (by decide) ?_
  refine a_aload_n hB dL_ifLimit_2 rfl ?_
  refine a_iload_n hB dL_ifLimit_3 rfl ?_
  refine a_callVX (q0 := 1) hB hM mk_X9_ifLimit ml_L_73 dL_ifLimit_4 rfl rfl (segL 1 wc.length) (seg_tail _ wc) (segL_nd _ _) rfl hx (fit_ofG hR (by decide)) (Nat.le_of_ble_eq_true rfl) (fun E w hq hk => ?_) (fun v w hq hk => hq.elim)
  obtain ⟨rfl, hw9⟩ := hq
  refine aX_catch hB hT (by decide +kernel) (hp := []) (x := (0, 8, 11, 13)) (hq := []) rfl (fun z hz => absurd hz List.not_mem_nil) (by decide) (by decide) cl_L_13 (fun q9 => ?_)
  refine aW_w (ws' := (oa, aD G 1 fo) :: w) (wput_tail hk) ?_
  refine a_astore_n hB dL_ifLimit_11 (by decide) ?_
  refine a_iconstN (v := 1) hB dL_ifLimit_12 (by decide) ?_
  exact a_iret hB hE rfl dL_ifLimit_13 (Nat.le_of_eq (Nat.zero_add _)) (Nat.le_of_eq (Nat.zero_add _)) (AKeep.cons rfl hk) ⟨rfl, by rw [hw9]⟩
def sL_likeliest : MS := (yL_likeliest, cL_likeliest, 4, (some .int), RL, 8)
set_option maxHeartbeats 4000000 in
set_option maxRecDepth 100000 in
theorem hL_likeliest_ok {G : GP} {wc : va_W} {mc ms xo oa : Nat} {a : Int32} {fo : Nat → Int64} {fs : List Value} (hx : wc[0]? = some (xo, .inr (9, fs))) {Qf : Option Value → va_W → Prop} (hQ : ∀ v w, Qf v w → ∃ x9 : Int32, v = some (.int x9)) (hM : AM G sX9_likeliest mc ms [.ref xo, .int a] wc Qf) : AMH G sL_likeliest [(0, 9, 12, 20)] mc ms [.ref xo, .int a, .ref oa] ((oa, aJ G 1 fo) :: wc) (fun v w => v = some (.int (nI 0)) ∧ ∃ (x9 : Int32) (w9 : va_W), Qf (some (.int x9)) w9 ∧ w = (oa, aJ G 1 (vp_updL fo (nI 0).toNatClampNeg x9.toInt64)) :: w9) := by
  refine AMH.of (σ := sL_likeliest) (by decide +kernel) (by decide +kernel) (Nat.le_of_ble_eq_true rfl) (fun B hB hR hE0 hT => ?_)
  have hE := BE.ofX hE0
  refine a_aload_n hB dL_likeliest_0 rfl ?_
  refine a_iconstN (v := 0) hB dL_likeliest_1 (by decide) ?_
  refine a_aload_n hB dL_likeliest_2 rfl ?_
  refine a_iload_n hB dL_likeliest_3 rfl ?_
  refine a_callV (q0 := 1) hB hM mk_X9_likeliest ml_L_63 dL_likeliest_4 rfl rfl (segL 1 wc.length) (seg_tail _ wc) (segL_nd _ _) rfl hx (fit_ofG hR (by decide)) (Nat.le_of_ble_eq_true rfl) (fun v w hq hk => ?_)
  obtain ⟨x9, rfl⟩ := hQ _ _ hq
  refine aW_w (ws' := (oa, aJ G 1 fo) :: w) (wput_tail hk) ?_
  refine a_i2l hB dL_likeliest_7 ?_
  refine a_lastore hB dL_likeliest_8 0 rfl (vp_in_nI (by decide) (by decide)) ?_
  refine a_goto (tgt := 15) hB dL_likeliest_9 (by decide) ?_
  refine a_iconstN (v := 0) hB dL_likeliest_15 (by decide) ?_
  exact a_iret hB hE rfl dL_likeliest_16 (Nat.le_of_eq (Nat.zero_add _)) (Nat.le_of_eq (Nat.zero_add _)) (AKeep.cons rfl hk) ⟨rfl, x9, w, hq, rfl⟩
set_option maxHeartbeats 4000000 in
set_option maxRecDepth 100000 in
theorem hL_likeliest_1 {G : GP} {wc : va_W} {mc ms xo oa : Nat} {a : Int32} {fo : Nat → Int64} {fs : List Value} (hx : wc[0]? = some (xo, .inr (9, fs))) (hM : AMX G sX9_likeliest mc ms [.ref xo, .int a] wc (fun _ _ => False) (fun E w => E = xIOB ∧ w = wc)) : AMH G sL_likeliest [(0, 9, 12, 20)] mc ms [.ref xo, .int a, .ref oa] ((oa, aJ G 1 fo) :: wc) (fun v w => v = some (.int (nI 1)) ∧ w = (oa, aJ G 1 fo) :: wc) := by
  refine AMH.of (σ := sL_likeliest) (by decide +kernel) (by decide +kernel) (Nat.le_of_ble_eq_true rfl) (fun B hB hR hE0 hT => ?_)
  have hE := BE.ofX hE0
  refine a_aload_n hB dL_likeliest_0 rfl ?_
  refine a_iconstN (v := 0) hB dL_likeliest_1 (by decide) ?_
  refine a_aload_n hB dL_likeliest_2 rfl ?_
  refine a_iload_n hB dL_likeliest_3 rfl ?_
  refine a_callVX (q0 := 1) hB hM mk_X9_likeliest ml_L_63 dL_likeliest_4 rfl rfl (segL 1 wc.length) (seg_tail _ wc) (segL_nd _ _) rfl hx (fit_ofG hR (by decide)) (Nat.le_of_ble_eq_true rfl) (fun E w hq hk => ?_) (fun v w hq hk => hq.elim)
  obtain ⟨rfl, hw9⟩ := hq
  refine aX_catch hB hT (by decide +kernel) (hp := []) (x := (0, 9, 12, 20)) (hq := []) rfl (fun z hz => absurd hz List.not_mem_nil) (by decide) (by decide) cl_L_20 (fun q9 => ?_)
  refine aW_w (ws' := (oa, aJ G 1 fo) :: w) (wput_tail hk) ?_
  refine a_astore_n hB dL_likeliest_12 (by decide) ?_
  refine a_iconstN (v := 1) hB dL_likeliest_13 (by decide) ?_
  exact a_iret hB hE rfl dL_likeliest_14 (Nat.le_of_eq (Nat.zero_add _)) (Nat.le_of_eq (Nat.zero_add _)) (AKeep.cons rfl hk) ⟨rfl, by rw [hw9]⟩
def sL_limit : MS := (yL_limit, cL_limit, 4, (some .int), RL, 8)
set_option maxHeartbeats 4000000 in
set_option maxRecDepth 100000 in
theorem hL_limit_ok {G : GP} {wc : va_W} {mc ms xo oa : Nat} {a : Int32} {fo : Nat → Int64} {fs : List Value} (hx : wc[0]? = some (xo, .inr (9, fs))) {Qf : Option Value → va_W → Prop} (hQ : ∀ v w, Qf v w → ∃ x9 : Int32, v = some (.int x9)) (hM : AM G sX9_limit mc ms [.ref xo, .int a] wc Qf) : AMH G sL_limit [(0, 9, 12, 13)] mc ms [.ref xo, .int a, .ref oa] ((oa, aJ G 1 fo) :: wc) (fun v w => v = some (.int (nI 0)) ∧ ∃ (x9 : Int32) (w9 : va_W), Qf (some (.int x9)) w9 ∧ w = (oa, aJ G 1 (vp_updL fo (nI 0).toNatClampNeg x9.toInt64)) :: w9) := by
  refine AMH.of (σ := sL_limit) (by decide +kernel) (by decide +kernel) (Nat.le_of_ble_eq_true rfl) (fun B hB hR hE0 hT => ?_)
  have hE := BE.ofX hE0
  refine a_aload_n hB dL_limit_0 rfl ?_
  refine a_iconstN (v := 0) hB dL_limit_1 (by decide) ?_
  refine a_aload_n hB dL_limit_2 rfl ?_
  refine a_iload_n hB dL_limit_3 rfl ?_
  refine a_callV (q0 := 1) hB hM mk_X9_limit ml_L_32 dL_limit_4 rfl rfl (segL 1 wc.length) (seg_tail _ wc) (segL_nd _ _) rfl hx (fit_ofG hR (by decide)) (Nat.le_of_ble_eq_true rfl) (fun v w hq hk => ?_)
  obtain ⟨x9, rfl⟩ := hQ _ _ hq
  refine aW_w (ws' := (oa, aJ G 1 fo) :: w) (wput_tail hk) ?_
  refine a_i2l hB dL_limit_7 ?_
  refine a_lastore hB dL_limit_8 0 rfl (vp_in_nI (by decide) (by decide)) ?_
  refine a_goto (tgt := 15) hB dL_limit_9 (by decide) ?_
  refine a_iconstN (v := 0) hB dL_limit_15 (by decide) ?_
  exact a_iret hB hE rfl dL_limit_16 (Nat.le_of_eq (Nat.zero_add _)) (Nat.le_of_eq (Nat.zero_add _)) (AKeep.cons rfl hk) ⟨rfl, x9, w, hq, rfl⟩
set_option maxHeartbeats 4000000 in
set_option maxRecDepth 100000 in
theorem hL_limit_1 {G : GP} {wc : va_W} {mc ms xo oa : Nat} {a : Int32} {fo : Nat → Int64} {fs : List Value} (hx : wc[0]? = some (xo, .inr (9, fs))) (hM : AMX G sX9_limit mc ms [.ref xo, .int a] wc (fun _ _ => False) (fun E w => E = xIAE ∧ w = wc)) : AMH G sL_limit [(0, 9, 12, 13)] mc ms [.ref xo, .int a, .ref oa] ((oa, aJ G 1 fo) :: wc) (fun v w => v = some (.int (nI 1)) ∧ w = (oa, aJ G 1 fo) :: wc) := by
  refine AMH.of (σ := sL_limit) (by decide +kernel) (by decide +kernel) (Nat.le_of_ble_eq_true rfl) (fun B hB hR hE0 hT => ?_)
  have hE := BE.ofX hE0
  refine a_aload_n hB dL_limit_0 rfl ?_
  refine a_iconstN (v := 0) hB dL_limit_1 (by decide) ?_
  refine a_aload_n hB dL_limit_2 rfl ?_
  refine a_iload_n hB dL_limit_3 rfl ?_
  refine a_callVX (q0 := 1) hB hM mk_X9_limit ml_L_32 dL_limit_4 rfl rfl (segL 1 wc.length) (seg_tail _ wc) (segL_nd _ _) rfl hx (fit_ofG hR (by decide)) (Nat.le_of_ble_eq_true rfl) (fun E w hq hk => ?_) (fun v w hq hk => hq.elim)
  obtain ⟨rfl, hw9⟩ := hq
  refine aX_catch hB hT (by decide +kernel) (hp := []) (x := (0, 9, 12, 13)) (hq := []) rfl (fun z hz => absurd hz List.not_mem_nil) (by decide) (by decide) cl_L_13 (fun q9 => ?_)
  refine aW_w (ws' := (oa, aJ G 1 fo) :: w) (wput_tail hk) ?_
  refine a_astore_n hB dL_limit_12 (by decide) ?_
  refine a_iconstN (v := 1) hB dL_limit_13 (by decide) ?_
  exact a_iret hB hE rfl dL_limit_14 (Nat.le_of_eq (Nat.zero_add _)) (Nat.le_of_eq (Nat.zero_add _)) (AKeep.cons rfl hk) ⟨rfl, by rw [hw9]⟩
def sL_limitFor : MS := (yL_limitFor, cL_limitFor, 4, (some .int), RL, 8)
set_option maxHeartbeats 4000000 in
set_option maxRecDepth 100000 in
theorem hL_limitFor_ok {G : GP} {wc : va_W} {mc ms xo oa : Nat} {a : Int32} {fo : Nat → Int64} {fs : List Value} (hx : wc[0]? = some (xo, .inr (9, fs))) {Qf : Option Value → va_W → Prop} (hQ : ∀ v w, Qf v w → ∃ x9 : Int32, v = some (.int x9)) (hM : AM G sX9_limitFor mc ms [.ref xo, .int a] wc Qf) : AMH G sL_limitFor [(0, 9, 12, 13)] mc ms [.ref xo, .int a, .ref oa] ((oa, aJ G 1 fo) :: wc) (fun v w => v = some (.int (nI 0)) ∧ ∃ (x9 : Int32) (w9 : va_W), Qf (some (.int x9)) w9 ∧ w = (oa, aJ G 1 (vp_updL fo (nI 0).toNatClampNeg x9.toInt64)) :: w9) := by
  refine AMH.of (σ := sL_limitFor) (by decide +kernel) (by decide +kernel) (Nat.le_of_ble_eq_true rfl) (fun B hB hR hE0 hT => ?_)
  have hE := BE.ofX hE0
  refine a_aload_n hB dL_limitFor_0 rfl ?_
  refine a_iconstN (v := 0) hB dL_limitFor_1 (by decide) ?_
  refine a_aload_n hB dL_limitFor_2 rfl ?_
  refine a_iload_n hB dL_limitFor_3 rfl ?_
  refine a_callV (q0 := 1) hB hM mk_X9_limitFor ml_L_76 dL_limitFor_4 rfl rfl (segL 1 wc.length) (seg_tail _ wc) (segL_nd _ _) rfl hx (fit_ofG hR (by decide)) (Nat.le_of_ble_eq_true rfl) (fun v w hq hk => ?_)
  obtain ⟨x9, rfl⟩ := hQ _ _ hq
  refine aW_w (ws' := (oa, aJ G 1 fo) :: w) (wput_tail hk) ?_
  refine a_i2l hB dL_limitFor_7 ?_
  refine a_lastore hB dL_limitFor_8 0 rfl (vp_in_nI (by decide) (by decide)) ?_
  refine a_goto (tgt := 15) hB dL_limitFor_9 (by decide) ?_
  refine a_iconstN (v := 0) hB dL_limitFor_15 (by decide) ?_
  exact a_iret hB hE rfl dL_limitFor_16 (Nat.le_of_eq (Nat.zero_add _)) (Nat.le_of_eq (Nat.zero_add _)) (AKeep.cons rfl hk) ⟨rfl, x9, w, hq, rfl⟩
set_option maxHeartbeats 4000000 in
set_option maxRecDepth 100000 in
theorem hL_limitFor_1 {G : GP} {wc : va_W} {mc ms xo oa : Nat} {a : Int32} {fo : Nat → Int64} {fs : List Value} (hx : wc[0]? = some (xo, .inr (9, fs))) (hM : AMX G sX9_limitFor mc ms [.ref xo, .int a] wc (fun _ _ => False) (fun E w => E = xIAE ∧ w = wc)) : AMH G sL_limitFor [(0, 9, 12, 13)] mc ms [.ref xo, .int a, .ref oa] ((oa, aJ G 1 fo) :: wc) (fun v w => v = some (.int (nI 1)) ∧ w = (oa, aJ G 1 fo) :: wc) := by
  refine AMH.of (σ := sL_limitFor) (by decide +kernel) (by decide +kernel) (Nat.le_of_ble_eq_true rfl) (fun B hB hR hE0 hT => ?_)
  have hE := BE.ofX hE0
  refine a_aload_n hB dL_limitFor_0 rfl ?_
  refine a_iconstN (v := 0) hB dL_limitFor_1 (by decide) ?_
  refine a_aload_n hB dL_limitFor_2 rfl ?_
  refine a_iload_n hB dL_limitFor_3 rfl ?_
  refine a_callVX (q0 := 1) hB hM mk_X9_limitFor ml_L_76 dL_limitFor_4 rfl rfl (segL 1 wc.length) (seg_tail _ wc) (segL_nd _ _) rfl hx (fit_ofG hR (by decide)) (Nat.le_of_ble_eq_true rfl) (fun E w hq hk => ?_) (fun v w hq hk => hq.elim)
  obtain ⟨rfl, hw9⟩ := hq
  refine aX_catch hB hT (by decide +kernel) (hp := []) (x := (0, 9, 12, 13)) (hq := []) rfl (fun z hz => absurd hz List.not_mem_nil) (by decide) (by decide) cl_L_13 (fun q9 => ?_)
  refine aW_w (ws' := (oa, aJ G 1 fo) :: w) (wput_tail hk) ?_
  refine a_astore_n hB dL_limitFor_12 (by decide) ?_
  refine a_iconstN (v := 1) hB dL_limitFor_13 (by decide) ?_
  exact a_iret hB hE rfl dL_limitFor_14 (Nat.le_of_eq (Nat.zero_add _)) (Nat.le_of_eq (Nat.zero_add _)) (AKeep.cons rfl hk) ⟨rfl, by rw [hw9]⟩
def sL_measure : MS := (yL_measure, cL_measure, 4, (some .int), RL, 8)
set_option maxHeartbeats 4000000 in
set_option maxRecDepth 100000 in
theorem hL_measure_ok {G : GP} {wc : va_W} {mc ms xo oa : Nat} {a : Int32} {fo : Nat → UInt64} {fs : List Value} (hx : wc[0]? = some (xo, .inr (9, fs))) {Qf : Option Value → va_W → Prop} (hQ : ∀ v w, Qf v w → ∃ x9 : UInt64, v = some (.double x9)) (hM : AM G sX9_measure mc ms [.ref xo, .int a] wc Qf) : AMH G sL_measure [(0, 8, 11, 13)] mc ms [.ref xo, .int a, .ref oa] ((oa, aD G 1 fo) :: wc) (fun v w => v = some (.int (nI 0)) ∧ ∃ (x9 : UInt64) (w9 : va_W), Qf (some (.double x9)) w9 ∧ w = (oa, aD G 1 (vf_upd fo (nI 0).toNatClampNeg x9)) :: w9) := by
  refine AMH.of (σ := sL_measure) (by decide +kernel) (by decide +kernel) (Nat.le_of_ble_eq_true rfl) (fun B hB hR hE0 hT => ?_)
  have hE := BE.ofX hE0
  refine a_aload_n hB dL_measure_0 rfl ?_
  refine a_iconstN (v := 0) hB dL_measure_1 (by decide) ?_
  refine a_aload_n hB dL_measure_2 rfl ?_
  refine a_iload_n hB dL_measure_3 rfl ?_
  refine a_callV (q0 := 1) hB hM mk_X9_measure ml_L_69 dL_measure_4 rfl rfl (segL 1 wc.length) (seg_tail _ wc) (segL_nd _ _) rfl hx (fit_ofG hR (by decide)) (Nat.le_of_ble_eq_true rfl) (fun v w hq hk => ?_)
  obtain ⟨x9, rfl⟩ := hQ _ _ hq
  refine aW_w (ws' := (oa, aD G 1 fo) :: w) (wput_tail hk) ?_
  refine a_dastore hB dL_measure_7 0 rfl (vp_in_nI (by decide) (by decide)) ?_
  refine a_goto (tgt := 14) hB dL_measure_8 (by decide) ?_
  refine a_iconstN (v := 0) hB dL_measure_14 (by decide) ?_
  exact a_iret hB hE rfl dL_measure_15 (Nat.le_of_eq (Nat.zero_add _)) (Nat.le_of_eq (Nat.zero_add _)) (AKeep.cons rfl hk) ⟨rfl, x9, w, hq, rfl⟩
set_option maxHeartbeats 4000000 in
set_option maxRecDepth 100000 in
theorem hL_measure_1 {G : GP} {wc : va_W} {mc ms xo oa : Nat} {a : Int32} {fo : Nat → UInt64} {fs : List Value} (hx : wc[0]? = some (xo, .inr (9, fs))) (hM : AMX G sX9_measure mc ms [.ref xo, .int a] wc (fun _ _ => False) (fun E w => E = xIAE ∧ w = wc)) : AMH G sL_measure [(0, 8, 11, 13)] mc ms [.ref xo, .int a, .ref oa] ((oa, aD G 1 fo) :: wc) (fun v w => v = some (.int (nI 1)) ∧ w = (oa, aD G 1 fo) :: wc) := by
  refine AMH.of (σ := sL_measure) (by decide +kernel) (by decide +kernel) (Nat.le_of_ble_eq_true rfl) (fun B hB hR hE0 hT => ?_)
  have hE := BE.ofX hE0
  refine a_aload_n hB dL_measure_0 rfl ?_
  refine a_iconstN (v := 0) hB dL_measure_1 (by decide) ?_
  refine a_aload_n hB dL_measure_2 rfl ?_
  refine a_iload_n hB dL_measure_3 rfl ?_
  refine a_callVX (q0 := 1) hB hM mk_X9_measure ml_L_69 dL_measure_4 rfl rfl (segL 1 wc.length) (seg_tail _ wc) (segL_nd _ _) rfl hx (fit_ofG hR (by decide)) (Nat.le_of_ble_eq_true rfl) (fun E w hq hk => ?_) (fun v w hq hk => hq.elim)
  obtain ⟨rfl, hw9⟩ := hq
  refine aX_catch hB hT (by decide +kernel) (hp := []) (x := (0, 8, 11, 13)) (hq := []) rfl (fun z hz => absurd hz List.not_mem_nil) (by decide) (by decide) cl_L_13 (fun q9 => ?_)
  refine aW_w (ws' := (oa, aD G 1 fo) :: w) (wput_tail hk) ?_
  refine a_astore_n hB dL_measure_11 (by decide) ?_
  refine a_iconstN (v := 1) hB dL_measure_12 (by decide) ?_
  exact a_iret hB hE rfl dL_measure_13 (Nat.le_of_eq (Nat.zero_add _)) (Nat.le_of_eq (Nat.zero_add _)) (AKeep.cons rfl hk) ⟨rfl, by rw [hw9]⟩
def sL_part : MS := (yL_part, cL_part, 5, (some .int), RL, 8)
set_option maxHeartbeats 4000000 in
set_option maxRecDepth 100000 in
theorem hL_part_ok {G : GP} {wc : va_W} {mc ms xo oa : Nat} {a : Int32} {b : Int32} {fo : Nat → Int64} {fs : List Value} (hx : wc[0]? = some (xo, .inr (9, fs))) {Qf : Option Value → va_W → Prop} (hQ : ∀ v w, Qf v w → ∃ x9 : Int32, v = some (.int x9)) (hM : AM G sX9_part mc ms [.ref xo, .int a, .int b] wc Qf) : AMH G sL_part [(0, 10, 13, 20), (0, 10, 17, 13)] mc ms [.ref xo, .int a, .int b, .ref oa] ((oa, aJ G 1 fo) :: wc) (fun v w => v = some (.int (nI 0)) ∧ ∃ (x9 : Int32) (w9 : va_W), Qf (some (.int x9)) w9 ∧ w = (oa, aJ G 1 (vp_updL fo (nI 0).toNatClampNeg x9.toInt64)) :: w9) := by
  refine AMH.of (σ := sL_part) (by decide +kernel) (by decide +kernel) (Nat.le_of_ble_eq_true rfl) (fun B hB hR hE0 hT => ?_)
  have hE := BE.ofX hE0
  refine a_aload_n hB dL_part_0 rfl ?_
  refine a_iconstN (v := 0) hB dL_part_1 (by decide) ?_
  refine a_aload_n hB dL_part_2 rfl ?_
  refine a_iload_n hB dL_part_3 rfl ?_
  refine a_iload_n hB dL_part_4 rfl ?_
  refine a_callV (q0 := 1) hB hM mk_X9_part ml_L_51 dL_part_5 rfl rfl (segL 1 wc.length) (seg_tail _ wc) (segL_nd _ _) rfl hx (fit_ofG hR (by decide)) (Nat.le_of_ble_eq_true rfl) (fun v w hq hk => ?_)
  obtain ⟨x9, rfl⟩ := hQ _ _ hq
  refine aW_w (ws' := (oa, aJ G 1 fo) :: w) (wput_tail hk) ?_
  refine a_i2l hB dL_part_8 ?_
  refine a_lastore hB dL_part_9 0 rfl (vp_in_nI (by decide) (by decide)) ?_
  refine a_goto (tgt := 21) hB dL_part_10 (by decide) ?_
  refine a_iconstN (v := 0) hB dL_part_21 (by decide) ?_
  exact a_iret hB hE rfl dL_part_22 (Nat.le_of_eq (Nat.zero_add _)) (Nat.le_of_eq (Nat.zero_add _)) (AKeep.cons rfl hk) ⟨rfl, x9, w, hq, rfl⟩
set_option maxHeartbeats 4000000 in
set_option maxRecDepth 100000 in
theorem hL_part_1 {G : GP} {wc : va_W} {mc ms xo oa : Nat} {a : Int32} {b : Int32} {fo : Nat → Int64} {fs : List Value} (hx : wc[0]? = some (xo, .inr (9, fs))) (hM : AMX G sX9_part mc ms [.ref xo, .int a, .int b] wc (fun _ _ => False) (fun E w => E = xIOB ∧ w = wc)) : AMH G sL_part [(0, 10, 13, 20), (0, 10, 17, 13)] mc ms [.ref xo, .int a, .int b, .ref oa] ((oa, aJ G 1 fo) :: wc) (fun v w => v = some (.int (nI 1)) ∧ w = (oa, aJ G 1 fo) :: wc) := by
  refine AMH.of (σ := sL_part) (by decide +kernel) (by decide +kernel) (Nat.le_of_ble_eq_true rfl) (fun B hB hR hE0 hT => ?_)
  have hE := BE.ofX hE0
  refine a_aload_n hB dL_part_0 rfl ?_
  refine a_iconstN (v := 0) hB dL_part_1 (by decide) ?_
  refine a_aload_n hB dL_part_2 rfl ?_
  refine a_iload_n hB dL_part_3 rfl ?_
  refine a_iload_n hB dL_part_4 rfl ?_
  refine a_callVX (q0 := 1) hB hM mk_X9_part ml_L_51 dL_part_5 rfl rfl (segL 1 wc.length) (seg_tail _ wc) (segL_nd _ _) rfl hx (fit_ofG hR (by decide)) (Nat.le_of_ble_eq_true rfl) (fun E w hq hk => ?_) (fun v w hq hk => hq.elim)
  obtain ⟨rfl, hw9⟩ := hq
  refine aX_catch hB hT (by decide +kernel) (hp := []) (x := (0, 10, 13, 20)) (hq := [(0, 10, 17, 13)]) rfl (fun z hz => absurd hz List.not_mem_nil) (by decide) (by decide) cl_L_20 (fun q9 => ?_)
  refine aW_w (ws' := (oa, aJ G 1 fo) :: w) (wput_tail hk) ?_
  refine a_astore hB dL_part_13 (by decide) ?_
  refine a_iconstN (v := 1) hB dL_part_15 (by decide) ?_
  exact a_iret hB hE rfl dL_part_16 (Nat.le_of_eq (Nat.zero_add _)) (Nat.le_of_eq (Nat.zero_add _)) (AKeep.cons rfl hk) ⟨rfl, by rw [hw9]⟩
set_option maxHeartbeats 4000000 in
set_option maxRecDepth 100000 in
theorem hL_part_2 {G : GP} {wc : va_W} {mc ms xo oa : Nat} {a : Int32} {b : Int32} {fo : Nat → Int64} {fs : List Value} (hx : wc[0]? = some (xo, .inr (9, fs))) (hM : AMX G sX9_part mc ms [.ref xo, .int a, .int b] wc (fun _ _ => False) (fun E w => E = xIAE ∧ w = wc)) : AMH G sL_part [(0, 10, 13, 20), (0, 10, 17, 13)] mc ms [.ref xo, .int a, .int b, .ref oa] ((oa, aJ G 1 fo) :: wc) (fun v w => v = some (.int (nI 2)) ∧ w = (oa, aJ G 1 fo) :: wc) := by
  refine AMH.of (σ := sL_part) (by decide +kernel) (by decide +kernel) (Nat.le_of_ble_eq_true rfl) (fun B hB hR hE0 hT => ?_)
  have hE := BE.ofX hE0
  refine a_aload_n hB dL_part_0 rfl ?_
  refine a_iconstN (v := 0) hB dL_part_1 (by decide) ?_
  refine a_aload_n hB dL_part_2 rfl ?_
  refine a_iload_n hB dL_part_3 rfl ?_
  refine a_iload_n hB dL_part_4 rfl ?_
  have hpass : ∀ z ∈ ([(0, 10, 13, 20)] : List (Nat × Nat × Nat × Nat)), z.2.2.2 ≠ 0 ∧ ∃ nm : String, Cond.classLink RL z.2.2.2 nm ∈ gw ∧ (xIAE, nm) ∈ gwX := by
    intro z hz
    simp only [List.mem_cons, List.not_mem_nil, or_false] at hz
    rcases hz with rfl
    · exact ⟨by decide, xIOB, cl_L_20, by decide +kernel⟩
  refine a_callVX (q0 := 1) hB hM mk_X9_part ml_L_51 dL_part_5 rfl rfl (segL 1 wc.length) (seg_tail _ wc) (segL_nd _ _) rfl hx (fit_ofG hR (by decide)) (Nat.le_of_ble_eq_true rfl) (fun E w hq hk => ?_) (fun v w hq hk => hq.elim)
  obtain ⟨rfl, hw9⟩ := hq
  refine aX_catch hB hT (by decide +kernel) (hp := [(0, 10, 13, 20)]) (x := (0, 10, 17, 13)) (hq := []) rfl hpass (by decide) (by decide) cl_L_13 (fun q9 => ?_)
  refine aW_w (ws' := (oa, aJ G 1 fo) :: w) (wput_tail hk) ?_
  refine a_astore hB dL_part_17 (by decide) ?_
  refine a_iconstN (v := 2) hB dL_part_19 (by decide) ?_
  exact a_iret hB hE rfl dL_part_20 (Nat.le_of_eq (Nat.zero_add _)) (Nat.le_of_eq (Nat.zero_add _)) (AKeep.cons rfl hk) ⟨rfl, by rw [hw9]⟩
def sL_removePart : MS := (yL_removePart, cL_removePart, 4, (some .int), RL, 8)
set_option maxHeartbeats 4000000 in
set_option maxRecDepth 100000 in
theorem hL_removePart_ok {G : GP} {wc : va_W} {mc ms xo oa : Nat} {a : Int32} {fo : Nat → Int64} {fs : List Value} (hx : wc[0]? = some (xo, .inr (9, fs))) {Qf : Option Value → va_W → Prop} (hQ : ∀ v w, Qf v w → ∃ x9 : Int32, v = some (.int x9)) (hM : AM G sX9_removePart mc ms [.ref xo, .int a] wc Qf) : AMH G sL_removePart [(0, 9, 12, 20)] mc ms [.ref xo, .int a, .ref oa] ((oa, aJ G 1 fo) :: wc) (fun v w => v = some (.int (nI 0)) ∧ ∃ (x9 : Int32) (w9 : va_W), Qf (some (.int x9)) w9 ∧ w = (oa, aJ G 1 (vp_updL fo (nI 0).toNatClampNeg x9.toInt64)) :: w9) := by
  refine AMH.of (σ := sL_removePart) (by decide +kernel) (by decide +kernel) (Nat.le_of_ble_eq_true rfl) (fun B hB hR hE0 hT => ?_)
  have hE := BE.ofX hE0
  refine a_aload_n hB dL_removePart_0 rfl ?_
  refine a_iconstN (v := 0) hB dL_removePart_1 (by decide) ?_
  refine a_aload_n hB dL_removePart_2 rfl ?_
  refine a_iload_n hB dL_removePart_3 rfl ?_
  refine a_callV (q0 := 1) hB hM mk_X9_removePart ml_L_17 dL_removePart_4 rfl rfl (segL 1 wc.length) (seg_tail _ wc) (segL_nd _ _) rfl hx (fit_ofG hR (by decide)) (Nat.le_of_ble_eq_true rfl) (fun v w hq hk => ?_)
  obtain ⟨x9, rfl⟩ := hQ _ _ hq
  refine aW_w (ws' := (oa, aJ G 1 fo) :: w) (wput_tail hk) ?_
  refine a_i2l hB dL_removePart_7 ?_
  refine a_lastore hB dL_removePart_8 0 rfl (vp_in_nI (by decide) (by decide)) ?_
  refine a_goto (tgt := 15) hB dL_removePart_9 (by decide) ?_
  refine a_iconstN (v := 0) hB dL_removePart_15 (by decide) ?_
  exact a_iret hB hE rfl dL_removePart_16 (Nat.le_of_eq (Nat.zero_add _)) (Nat.le_of_eq (Nat.zero_add _)) (AKeep.cons rfl hk) ⟨rfl, x9, w, hq, rfl⟩
set_option maxHeartbeats 4000000 in
set_option maxRecDepth 100000 in
theorem hL_removePart_1 {G : GP} {wc : va_W} {mc ms xo oa : Nat} {a : Int32} {fo : Nat → Int64} {fs : List Value} (hx : wc[0]? = some (xo, .inr (9, fs))) (hM : AMX G sX9_removePart mc ms [.ref xo, .int a] wc (fun _ _ => False) (fun E w => E = xIOB ∧ w = wc)) : AMH G sL_removePart [(0, 9, 12, 20)] mc ms [.ref xo, .int a, .ref oa] ((oa, aJ G 1 fo) :: wc) (fun v w => v = some (.int (nI 1)) ∧ w = (oa, aJ G 1 fo) :: wc) := by
  refine AMH.of (σ := sL_removePart) (by decide +kernel) (by decide +kernel) (Nat.le_of_ble_eq_true rfl) (fun B hB hR hE0 hT => ?_)
  have hE := BE.ofX hE0
  refine a_aload_n hB dL_removePart_0 rfl ?_
  refine a_iconstN (v := 0) hB dL_removePart_1 (by decide) ?_
  refine a_aload_n hB dL_removePart_2 rfl ?_
  refine a_iload_n hB dL_removePart_3 rfl ?_
  refine a_callVX (q0 := 1) hB hM mk_X9_removePart ml_L_17 dL_removePart_4 rfl rfl (segL 1 wc.length) (seg_tail _ wc) (segL_nd _ _) rfl hx (fit_ofG hR (by decide)) (Nat.le_of_ble_eq_true rfl) (fun E w hq hk => ?_) (fun v w hq hk => hq.elim)
  obtain ⟨rfl, hw9⟩ := hq
  refine aX_catch hB hT (by decide +kernel) (hp := []) (x := (0, 9, 12, 20)) (hq := []) rfl (fun z hz => absurd hz List.not_mem_nil) (by decide) (by decide) cl_L_20 (fun q9 => ?_)
  refine aW_w (ws' := (oa, aJ G 1 fo) :: w) (wput_tail hk) ?_
  refine a_astore_n hB dL_removePart_12 (by decide) ?_
  refine a_iconstN (v := 1) hB dL_removePart_13 (by decide) ?_
  exact a_iret hB hE rfl dL_removePart_14 (Nat.le_of_eq (Nat.zero_add _)) (Nat.le_of_eq (Nat.zero_add _)) (AKeep.cons rfl hk) ⟨rfl, by rw [hw9]⟩
def sL_seed : MS := (yL_seed, cL_seed, 4, (some .int), RL, 7)
set_option maxHeartbeats 4000000 in
set_option maxRecDepth 100000 in
theorem hL_seed_ok {G : GP} {wc : va_W} {mc ms xo oa : Nat} {a : Int32} {fo : Nat → Int64} {fs : List Value} (hx : wc[0]? = some (xo, .inr (9, fs))) {Qf : Option Value → va_W → Prop} (hQ : ∀ v w, Qf v w → ∃ x9 : Int32, v = some (.int x9)) (hM : AM G sX9_seed mc ms [.ref xo, .int a] wc Qf) : AMH G sL_seed [(0, 9, 12, 13)] mc ms [.ref xo, .int a, .ref oa] ((oa, aJ G 1 fo) :: wc) (fun v w => v = some (.int (nI 0)) ∧ ∃ (x9 : Int32) (w9 : va_W), Qf (some (.int x9)) w9 ∧ w = (oa, aJ G 1 (vp_updL fo (nI 0).toNatClampNeg x9.toInt64)) :: w9) := by
  refine AMH.of (σ := sL_seed) (by decide +kernel) (by decide +kernel) (Nat.le_of_ble_eq_true rfl) (fun B hB hR hE0 hT => ?_)
  have hE := BE.ofX hE0
  refine a_aload_n hB dL_seed_0 rfl ?_
  refine a_iconstN (v := 0) hB dL_seed_1 (by decide) ?_
  refine a_aload_n hB dL_seed_2 rfl ?_
  refine a_iload_n hB dL_seed_3 rfl ?_
  refine a_callV (q0 := 1) hB hM mk_X9_seed ml_L_35 dL_seed_4 rfl rfl (segL 1 wc.length) (seg_tail _ wc) (segL_nd _ _) rfl hx (fit_ofG hR (by decide)) (Nat.le_of_ble_eq_true rfl) (fun v w hq hk => ?_)
  obtain ⟨x9, rfl⟩ := hQ _ _ hq
  refine aW_w (ws' := (oa, aJ G 1 fo) :: w) (wput_tail hk) ?_
  refine a_i2l hB dL_seed_7 ?_
  refine a_lastore hB dL_seed_8 0 rfl (vp_in_nI (by decide) (by decide)) ?_
  refine a_goto (tgt := 15) hB dL_seed_9 (by decide) ?_
  refine a_iconstN (v := 0) hB dL_seed_15 (by decide) ?_
  exact a_iret hB hE rfl dL_seed_16 (Nat.le_of_eq (Nat.zero_add _)) (Nat.le_of_eq (Nat.zero_add _)) (AKeep.cons rfl hk) ⟨rfl, x9, w, hq, rfl⟩
set_option maxHeartbeats 4000000 in
set_option maxRecDepth 100000 in
theorem hL_seed_1 {G : GP} {wc : va_W} {mc ms xo oa : Nat} {a : Int32} {fo : Nat → Int64} {fs : List Value} (hx : wc[0]? = some (xo, .inr (9, fs))) (hM : AMX G sX9_seed mc ms [.ref xo, .int a] wc (fun _ _ => False) (fun E w => E = xIAE ∧ w = wc)) : AMH G sL_seed [(0, 9, 12, 13)] mc ms [.ref xo, .int a, .ref oa] ((oa, aJ G 1 fo) :: wc) (fun v w => v = some (.int (nI 1)) ∧ w = (oa, aJ G 1 fo) :: wc) := by
  refine AMH.of (σ := sL_seed) (by decide +kernel) (by decide +kernel) (Nat.le_of_ble_eq_true rfl) (fun B hB hR hE0 hT => ?_)
  have hE := BE.ofX hE0
  refine a_aload_n hB dL_seed_0 rfl ?_
  refine a_iconstN (v := 0) hB dL_seed_1 (by decide) ?_
  refine a_aload_n hB dL_seed_2 rfl ?_
  refine a_iload_n hB dL_seed_3 rfl ?_
  refine a_callVX (q0 := 1) hB hM mk_X9_seed ml_L_35 dL_seed_4 rfl rfl (segL 1 wc.length) (seg_tail _ wc) (segL_nd _ _) rfl hx (fit_ofG hR (by decide)) (Nat.le_of_ble_eq_true rfl) (fun E w hq hk => ?_) (fun v w hq hk => hq.elim)
  obtain ⟨rfl, hw9⟩ := hq
  refine aX_catch hB hT (by decide +kernel) (hp := []) (x := (0, 9, 12, 13)) (hq := []) rfl (fun z hz => absurd hz List.not_mem_nil) (by decide) (by decide) cl_L_13 (fun q9 => ?_)
  refine aW_w (ws' := (oa, aJ G 1 fo) :: w) (wput_tail hk) ?_
  refine a_astore_n hB dL_seed_12 (by decide) ?_
  refine a_iconstN (v := 1) hB dL_seed_13 (by decide) ?_
  exact a_iret hB hE rfl dL_seed_14 (Nat.le_of_eq (Nat.zero_add _)) (Nat.le_of_eq (Nat.zero_add _)) (AKeep.cons rfl hk) ⟨rfl, by rw [hw9]⟩
def sL_tilt : MS := (yL_tilt, cL_tilt, 6, (some .int), RL, 8)
set_option maxHeartbeats 4000000 in
set_option maxRecDepth 100000 in
theorem hL_tilt_ok {G : GP} {wc : va_W} {mc ms xo oa : Nat} {a : Int32} {b : Int32} {c : Int32} {fo : Nat → Int64} {fs : List Value} (hx : wc[0]? = some (xo, .inr (9, fs))) {Qf : Option Value → va_W → Prop} (hQ : ∀ v w, Qf v w → ∃ x9 : Int32, v = some (.int x9)) (hM : AM G sX9_tilt mc ms [.ref xo, .int a, .int b, .int c] wc Qf) : AMH G sL_tilt [(0, 12, 15, 20), (0, 12, 19, 13), (0, 12, 23, 15)] mc ms [.ref xo, .int a, .int b, .int c, .ref oa] ((oa, aJ G 1 fo) :: wc) (fun v w => v = some (.int (nI 0)) ∧ ∃ (x9 : Int32) (w9 : va_W), Qf (some (.int x9)) w9 ∧ w = (oa, aJ G 1 (vp_updL fo (nI 0).toNatClampNeg x9.toInt64)) :: w9) := by
  refine AMH.of (σ := sL_tilt) (by decide +kernel) (by decide +kernel) (Nat.le_of_ble_eq_true rfl) (fun B hB hR hE0 hT => ?_)
  have hE := BE.ofX hE0
  refine a_aload hB dL_tilt_0 rfl ?_
  refine a_iconstN (v := 0) hB dL_tilt_2 (by decide) ?_
  refine a_aload_n hB dL_tilt_3 rfl ?_
  refine a_iload_n hB dL_tilt_4 rfl ?_
  refine a_iload_n hB dL_tilt_5 rfl ?_
  refine a_iload_n hB dL_tilt_6 rfl ?_
  refine a_callV (q0 := 1) hB hM mk_X9_tilt ml_L_26 dL_tilt_7 rfl rfl (segL 1 wc.length) (seg_tail _ wc) (segL_nd _ _) rfl hx (fit_ofG hR (by decide)) (Nat.le_of_ble_eq_true rfl) (fun v w hq hk => ?_)
  obtain ⟨x9, rfl⟩ := hQ _ _ hq
  refine aW_w (ws' := (oa, aJ G 1 fo) :: w) (wput_tail hk) ?_
  refine a_i2l hB dL_tilt_10 ?_
  refine a_lastore hB dL_tilt_11 0 rfl (vp_in_nI (by decide) (by decide)) ?_
  refine a_goto (tgt := 27) hB dL_tilt_12 (by decide) ?_
  refine a_iconstN (v := 0) hB dL_tilt_27 (by decide) ?_
  exact a_iret hB hE rfl dL_tilt_28 (Nat.le_of_eq (Nat.zero_add _)) (Nat.le_of_eq (Nat.zero_add _)) (AKeep.cons rfl hk) ⟨rfl, x9, w, hq, rfl⟩
set_option maxHeartbeats 4000000 in
set_option maxRecDepth 100000 in
theorem hL_tilt_1 {G : GP} {wc : va_W} {mc ms xo oa : Nat} {a : Int32} {b : Int32} {c : Int32} {fo : Nat → Int64} {fs : List Value} (hx : wc[0]? = some (xo, .inr (9, fs))) (hM : AMX G sX9_tilt mc ms [.ref xo, .int a, .int b, .int c] wc (fun _ _ => False) (fun E w => E = xIOB ∧ w = wc)) : AMH G sL_tilt [(0, 12, 15, 20), (0, 12, 19, 13), (0, 12, 23, 15)] mc ms [.ref xo, .int a, .int b, .int c, .ref oa] ((oa, aJ G 1 fo) :: wc) (fun v w => v = some (.int (nI 1)) ∧ w = (oa, aJ G 1 fo) :: wc) := by
  refine AMH.of (σ := sL_tilt) (by decide +kernel) (by decide +kernel) (Nat.le_of_ble_eq_true rfl) (fun B hB hR hE0 hT => ?_)
  have hE := BE.ofX hE0
  refine a_aload hB dL_tilt_0 rfl ?_
  refine a_iconstN (v := 0) hB dL_tilt_2 (by decide) ?_
  refine a_aload_n hB dL_tilt_3 rfl ?_
  refine a_iload_n hB dL_tilt_4 rfl ?_
  refine a_iload_n hB dL_tilt_5 rfl ?_
  refine a_iload_n hB dL_tilt_6 rfl ?_
  refine a_callVX (q0 := 1) hB hM mk_X9_tilt ml_L_26 dL_tilt_7 rfl rfl (segL 1 wc.length) (seg_tail _ wc) (segL_nd _ _) rfl hx (fit_ofG hR (by decide)) (Nat.le_of_ble_eq_true rfl) (fun E w hq hk => ?_) (fun v w hq hk => hq.elim)
  obtain ⟨rfl, hw9⟩ := hq
  refine aX_catch hB hT (by decide +kernel) (hp := []) (x := (0, 12, 15, 20)) (hq := [(0, 12, 19, 13), (0, 12, 23, 15)]) rfl (fun z hz => absurd hz List.not_mem_nil) (by decide) (by decide) cl_L_20 (fun q9 => ?_)
  refine aW_w (ws' := (oa, aJ G 1 fo) :: w) (wput_tail hk) ?_
  refine a_astore hB dL_tilt_15 (by decide) ?_
  refine a_iconstN (v := 1) hB dL_tilt_17 (by decide) ?_
  exact a_iret hB hE rfl dL_tilt_18 (Nat.le_of_eq (Nat.zero_add _)) (Nat.le_of_eq (Nat.zero_add _)) (AKeep.cons rfl hk) ⟨rfl, by rw [hw9]⟩
set_option maxHeartbeats 4000000 in
set_option maxRecDepth 100000 in
theorem hL_tilt_2 {G : GP} {wc : va_W} {mc ms xo oa : Nat} {a : Int32} {b : Int32} {c : Int32} {fo : Nat → Int64} {fs : List Value} (hx : wc[0]? = some (xo, .inr (9, fs))) (hM : AMX G sX9_tilt mc ms [.ref xo, .int a, .int b, .int c] wc (fun _ _ => False) (fun E w => E = xIAE ∧ w = wc)) : AMH G sL_tilt [(0, 12, 15, 20), (0, 12, 19, 13), (0, 12, 23, 15)] mc ms [.ref xo, .int a, .int b, .int c, .ref oa] ((oa, aJ G 1 fo) :: wc) (fun v w => v = some (.int (nI 2)) ∧ w = (oa, aJ G 1 fo) :: wc) := by
  refine AMH.of (σ := sL_tilt) (by decide +kernel) (by decide +kernel) (Nat.le_of_ble_eq_true rfl) (fun B hB hR hE0 hT => ?_)
  have hE := BE.ofX hE0
  refine a_aload hB dL_tilt_0 rfl ?_
  refine a_iconstN (v := 0) hB dL_tilt_2 (by decide) ?_
  refine a_aload_n hB dL_tilt_3 rfl ?_
  refine a_iload_n hB dL_tilt_4 rfl ?_
  refine a_iload_n hB dL_tilt_5 rfl ?_
  refine a_iload_n hB dL_tilt_6 rfl ?_
  have hpass : ∀ z ∈ ([(0, 12, 15, 20)] : List (Nat × Nat × Nat × Nat)), z.2.2.2 ≠ 0 ∧ ∃ nm : String, Cond.classLink RL z.2.2.2 nm ∈ gw ∧ (xIAE, nm) ∈ gwX := by
    intro z hz
    simp only [List.mem_cons, List.not_mem_nil, or_false] at hz
    rcases hz with rfl
    · exact ⟨by decide, xIOB, cl_L_20, by decide +kernel⟩
  refine a_callVX (q0 := 1) hB hM mk_X9_tilt ml_L_26 dL_tilt_7 rfl rfl (segL 1 wc.length) (seg_tail _ wc) (segL_nd _ _) rfl hx (fit_ofG hR (by decide)) (Nat.le_of_ble_eq_true rfl) (fun E w hq hk => ?_) (fun v w hq hk => hq.elim)
  obtain ⟨rfl, hw9⟩ := hq
  refine aX_catch hB hT (by decide +kernel) (hp := [(0, 12, 15, 20)]) (x := (0, 12, 19, 13)) (hq := [(0, 12, 23, 15)]) rfl hpass (by decide) (by decide) cl_L_13 (fun q9 => ?_)
  refine aW_w (ws' := (oa, aJ G 1 fo) :: w) (wput_tail hk) ?_
  refine a_astore hB dL_tilt_19 (by decide) ?_
  refine a_iconstN (v := 2) hB dL_tilt_21 (by decide) ?_
  exact a_iret hB hE rfl dL_tilt_22 (Nat.le_of_eq (Nat.zero_add _)) (Nat.le_of_eq (Nat.zero_add _)) (AKeep.cons rfl hk) ⟨rfl, by rw [hw9]⟩
set_option maxHeartbeats 4000000 in
set_option maxRecDepth 100000 in
theorem hL_tilt_3 {G : GP} {wc : va_W} {mc ms xo oa : Nat} {a : Int32} {b : Int32} {c : Int32} {fo : Nat → Int64} {fs : List Value} (hx : wc[0]? = some (xo, .inr (9, fs))) (hM : AMX G sX9_tilt mc ms [.ref xo, .int a, .int b, .int c] wc (fun _ _ => False) (fun E w => E = xISE ∧ w = wc)) : AMH G sL_tilt [(0, 12, 15, 20), (0, 12, 19, 13), (0, 12, 23, 15)] mc ms [.ref xo, .int a, .int b, .int c, .ref oa] ((oa, aJ G 1 fo) :: wc) (fun v w => v = some (.int (nI 3)) ∧ w = (oa, aJ G 1 fo) :: wc) := by
  refine AMH.of (σ := sL_tilt) (by decide +kernel) (by decide +kernel) (Nat.le_of_ble_eq_true rfl) (fun B hB hR hE0 hT => ?_)
  have hE := BE.ofX hE0
  refine a_aload hB dL_tilt_0 rfl ?_
  refine a_iconstN (v := 0) hB dL_tilt_2 (by decide) ?_
  refine a_aload_n hB dL_tilt_3 rfl ?_
  refine a_iload_n hB dL_tilt_4 rfl ?_
  refine a_iload_n hB dL_tilt_5 rfl ?_
  refine a_iload_n hB dL_tilt_6 rfl ?_
  have hpass : ∀ z ∈ ([(0, 12, 15, 20), (0, 12, 19, 13)] : List (Nat × Nat × Nat × Nat)), z.2.2.2 ≠ 0 ∧ ∃ nm : String, Cond.classLink RL z.2.2.2 nm ∈ gw ∧ (xISE, nm) ∈ gwX := by
    intro z hz
    simp only [List.mem_cons, List.not_mem_nil, or_false] at hz
    rcases hz with rfl | rfl
    · exact ⟨by decide, xIOB, cl_L_20, by decide +kernel⟩
    · exact ⟨by decide, xIAE, cl_L_13, by decide +kernel⟩
  refine a_callVX (q0 := 1) hB hM mk_X9_tilt ml_L_26 dL_tilt_7 rfl rfl (segL 1 wc.length) (seg_tail _ wc) (segL_nd _ _) rfl hx (fit_ofG hR (by decide)) (Nat.le_of_ble_eq_true rfl) (fun E w hq hk => ?_) (fun v w hq hk => hq.elim)
  obtain ⟨rfl, hw9⟩ := hq
  refine aX_catch hB hT (by decide +kernel) (hp := [(0, 12, 15, 20), (0, 12, 19, 13)]) (x := (0, 12, 23, 15)) (hq := []) rfl hpass (by decide) (by decide) cl_L_15 (fun q9 => ?_)
  refine aW_w (ws' := (oa, aJ G 1 fo) :: w) (wput_tail hk) ?_
  refine a_astore hB dL_tilt_23 (by decide) ?_
  refine a_iconstN (v := 3) hB dL_tilt_25 (by decide) ?_
  exact a_iret hB hE rfl dL_tilt_26 (Nat.le_of_eq (Nat.zero_add _)) (Nat.le_of_eq (Nat.zero_add _)) (AKeep.cons rfl hk) ⟨rfl, by rw [hw9]⟩
def sL_tiltAll : MS := (yL_tiltAll, cL_tiltAll, 4, (some .int), RL, 8)
set_option maxHeartbeats 4000000 in
set_option maxRecDepth 100000 in
theorem hL_tiltAll_ok {G : GP} {wc : va_W} {mc ms xo oa : Nat} {a : Int32} {fo : Nat → Int64} {fs : List Value} (hx : wc[0]? = some (xo, .inr (9, fs))) {Qf : Option Value → va_W → Prop} (hQ : ∀ v w, Qf v w → ∃ x9 : Int32, v = some (.int x9)) (hM : AM G sX9_tiltAll mc ms [.ref xo, .int a] wc Qf) : AMH G sL_tiltAll [(0, 9, 12, 13)] mc ms [.ref xo, .int a, .ref oa] ((oa, aJ G 1 fo) :: wc) (fun v w => v = some (.int (nI 0)) ∧ ∃ (x9 : Int32) (w9 : va_W), Qf (some (.int x9)) w9 ∧ w = (oa, aJ G 1 (vp_updL fo (nI 0).toNatClampNeg x9.toInt64)) :: w9) := by
  refine AMH.of (σ := sL_tiltAll) (by decide +kernel) (by decide +kernel) (Nat.le_of_ble_eq_true rfl) (fun B hB hR hE0 hT => ?_)
  have hE := BE.ofX hE0
  refine a_aload_n hB dL_tiltAll_0 rfl ?_
  refine a_iconstN (v := 0) hB dL_tiltAll_1 (by decide) ?_
  refine a_aload_n hB dL_tiltAll_2 rfl ?_
  refine a_iload_n hB dL_tiltAll_3 rfl ?_
  refine a_callV (q0 := 1) hB hM mk_X9_tiltAll ml_L_29 dL_tiltAll_4 rfl rfl (segL 1 wc.length) (seg_tail _ wc) (segL_nd _ _) rfl hx (fit_ofG hR (by decide)) (Nat.le_of_ble_eq_true rfl) (fun v w hq hk => ?_)
  obtain ⟨x9, rfl⟩ := hQ _ _ hq
  refine aW_w (ws' := (oa, aJ G 1 fo) :: w) (wput_tail hk) ?_
  refine a_i2l hB dL_tiltAll_7 ?_
  refine a_lastore hB dL_tiltAll_8 0 rfl (vp_in_nI (by decide) (by decide)) ?_
  refine a_goto (tgt := 15) hB dL_tiltAll_9 (by decide) ?_
  refine a_iconstN (v := 0) hB dL_tiltAll_15 (by decide) ?_
  exact a_iret hB hE rfl dL_tiltAll_16 (Nat.le_of_eq (Nat.zero_add _)) (Nat.le_of_eq (Nat.zero_add _)) (AKeep.cons rfl hk) ⟨rfl, x9, w, hq, rfl⟩
set_option maxHeartbeats 4000000 in
set_option maxRecDepth 100000 in
theorem hL_tiltAll_1 {G : GP} {wc : va_W} {mc ms xo oa : Nat} {a : Int32} {fo : Nat → Int64} {fs : List Value} (hx : wc[0]? = some (xo, .inr (9, fs))) (hM : AMX G sX9_tiltAll mc ms [.ref xo, .int a] wc (fun _ _ => False) (fun E w => E = xIAE ∧ w = wc)) : AMH G sL_tiltAll [(0, 9, 12, 13)] mc ms [.ref xo, .int a, .ref oa] ((oa, aJ G 1 fo) :: wc) (fun v w => v = some (.int (nI 1)) ∧ w = (oa, aJ G 1 fo) :: wc) := by
  refine AMH.of (σ := sL_tiltAll) (by decide +kernel) (by decide +kernel) (Nat.le_of_ble_eq_true rfl) (fun B hB hR hE0 hT => ?_)
  have hE := BE.ofX hE0
  refine a_aload_n hB dL_tiltAll_0 rfl ?_
  refine a_iconstN (v := 0) hB dL_tiltAll_1 (by decide) ?_
  refine a_aload_n hB dL_tiltAll_2 rfl ?_
  refine a_iload_n hB dL_tiltAll_3 rfl ?_
  refine a_callVX (q0 := 1) hB hM mk_X9_tiltAll ml_L_29 dL_tiltAll_4 rfl rfl (segL 1 wc.length) (seg_tail _ wc) (segL_nd _ _) rfl hx (fit_ofG hR (by decide)) (Nat.le_of_ble_eq_true rfl) (fun E w hq hk => ?_) (fun v w hq hk => hq.elim)
  obtain ⟨rfl, hw9⟩ := hq
  refine aX_catch hB hT (by decide +kernel) (hp := []) (x := (0, 9, 12, 13)) (hq := []) rfl (fun z hz => absurd hz List.not_mem_nil) (by decide) (by decide) cl_L_13 (fun q9 => ?_)
  refine aW_w (ws' := (oa, aJ G 1 fo) :: w) (wput_tail hk) ?_
  refine a_astore_n hB dL_tiltAll_12 (by decide) ?_
  refine a_iconstN (v := 1) hB dL_tiltAll_13 (by decide) ?_
  exact a_iret hB hE rfl dL_tiltAll_14 (Nat.le_of_eq (Nat.zero_add _)) (Nat.le_of_eq (Nat.zero_add _)) (AKeep.cons rfl hk) ⟨rfl, by rw [hw9]⟩
def sL_undo : MS := (yL_undo, cL_undo, 3, (some .int), RL, 7)
set_option maxHeartbeats 4000000 in
set_option maxRecDepth 100000 in
theorem hL_undo_ok {G : GP} {wc : va_W} {mc ms xo oa : Nat} {fo : Nat → Int64} {fs : List Value} (hx : wc[0]? = some (xo, .inr (9, fs))) {Qf : Option Value → va_W → Prop} (hQ : ∀ v w, Qf v w → ∃ x9 : Int32, v = some (.int x9)) (hM : AM G sX9_undo mc ms [.ref xo] wc Qf) : AMH G sL_undo [(0, 8, 11, 15)] mc ms [.ref xo, .ref oa] ((oa, aJ G 1 fo) :: wc) (fun v w => v = some (.int (nI 0)) ∧ ∃ (x9 : Int32) (w9 : va_W), Qf (some (.int x9)) w9 ∧ w = (oa, aJ G 1 (vp_updL fo (nI 0).toNatClampNeg x9.toInt64)) :: w9) := by
  refine AMH.of (σ := sL_undo) (by decide +kernel) (by decide +kernel) (Nat.le_of_ble_eq_true rfl) (fun B hB hR hE0 hT => ?_)
  have hE := BE.ofX hE0
  refine a_aload_n hB dL_undo_0 rfl ?_
  refine a_iconstN (v := 0) hB dL_undo_1 (by decide) ?_
  refine a_aload_n hB dL_undo_2 rfl ?_
  refine a_callV (q0 := 1) hB hM mk_X9_undo ml_L_48 dL_undo_3 rfl rfl (segL 1 wc.length) (seg_tail _ wc) (segL_nd _ _) rfl hx (fit_ofG hR (by decide)) (Nat.le_of_ble_eq_true rfl) (fun v w hq hk => ?_)
  obtain ⟨x9, rfl⟩ := hQ _ _ hq
  refine aW_w (ws' := (oa, aJ G 1 fo) :: w) (wput_tail hk) ?_
  refine a_i2l hB dL_undo_6 ?_
  refine a_lastore hB dL_undo_7 0 rfl (vp_in_nI (by decide) (by decide)) ?_
  refine a_goto (tgt := 14) hB dL_undo_8 (by decide) ?_
  refine a_iconstN (v := 0) hB dL_undo_14 (by decide) ?_
  exact a_iret hB hE rfl dL_undo_15 (Nat.le_of_eq (Nat.zero_add _)) (Nat.le_of_eq (Nat.zero_add _)) (AKeep.cons rfl hk) ⟨rfl, x9, w, hq, rfl⟩
set_option maxHeartbeats 4000000 in
set_option maxRecDepth 100000 in
theorem hL_undo_1 {G : GP} {wc : va_W} {mc ms xo oa : Nat} {fo : Nat → Int64} {fs : List Value} (hx : wc[0]? = some (xo, .inr (9, fs))) (hM : AMX G sX9_undo mc ms [.ref xo] wc (fun _ _ => False) (fun E w => E = xISE ∧ w = wc)) : AMH G sL_undo [(0, 8, 11, 15)] mc ms [.ref xo, .ref oa] ((oa, aJ G 1 fo) :: wc) (fun v w => v = some (.int (nI 1)) ∧ w = (oa, aJ G 1 fo) :: wc) := by
  refine AMH.of (σ := sL_undo) (by decide +kernel) (by decide +kernel) (Nat.le_of_ble_eq_true rfl) (fun B hB hR hE0 hT => ?_)
  have hE := BE.ofX hE0
  refine a_aload_n hB dL_undo_0 rfl ?_
  refine a_iconstN (v := 0) hB dL_undo_1 (by decide) ?_
  refine a_aload_n hB dL_undo_2 rfl ?_
  refine a_callVX (q0 := 1) hB hM mk_X9_undo ml_L_48 dL_undo_3 rfl rfl (segL 1 wc.length) (seg_tail _ wc) (segL_nd _ _) rfl hx (fit_ofG hR (by decide)) (Nat.le_of_ble_eq_true rfl) (fun E w hq hk => ?_) (fun v w hq hk => hq.elim)
  obtain ⟨rfl, hw9⟩ := hq
  refine aX_catch hB hT (by decide +kernel) (hp := []) (x := (0, 8, 11, 15)) (hq := []) rfl (fun z hz => absurd hz List.not_mem_nil) (by decide) (by decide) cl_L_15 (fun q9 => ?_)
  refine aW_w (ws' := (oa, aJ G 1 fo) :: w) (wput_tail hk) ?_
  refine a_astore_n hB dL_undo_11 (by decide) ?_
  refine a_iconstN (v := 1) hB dL_undo_12 (by decide) ?_
  exact a_iret hB hE rfl dL_undo_13 (Nat.le_of_eq (Nat.zero_add _)) (Nat.le_of_eq (Nat.zero_add _)) (AKeep.cons rfl hk) ⟨rfl, by rw [hw9]⟩
def sL_ways : MS := (yL_ways, cL_ways, 5, (some .int), RL, 8)
set_option maxHeartbeats 4000000 in
set_option maxRecDepth 100000 in
theorem hL_ways_ok {G : GP} {wc : va_W} {mc ms xo oa : Nat} {a : Int32} {b : Int32} {fo : Nat → Int64} {fs : List Value} (hx : wc[0]? = some (xo, .inr (9, fs))) {Qf : Option Value → va_W → Prop} (hQ : ∀ v w, Qf v w → ∃ x9 : Int64, v = some (.long x9)) (hM : AM G sX9_ways mc ms [.ref xo, .int a, .int b] wc Qf) : AMH G sL_ways [(0, 9, 12, 13)] mc ms [.ref xo, .int a, .int b, .ref oa] ((oa, aJ G 1 fo) :: wc) (fun v w => v = some (.int (nI 0)) ∧ ∃ (x9 : Int64) (w9 : va_W), Qf (some (.long x9)) w9 ∧ w = (oa, aJ G 1 (vp_updL fo (nI 0).toNatClampNeg x9)) :: w9) := by
  refine AMH.of (σ := sL_ways) (by decide +kernel) (by decide +kernel) (Nat.le_of_ble_eq_true rfl) (fun B hB hR hE0 hT => ?_)
  have hE := BE.ofX hE0
  refine a_aload_n hB dL_ways_0 rfl ?_
  refine a_iconstN (v := 0) hB dL_ways_1 (by decide) ?_
  refine a_aload_n hB dL_ways_2 rfl ?_
  refine a_iload_n hB dL_ways_3 rfl ?_
  refine a_iload_n hB dL_ways_4 rfl ?_
  refine a_callV (q0 := 1) hB hM mk_X9_ways ml_L_59 dL_ways_5 rfl rfl (segL 1 wc.length) (seg_tail _ wc) (segL_nd _ _) rfl hx (fit_ofG hR (by decide)) (Nat.le_of_ble_eq_true rfl) (fun v w hq hk => ?_)
  obtain ⟨x9, rfl⟩ := hQ _ _ hq
  refine aW_w (ws' := (oa, aJ G 1 fo) :: w) (wput_tail hk) ?_
  refine a_lastore hB dL_ways_8 0 rfl (vp_in_nI (by decide) (by decide)) ?_
  refine a_goto (tgt := 16) hB dL_ways_9 (by decide) ?_
  refine a_iconstN (v := 0) hB dL_ways_16 (by decide) ?_
  exact a_iret hB hE rfl dL_ways_17 (Nat.le_of_eq (Nat.zero_add _)) (Nat.le_of_eq (Nat.zero_add _)) (AKeep.cons rfl hk) ⟨rfl, x9, w, hq, rfl⟩
set_option maxHeartbeats 4000000 in
set_option maxRecDepth 100000 in
theorem hL_ways_1 {G : GP} {wc : va_W} {mc ms xo oa : Nat} {a : Int32} {b : Int32} {fo : Nat → Int64} {fs : List Value} (hx : wc[0]? = some (xo, .inr (9, fs))) (hM : AMX G sX9_ways mc ms [.ref xo, .int a, .int b] wc (fun _ _ => False) (fun E w => E = xIAE ∧ w = wc)) : AMH G sL_ways [(0, 9, 12, 13)] mc ms [.ref xo, .int a, .int b, .ref oa] ((oa, aJ G 1 fo) :: wc) (fun v w => v = some (.int (nI 1)) ∧ w = (oa, aJ G 1 fo) :: wc) := by
  refine AMH.of (σ := sL_ways) (by decide +kernel) (by decide +kernel) (Nat.le_of_ble_eq_true rfl) (fun B hB hR hE0 hT => ?_)
  have hE := BE.ofX hE0
  refine a_aload_n hB dL_ways_0 rfl ?_
  refine a_iconstN (v := 0) hB dL_ways_1 (by decide) ?_
  refine a_aload_n hB dL_ways_2 rfl ?_
  refine a_iload_n hB dL_ways_3 rfl ?_
  refine a_iload_n hB dL_ways_4 rfl ?_
  refine a_callVX (q0 := 1) hB hM mk_X9_ways ml_L_59 dL_ways_5 rfl rfl (segL 1 wc.length) (seg_tail _ wc) (segL_nd _ _) rfl hx (fit_ofG hR (by decide)) (Nat.le_of_ble_eq_true rfl) (fun E w hq hk => ?_) (fun v w hq hk => hq.elim)
  obtain ⟨rfl, hw9⟩ := hq
  refine aX_catch hB hT (by decide +kernel) (hp := []) (x := (0, 9, 12, 13)) (hq := []) rfl (fun z hz => absurd hz List.not_mem_nil) (by decide) (by decide) cl_L_13 (fun q9 => ?_)
  refine aW_w (ws' := (oa, aJ G 1 fo) :: w) (wput_tail hk) ?_
  refine a_astore hB dL_ways_12 (by decide) ?_
  refine a_iconstN (v := 1) hB dL_ways_14 (by decide) ?_
  exact a_iret hB hE rfl dL_ways_15 (Nat.le_of_eq (Nat.zero_add _)) (Nat.le_of_eq (Nat.zero_add _)) (AKeep.cons rfl hk) ⟨rfl, by rw [hw9]⟩
def sL_weigh : MS := (yL_weigh, cL_weigh, 6, (some .int), RL, 8)
set_option maxHeartbeats 4000000 in
set_option maxRecDepth 100000 in
theorem hL_weigh_ok {G : GP} {wc : va_W} {mc ms xo oa : Nat} {a : Int32} {b : Int32} {c : Int32} {fo : Nat → Int64} {fs : List Value} (hx : wc[0]? = some (xo, .inr (9, fs))) {Qf : Option Value → va_W → Prop} (hQ : ∀ v w, Qf v w → ∃ x9 : Int32, v = some (.int x9)) (hM : AM G sX9_weigh mc ms [.ref xo, .int a, .int b, .int c] wc Qf) : AMH G sL_weigh [(0, 12, 15, 20), (0, 12, 19, 13), (0, 12, 23, 15)] mc ms [.ref xo, .int a, .int b, .int c, .ref oa] ((oa, aJ G 1 fo) :: wc) (fun v w => v = some (.int (nI 0)) ∧ ∃ (x9 : Int32) (w9 : va_W), Qf (some (.int x9)) w9 ∧ w = (oa, aJ G 1 (vp_updL fo (nI 0).toNatClampNeg x9.toInt64)) :: w9) := by
  refine AMH.of (σ := sL_weigh) (by decide +kernel) (by decide +kernel) (Nat.le_of_ble_eq_true rfl) (fun B hB hR hE0 hT => ?_)
  have hE := BE.ofX hE0
  refine a_aload hB dL_weigh_0 rfl ?_
  refine a_iconstN (v := 0) hB dL_weigh_2 (by decide) ?_
  refine a_aload_n hB dL_weigh_3 rfl ?_
  refine a_iload_n hB dL_weigh_4 rfl ?_
  refine a_iload_n hB dL_weigh_5 rfl ?_
  refine a_iload_n hB dL_weigh_6 rfl ?_
  refine a_callV (q0 := 1) hB hM mk_X9_weigh ml_L_22 dL_weigh_7 rfl rfl (segL 1 wc.length) (seg_tail _ wc) (segL_nd _ _) rfl hx (fit_ofG hR (by decide)) (Nat.le_of_ble_eq_true rfl) (fun v w hq hk => ?_)
  obtain ⟨x9, rfl⟩ := hQ _ _ hq
  refine aW_w (ws' := (oa, aJ G 1 fo) :: w) (wput_tail hk) ?_
  refine a_i2l hB dL_weigh_10 ?_
  refine a_lastore hB dL_weigh_11 0 rfl (vp_in_nI (by decide) (by decide)) ?_
  refine a_goto (tgt := 27) hB dL_weigh_12 (by decide) ?_
  refine a_iconstN (v := 0) hB dL_weigh_27 (by decide) ?_
  exact a_iret hB hE rfl dL_weigh_28 (Nat.le_of_eq (Nat.zero_add _)) (Nat.le_of_eq (Nat.zero_add _)) (AKeep.cons rfl hk) ⟨rfl, x9, w, hq, rfl⟩
set_option maxHeartbeats 4000000 in
set_option maxRecDepth 100000 in
theorem hL_weigh_1 {G : GP} {wc : va_W} {mc ms xo oa : Nat} {a : Int32} {b : Int32} {c : Int32} {fo : Nat → Int64} {fs : List Value} (hx : wc[0]? = some (xo, .inr (9, fs))) (hM : AMX G sX9_weigh mc ms [.ref xo, .int a, .int b, .int c] wc (fun _ _ => False) (fun E w => E = xIOB ∧ w = wc)) : AMH G sL_weigh [(0, 12, 15, 20), (0, 12, 19, 13), (0, 12, 23, 15)] mc ms [.ref xo, .int a, .int b, .int c, .ref oa] ((oa, aJ G 1 fo) :: wc) (fun v w => v = some (.int (nI 1)) ∧ w = (oa, aJ G 1 fo) :: wc) := by
  refine AMH.of (σ := sL_weigh) (by decide +kernel) (by decide +kernel) (Nat.le_of_ble_eq_true rfl) (fun B hB hR hE0 hT => ?_)
  have hE := BE.ofX hE0
  refine a_aload hB dL_weigh_0 rfl ?_
  refine a_iconstN (v := 0) hB dL_weigh_2 (by decide) ?_
  refine a_aload_n hB dL_weigh_3 rfl ?_
  refine a_iload_n hB dL_weigh_4 rfl ?_
  refine a_iload_n hB dL_weigh_5 rfl ?_
  refine a_iload_n hB dL_weigh_6 rfl ?_
  refine a_callVX (q0 := 1) hB hM mk_X9_weigh ml_L_22 dL_weigh_7 rfl rfl (segL 1 wc.length) (seg_tail _ wc) (segL_nd _ _) rfl hx (fit_ofG hR (by decide)) (Nat.le_of_ble_eq_true rfl) (fun E w hq hk => ?_) (fun v w hq hk => hq.elim)
  obtain ⟨rfl, hw9⟩ := hq
  refine aX_catch hB hT (by decide +kernel) (hp := []) (x := (0, 12, 15, 20)) (hq := [(0, 12, 19, 13), (0, 12, 23, 15)]) rfl (fun z hz => absurd hz List.not_mem_nil) (by decide) (by decide) cl_L_20 (fun q9 => ?_)
  refine aW_w (ws' := (oa, aJ G 1 fo) :: w) (wput_tail hk) ?_
  refine a_astore hB dL_weigh_15 (by decide) ?_
  refine a_iconstN (v := 1) hB dL_weigh_17 (by decide) ?_
  exact a_iret hB hE rfl dL_weigh_18 (Nat.le_of_eq (Nat.zero_add _)) (Nat.le_of_eq (Nat.zero_add _)) (AKeep.cons rfl hk) ⟨rfl, by rw [hw9]⟩
set_option maxHeartbeats 4000000 in
set_option maxRecDepth 100000 in
theorem hL_weigh_2 {G : GP} {wc : va_W} {mc ms xo oa : Nat} {a : Int32} {b : Int32} {c : Int32} {fo : Nat → Int64} {fs : List Value} (hx : wc[0]? = some (xo, .inr (9, fs))) (hM : AMX G sX9_weigh mc ms [.ref xo, .int a, .int b, .int c] wc (fun _ _ => False) (fun E w => E = xIAE ∧ w = wc)) : AMH G sL_weigh [(0, 12, 15, 20), (0, 12, 19, 13), (0, 12, 23, 15)] mc ms [.ref xo, .int a, .int b, .int c, .ref oa] ((oa, aJ G 1 fo) :: wc) (fun v w => v = some (.int (nI 2)) ∧ w = (oa, aJ G 1 fo) :: wc) := by
  refine AMH.of (σ := sL_weigh) (by decide +kernel) (by decide +kernel) (Nat.le_of_ble_eq_true rfl) (fun B hB hR hE0 hT => ?_)
  have hE := BE.ofX hE0
  refine a_aload hB dL_weigh_0 rfl ?_
  refine a_iconstN (v := 0) hB dL_weigh_2 (by decide) ?_
  refine a_aload_n hB dL_weigh_3 rfl ?_
  refine a_iload_n hB dL_weigh_4 rfl ?_
  refine a_iload_n hB dL_weigh_5 rfl ?_
  refine a_iload_n hB dL_weigh_6 rfl ?_
  have hpass : ∀ z ∈ ([(0, 12, 15, 20)] : List (Nat × Nat × Nat × Nat)), z.2.2.2 ≠ 0 ∧ ∃ nm : String, Cond.classLink RL z.2.2.2 nm ∈ gw ∧ (xIAE, nm) ∈ gwX := by
    intro z hz
    simp only [List.mem_cons, List.not_mem_nil, or_false] at hz
    rcases hz with rfl
    · exact ⟨by decide, xIOB, cl_L_20, by decide +kernel⟩
  refine a_callVX (q0 := 1) hB hM mk_X9_weigh ml_L_22 dL_weigh_7 rfl rfl (segL 1 wc.length) (seg_tail _ wc) (segL_nd _ _) rfl hx (fit_ofG hR (by decide)) (Nat.le_of_ble_eq_true rfl) (fun E w hq hk => ?_) (fun v w hq hk => hq.elim)
  obtain ⟨rfl, hw9⟩ := hq
  refine aX_catch hB hT (by decide +kernel) (hp := [(0, 12, 15, 20)]) (x := (0, 12, 19, 13)) (hq := [(0, 12, 23, 15)]) rfl hpass (by decide) (by decide) cl_L_13 (fun q9 => ?_)
  refine aW_w (ws' := (oa, aJ G 1 fo) :: w) (wput_tail hk) ?_
  refine a_astore hB dL_weigh_19 (by decide) ?_
  refine a_iconstN (v := 2) hB dL_weigh_21 (by decide) ?_
  exact a_iret hB hE rfl dL_weigh_22 (Nat.le_of_eq (Nat.zero_add _)) (Nat.le_of_eq (Nat.zero_add _)) (AKeep.cons rfl hk) ⟨rfl, by rw [hw9]⟩
set_option maxHeartbeats 4000000 in
set_option maxRecDepth 100000 in
theorem hL_weigh_3 {G : GP} {wc : va_W} {mc ms xo oa : Nat} {a : Int32} {b : Int32} {c : Int32} {fo : Nat → Int64} {fs : List Value} (hx : wc[0]? = some (xo, .inr (9, fs))) (hM : AMX G sX9_weigh mc ms [.ref xo, .int a, .int b, .int c] wc (fun _ _ => False) (fun E w => E = xISE ∧ w = wc)) : AMH G sL_weigh [(0, 12, 15, 20), (0, 12, 19, 13), (0, 12, 23, 15)] mc ms [.ref xo, .int a, .int b, .int c, .ref oa] ((oa, aJ G 1 fo) :: wc) (fun v w => v = some (.int (nI 3)) ∧ w = (oa, aJ G 1 fo) :: wc) := by
  refine AMH.of (σ := sL_weigh) (by decide +kernel) (by decide +kernel) (Nat.le_of_ble_eq_true rfl) (fun B hB hR hE0 hT => ?_)
  have hE := BE.ofX hE0
  refine a_aload hB dL_weigh_0 rfl ?_
  refine a_iconstN (v := 0) hB dL_weigh_2 (by decide) ?_
  refine a_aload_n hB dL_weigh_3 rfl ?_
  refine a_iload_n hB dL_weigh_4 rfl ?_
  refine a_iload_n hB dL_weigh_5 rfl ?_
  refine a_iload_n hB dL_weigh_6 rfl ?_
  have hpass : ∀ z ∈ ([(0, 12, 15, 20), (0, 12, 19, 13)] : List (Nat × Nat × Nat × Nat)), z.2.2.2 ≠ 0 ∧ ∃ nm : String, Cond.classLink RL z.2.2.2 nm ∈ gw ∧ (xISE, nm) ∈ gwX := by
    intro z hz
    simp only [List.mem_cons, List.not_mem_nil, or_false] at hz
    rcases hz with rfl | rfl
    · exact ⟨by decide, xIOB, cl_L_20, by decide +kernel⟩
    · exact ⟨by decide, xIAE, cl_L_13, by decide +kernel⟩
  refine a_callVX (q0 := 1) hB hM mk_X9_weigh ml_L_22 dL_weigh_7 rfl rfl (segL 1 wc.length) (seg_tail _ wc) (segL_nd _ _) rfl hx (fit_ofG hR (by decide)) (Nat.le_of_ble_eq_true rfl) (fun E w hq hk => ?_) (fun v w hq hk => hq.elim)
  obtain ⟨rfl, hw9⟩ := hq
  refine aX_catch hB hT (by decide +kernel) (hp := [(0, 12, 15, 20), (0, 12, 19, 13)]) (x := (0, 12, 23, 15)) (hq := []) rfl hpass (by decide) (by decide) cl_L_15 (fun q9 => ?_)
  refine aW_w (ws' := (oa, aJ G 1 fo) :: w) (wput_tail hk) ?_
  refine a_astore hB dL_weigh_23 (by decide) ?_
  refine a_iconstN (v := 3) hB dL_weigh_25 (by decide) ?_
  exact a_iret hB hE rfl dL_weigh_26 (Nat.le_of_eq (Nat.zero_add _)) (Nat.le_of_eq (Nat.zero_add _)) (AKeep.cons rfl hk) ⟨rfl, by rw [hw9]⟩
def sL_weight : MS := (yL_weight, cL_weight, 6, (some .int), RL, 8)
set_option maxHeartbeats 4000000 in
set_option maxRecDepth 100000 in
theorem hL_weight_ok {G : GP} {wc : va_W} {mc ms xo oa : Nat} {a : Int32} {b : Int32} {c : Int32} {fo : Nat → Int64} {fs : List Value} (hx : wc[0]? = some (xo, .inr (9, fs))) {Qf : Option Value → va_W → Prop} (hQ : ∀ v w, Qf v w → ∃ x9 : Int32, v = some (.int x9)) (hM : AM G sX9_weight mc ms [.ref xo, .int a, .int b, .int c] wc Qf) : AMH G sL_weight [(0, 12, 15, 20)] mc ms [.ref xo, .int a, .int b, .int c, .ref oa] ((oa, aJ G 1 fo) :: wc) (fun v w => v = some (.int (nI 0)) ∧ ∃ (x9 : Int32) (w9 : va_W), Qf (some (.int x9)) w9 ∧ w = (oa, aJ G 1 (vp_updL fo (nI 0).toNatClampNeg x9.toInt64)) :: w9) := by
  refine AMH.of (σ := sL_weight) (by decide +kernel) (by decide +kernel) (Nat.le_of_ble_eq_true rfl) (fun B hB hR hE0 hT => ?_)
  have hE := BE.ofX hE0
  refine a_aload hB dL_weight_0 rfl ?_
  refine a_iconstN (v := 0) hB dL_weight_2 (by decide) ?_
  refine a_aload_n hB dL_weight_3 rfl ?_
  refine a_iload_n hB dL_weight_4 rfl ?_
  refine a_iload_n hB dL_weight_5 rfl ?_
  refine a_iload_n hB dL_weight_6 rfl ?_
  refine a_callV (q0 := 1) hB hM mk_X9_weight ml_L_55 dL_weight_7 rfl rfl (segL 1 wc.length) (seg_tail _ wc) (segL_nd _ _) rfl hx (fit_ofG hR (by decide)) (Nat.le_of_ble_eq_true rfl) (fun v w hq hk => ?_)
  obtain ⟨x9, rfl⟩ := hQ _ _ hq
  refine aW_w (ws' := (oa, aJ G 1 fo) :: w) (wput_tail hk) ?_
  refine a_i2l hB dL_weight_10 ?_
  refine a_lastore hB dL_weight_11 0 rfl (vp_in_nI (by decide) (by decide)) ?_
  refine a_goto (tgt := 19) hB dL_weight_12 (by decide) ?_
  refine a_iconstN (v := 0) hB dL_weight_19 (by decide) ?_
  exact a_iret hB hE rfl dL_weight_20 (Nat.le_of_eq (Nat.zero_add _)) (Nat.le_of_eq (Nat.zero_add _)) (AKeep.cons rfl hk) ⟨rfl, x9, w, hq, rfl⟩
set_option maxHeartbeats 4000000 in
set_option maxRecDepth 100000 in
theorem hL_weight_1 {G : GP} {wc : va_W} {mc ms xo oa : Nat} {a : Int32} {b : Int32} {c : Int32} {fo : Nat → Int64} {fs : List Value} (hx : wc[0]? = some (xo, .inr (9, fs))) (hM : AMX G sX9_weight mc ms [.ref xo, .int a, .int b, .int c] wc (fun _ _ => False) (fun E w => E = xIOB ∧ w = wc)) : AMH G sL_weight [(0, 12, 15, 20)] mc ms [.ref xo, .int a, .int b, .int c, .ref oa] ((oa, aJ G 1 fo) :: wc) (fun v w => v = some (.int (nI 1)) ∧ w = (oa, aJ G 1 fo) :: wc) := by
  refine AMH.of (σ := sL_weight) (by decide +kernel) (by decide +kernel) (Nat.le_of_ble_eq_true rfl) (fun B hB hR hE0 hT => ?_)
  have hE := BE.ofX hE0
  refine a_aload hB dL_weight_0 rfl ?_
  refine a_iconstN (v := 0) hB dL_weight_2 (by decide) ?_
  refine a_aload_n hB dL_weight_3 rfl ?_
  refine a_iload_n hB dL_weight_4 rfl ?_
  refine a_iload_n hB dL_weight_5 rfl ?_
  refine a_iload_n hB dL_weight_6 rfl ?_
  refine a_callVX (q0 := 1) hB hM mk_X9_weight ml_L_55 dL_weight_7 rfl rfl (segL 1 wc.length) (seg_tail _ wc) (segL_nd _ _) rfl hx (fit_ofG hR (by decide)) (Nat.le_of_ble_eq_true rfl) (fun E w hq hk => ?_) (fun v w hq hk => hq.elim)
  obtain ⟨rfl, hw9⟩ := hq
  refine aX_catch hB hT (by decide +kernel) (hp := []) (x := (0, 12, 15, 20)) (hq := []) rfl (fun z hz => absurd hz List.not_mem_nil) (by decide) (by decide) cl_L_20 (fun q9 => ?_)
  refine aW_w (ws' := (oa, aJ G 1 fo) :: w) (wput_tail hk) ?_
  refine a_astore hB dL_weight_15 (by decide) ?_
  refine a_iconstN (v := 1) hB dL_weight_17 (by decide) ?_
  exact a_iret hB hE rfl dL_weight_18 (Nat.le_of_eq (Nat.zero_add _)) (Nat.le_of_eq (Nat.zero_add _)) (AKeep.cons rfl hk) ⟨rfl, by rw [hw9]⟩
