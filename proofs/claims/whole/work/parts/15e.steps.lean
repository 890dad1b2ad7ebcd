/-! THE LAW'S COMMANDS: texts, undo, forget -/
set_option maxHeartbeats 4000000 in
set_option maxRecDepth 100000 in
theorem st_append {G : GP} (hF : G.l.stackTraces = false) {x0 m0 oa th : Nat} {wC wN : va_W} (hW : LW G x0 m0 th wC wN) (x : Int32) : PairI G x0 m0 oa sL_append [(0, 9, 12, 13), (0, 9, 15, 15)] sX10_append [.int x] wC wN := by
  obtain ⟨xa, pa, P, pl, nx, num, len, cs, f, m, g, qs, R, mk, ma, z, sf, hh, sh, tx, wy, mo, td, re, lo, to, r9, ha, rfl, rfl, rfl, rfl, hI⟩ := hW
  obtain ⟨hR, hRg, hM, hpl, hb, hl, hc, ht⟩ := id hI
  have h6 : P.parts ≤ 6 := hR.1.1.1.1
  have hz : P.parts = z 0 := hR.2.1.1
  rcases rng x (a := 33) (b := 126) (by decide) (by decide) with ⟨v, rfl, hv1, hv⟩ | h
  rotate_left
  · exact PairI.thr (k := 1) (by decide) (by decide) (by decide) (by decide) rfl (fun fo => hL_append_1 rfl (x_X9_append_r hF h)) (c_X10_append_r h) ⟨_, rfl⟩ (LW.mk rfl rfl hI)
  by_cases h60 : len < 60
  rotate_left
  · exact PairI.thr (k := 2) (by decide) (by decide) (by decide) (by decide) rfl (fun fo => hL_append_2 rfl (x_X9_append_s hF hv1 hv (by omega))) (c_X10_append_s hv1 hv (by omega)) ⟨_, rfl⟩ (LW.mk rfl rfl hI)
  have hup : ∀ (w : Nat → Nat) i, uN w len v i = if i = len then v else w i := fun _ _ => rfl
  refine PairI.gen (W := wR G xa pa P pl nx num [] len cs f m g) (V := plq G qs R mk) (mc := 0) (ms := 0) (by decide) (by decide) (List.Perm.refl _) rfl rfl (c_X9_append hv1 hv h60) (fun W mc ms fs Qf fo h1 h2 h3 => hL_append_ok h1 h2 h3) (c_X10_append_ok hv1 hv h60) ⟨_, rfl⟩ (fun w9 w e1 e2 => ?_)
  subst e1; subst e2
  refine ⟨_, List.Perm.refl _, LW.mk rfl rfl ⟨hR, hRg, hM, hpl, hb, by omega, fun i hi => ?_, fun i hi => ?_⟩⟩
  · rw [hup, hup]
    by_cases e : i = len
    · rw [if_pos e, if_pos e]
    · rw [if_neg e, if_neg e]; exact hc i (by omega)
  · rw [hup]
    by_cases e : i = len
    · rw [if_pos e]; exact hv
    · rw [if_neg e]; exact ht i (by omega)
set_option maxHeartbeats 4000000 in
set_option maxRecDepth 100000 in
theorem st_undo {G : GP} (hF : G.l.stackTraces = false) {x0 m0 oa th : Nat} {wC wN : va_W} (hW : LW G x0 m0 th wC wN) : PairI G x0 m0 oa sL_undo [(0, 8, 11, 15)] sX10_undo [] wC wN := by
  obtain ⟨xa, pa, P, pl, nx, num, len, cs, f, m, g, qs, R, mk, ma, z, sf, hh, sh, tx, wy, mo, td, re, lo, to, r9, ha, rfl, rfl, rfl, rfl, hI⟩ := hW
  obtain ⟨hR, hRg, hM, hpl, hb, hl, hc, ht⟩ := id hI
  have h6 : P.parts ≤ 6 := hR.1.1.1.1
  have hz : P.parts = z 0 := hR.2.1.1
  by_cases h0 : num = 0
  · exact PairI.thr (k := 1) (by decide) (by decide) (by decide) (by decide) rfl (fun fo => hL_undo_1 rfl (x_X9_undo_s hF h0)) (c_X10_undo_s h0) ⟨_, rfl⟩ (LW.mk rfl rfl hI)
  obtain ⟨hk, hM2⟩ := hM.undo (by omega)
  obtain ⟨hRg2, hS⟩ := hRg.undo (by omega)
  have hpk : pl ((nx + 5) % 6) = some (qs ((nx + 5) % 6) 0) := by rw [hpl, if_pos hk]
  have hRo := hS.undo hR
  have hC := hRo.cpy (O := P) hR.1.2.1 hR.1.2.2.1
  refine PairI.gen (W := wR G xa pa P pl nx num (wP G (qs ((nx + 5) % 6)) (R ((nx + 5) % 6))) len cs f m g) (V := plx G qs R ((nx + 5) % 6) mk) (mc := 0) (ms := 0) (by decide) (by decide) ?_ rfl rfl (c_X9_undo hM.2.1 hM.2.2.1 (by omega) hpk) (fun W mc ms fs Qf fo h1 h2 h3 => hL_undo_ok h1 h2 h3) (c_X10_undo_ok (by omega) hM.2.2.1) ⟨_, rfl⟩ (fun w9 w e1 e2 => ?_)
  · refine ((plq_get hk).append_left _).trans ?_
    rw [← List.append_assoc]
    exact (wR_T.symm.append_right _)
  · subst e1; subst e2
    refine ⟨_, ?_, LW.mk (pa := pa) (f := f) (m := m) (g := g) rfl rfl ⟨hC, hRg2, hM2, hpl, hb, hl, hc, ht⟩⟩
    refine (wR_T.append_right _).trans ?_
    rw [List.append_assoc]
    exact (plq_get hk).symm.append_left _
set_option maxHeartbeats 4000000 in
set_option maxRecDepth 100000 in
theorem st_addAll {G : GP} (hF : G.l.stackTraces = false) {x0 m0 oa th : Nat} {wC wN : va_W} (hW : LW G x0 m0 th wC wN) : PairI G x0 m0 oa sL_addAll [(0, 8, 11, 13), (0, 8, 14, 15)] sX10_addAll [] wC wN := by
  obtain ⟨xa, pa, P, pl, nx, num, len, cs, f, m, g, qs, R, mk, ma, z, sf, hh, sh, tx, wy, mo, td, re, lo, to, r9, ha, rfl, rfl, rfl, rfl, hI⟩ := hW
  obtain ⟨hR, hRg, hM, hpl, hb, hl, hc, ht⟩ := id hI
  have h6 : P.parts ≤ 6 := hR.1.1.1.1
  have hz : P.parts = z 0 := hR.2.1.1
  have hcs : ∀ i, i < len → cs i < 2 ^ 31 := fun i hi => by
    have h1 := ht i hi
    rw [hc i hi]
    omega
  obtain ⟨s1, s2, s3⟩ := stop_spec td tx len
  obtain ⟨t2, t3⟩ := stop_cls (td := td) hc
  by_cases hlt : stopAt td tx len < len
  · exact PairI.thr (k := 1) (by decide) (by decide) (by decide) (by decide) rfl (fun fo => hL_addAll_1 rfl (x_X9_addAll_e hF hl hcs s1 t2 t3 hlt)) (c_X10_addAll_r1 hl ht s1 s2 s3 hlt) ⟨_, rfl⟩ (LW.mk rfl rfl hI)
  have he : stopAt td tx len = len := by omega
  rw [he] at s2 t2
  have sr := sr_N hc len (Nat.le_refl len) s2
  have hiv := mtK_inv td tx len
  by_cases hto : (mtK td tx len).2.2.2 = 0
  · exact PairI.thr (k := 1) (by decide) (by decide) (by decide) (by decide) rfl (fun fo => hL_addAll_1 rfl (x_X9_addAll_c hF hl hcs (Nat.le_refl _) t2 (fun q => absurd q (Nat.lt_irrefl _)) rfl (by rw [sr.2.2, if_pos hto]))) (c_X10_addAll_r2 hl ht (Nat.le_refl _) s2 (fun q => absurd q (Nat.lt_irrefl _)) rfl hto) ⟨_, rfl⟩ (LW.mk rfl rfl hI)
  have hc0 : ¬ (syN cs len).2.2 = 0 := by
    rw [sr.2.2, if_neg hto]
    decide
  have hsp : (syN cs len).1 ≤ 61 := by
    have := sr.1
    omega
  by_cases hm9 : P.parts + (mtK td tx len).2.1 + 1 ≤ 6
  rotate_left
  · exact PairI.thr (k := 2) (by decide) (by decide) (by decide) (by decide) rfl (fun fo => hL_addAll_2 rfl (x_X9_addAll_s hF hl hcs (Nat.le_refl _) t2 (fun q => absurd q (Nat.lt_irrefl _)) rfl hc0 h6 hsp (by have := sr.1; omega))) (c_X10_addAll_s hl ht (Nat.le_refl _) s2 (fun q => absurd q (Nat.lt_irrefl _)) rfl hto (by omega) (by omega)) ⟨_, rfl⟩ (LW.mk rfl rfl hI)
  have har := ar_all hR.1 hc s2 hm9
  have hats : ∀ i, i < len → cs i < 2 ^ 31 ∧ (ats P cs i).1.parts < 2 ^ 31 ∧ (¬ cs i = 59 → (ats P cs i).2.1 < 6 ∧ (ats P cs i).2.2 < 6 ∧ 48 ≤ cs i) := fun i hi => by
    obtain ⟨r1, r2, r3, -⟩ := har i (by omega)
    have hmono := mtK_mono td tx (m := i) len (by omega)
    refine ⟨hcs i hi, by omega, fun h59 => ?_⟩
    have hi6 := (mtK_inv td tx i).1
    have ha := s2 i hi
    rw [hc i hi] at h59 ⊢
    unfold mtA at ha
    rw [if_neg h59] at ha
    by_cases q : 48 ≤ tx i ∧ tx i ≤ 57
    · rw [if_pos q] at ha
      by_cases q2 : (mtK td tx i).2.2.1 = 6 ∨ ((mtK td tx i).2.2.1 = 5 ∧ (mtK td tx i).2.2.2 + (tx i - 48) = 0)
      · rw [if_pos q2] at ha
        exact absurd rfl ha
      · refine ⟨by omega, ?_, q.1⟩
        rw [r3]
        have : ¬ (mtK td tx i).2.2.1 = 6 := fun e => q2 (Or.inl e)
        omega
    · rw [if_neg q] at ha
      exact absurd rfl ha
  have hps : P.parts + (syN cs len).1 ≤ 6 := by
    have := sr.1
    omega
  obtain ⟨ra, rb⟩ := hR.addAll hc s2 hto hm9
  exact PairI.save hI (fun e => c_X9_addAll_n hM.2.1 hM.2.2.1 e hl hcs (Nat.le_refl _) t2 (fun q => absurd q (Nat.lt_irrefl _)) rfl hc0 h6 hsp hps hats) (fun qa O e => c_X9_addAll_o hM.2.1 hM.2.2.1 e hl hcs (Nat.le_refl _) t2 (fun q => absurd q (Nat.lt_irrefl _)) rfl hc0 h6 hsp hps hats) (fun W mc ms fs Qf fo h1 h2 h3 => hL_addAll_ok h1 h2 h3) (congrArg nI rb) (c_X10_addAll_ok hl ht (Nat.le_refl _) s2 (fun q => absurd q (Nat.lt_irrefl _)) rfl hto (by omega) (by omega) hM.2.2.1) ra (Nat.zero_le _) (fun i hi => absurd hi (Nat.not_lt_zero i)) (fun i hi => absurd hi (Nat.not_lt_zero i))
set_option maxHeartbeats 4000000 in
set_option maxRecDepth 100000 in
theorem st_forget {G : GP} {x0 m0 th : Nat} {wC wN : va_W} (hW : LW G x0 m0 th wC wN) : PairV G x0 m0 sX9_forget sX10_forget [] wC wN (fun v => ∃ x9 : Int32, v = .int x9) := by
  obtain ⟨xa, pa, P, pl, nx, num, len, cs, f, m, g, qs, R, mk, ma, z, sf, hh, sh, tx, wy, mo, td, re, lo, to, r9, ha, rfl, rfl, rfl, rfl, hI⟩ := hW
  obtain ⟨hR, hRg, hM, hpl, hb, hl, hc, ht⟩ := id hI
  have h6 : P.parts ≤ 6 := hR.1.1.1.1
  have hz : P.parts = z 0 := hR.2.1.1
  have en : P.sv.num = z 3 := hR.2.1.2.2.2.2.2.1
  obtain ⟨W, V, mc, ms, k1, k2, hp, hw, hC⟩ := save_C (P' := P.setSv P.sv.clr) (len' := len) (mcn := 7) (msn := 93) (mco := 0) (mso := 0) (by decide) (by decide) (by decide) (by decide) hI (fun e => c_X9_forget_n hM.2.1 hM.2.2.1 e) (fun qa O e => c_X9_forget_o hM.2.1 hM.2.2.1 e)
  rw [en] at hC
  refine ⟨.int (nI (z 3)), W, V, mc, ms, _, _, ⟨_, rfl⟩, k1, k2, hp, hw, hC, c_X10_forget hM.2.2.1, ⟨_, rfl⟩, fun w9 w e1 e2 => ?_⟩
  subst e2
  obtain ⟨wD, q1, q2⟩ := e1.lw (ma := ma) (th := 0) hR.forget hl hc ht
  exact ⟨wD, 0, q1, q2⟩
set_option maxHeartbeats 4000000 in
set_option maxRecDepth 100000 in
theorem st_clearBuffer {G : GP} {x0 m0 th : Nat} {wC wN : va_W} (hW : LW G x0 m0 th wC wN) : PairV G x0 m0 sX9_clearBuffer sX10_clearBuffer [] wC wN (fun v => ∃ x9 : Int32, v = .int x9) := by
  obtain ⟨xa, pa, P, pl, nx, num, len, cs, f, m, g, qs, R, mk, ma, z, sf, hh, sh, tx, wy, mo, td, re, lo, to, r9, ha, rfl, rfl, rfl, rfl, hI⟩ := hW
  obtain ⟨hR, hRg, hM, hpl, hb, hl, hc, ht⟩ := id hI
  have h6 : P.parts ≤ 6 := hR.1.1.1.1
  have hz : P.parts = z 0 := hR.2.1.1
  refine ⟨.int (nI len), wR G xa pa P pl nx num [] len cs f m g, plq G qs R mk, 0, 0, _, _, ⟨_, rfl⟩, by decide, by decide, List.Perm.refl _, ⟨_, rfl⟩, c_X9_clearBuffer, c_X10_clearBuffer, ⟨_, rfl⟩, fun w9 w e1 e2 => ?_⟩
  subst e1; subst e2
  exact ⟨_, 0, List.Perm.refl _, LW.mk rfl rfl ⟨hR, hRg, hM, hpl, hb, Nat.zero_le _, fun i hi => absurd hi (Nat.not_lt_zero i), fun i hi => absurd hi (Nat.not_lt_zero i)⟩⟩
set_option maxHeartbeats 4000000 in
set_option maxRecDepth 100000 in
theorem st_firstError {G : GP} {x0 m0 th : Nat} {wC wN : va_W} (hW : LW G x0 m0 th wC wN) : PairV G x0 m0 sX9_firstError sX10_firstError [] wC wN (fun v => ∃ x9 : Int32, v = .int x9) := by
  obtain ⟨xa, pa, P, pl, nx, num, len, cs, f, m, g, qs, R, mk, ma, z, sf, hh, sh, tx, wy, mo, td, re, lo, to, r9, ha, rfl, rfl, rfl, rfl, hI⟩ := hW
  obtain ⟨hR, hRg, hM, hpl, hb, hl, hc, ht⟩ := id hI
  have h6 : P.parts ≤ 6 := hR.1.1.1.1
  have hz : P.parts = z 0 := hR.2.1.1
  have hcs : ∀ i, i < len → cs i < 2 ^ 31 := fun i hi => by
    have h1 := ht i hi
    rw [hc i hi]
    omega
  obtain ⟨s1, s2, s3⟩ := stop_spec td tx len
  obtain ⟨t2, t3⟩ := stop_cls (td := td) hc
  refine ⟨.int (nI (stopAt td tx len)), wR G xa pa P pl nx num [] len cs f m g, plq G qs R mk, 1, 3, _, _, ⟨_, rfl⟩, by decide, by decide, List.Perm.refl _, ⟨_, rfl⟩, c_X9_firstError hl hcs s1 t2 t3, c_X10_firstError_r hl ht s1 s2 s3, ⟨_, rfl⟩, fun w9 w e1 e2 => ?_⟩
  subst e1; subst e2
  exact ⟨_, 0, List.Perm.refl _, LW.mk rfl rfl hI⟩
