/-! WHAT THE START GIVES -/
theorem gwN_tb : ∀ w ∈ gwN, w ∈ lw_tbl ∧ w.onTables = true := by decide +kernel
theorem gwE_tb : ∀ E ∈ [xIAE, xISE, xIOB], Cond.castable E E ∈ lw_tbl ∧ (Cond.castable E E).onTables = true := by decide +kernel
theorem gwY_tb : ∀ q ∈ gwY, Cond.declares q ∈ lw_tbl ∧ (Cond.declares q).onTables = true := by decide +kernel
theorem gwS_tb : ∀ q ∈ gwS, Cond.stringRef RX9 q.1 q.2 ∈ lw_tbl := by decide +kernel
theorem gwS_nr : ∀ q ∈ gwS, Cond.exactly (.string RX9 q.1) "java/lang/String" ∈ flatC (Jvm.Cond.and given_1 narrow_1) := by decide +kernel
theorem st_tb : Cond.laysStatic Bundle.tN "UNASSIGNED_STACK" Bundle.steD ∈ lw_tbl ∧ Cond.laysStatic Bundle.tN "SUPPRESSED_SENTINEL" Bundle.listD ∈ lw_tbl ∧ Cond.initialized Bundle.tN ∈ lw_tbl ∧ Cond.arrayOver (.object RX4) ∈ lw_tbl ∧ Cond.arrayClass .int ∈ lw_tbl ∧ Cond.arrayClass .long ∈ lw_tbl ∧ Cond.arrayClass .double ∈ lw_tbl := by decide +kernel
theorem st_nr : Cond.isRef (.static Bundle.tN "UNASSIGNED_STACK" Bundle.steD) ∈ flatC (Jvm.Cond.and given_1 narrow_1) ∧ Cond.isRef (.static Bundle.tN "SUPPRESSED_SENTINEL" Bundle.listD) ∈ flatC (Jvm.Cond.and given_1 narrow_1) := by decide +kernel
section Start
variable {s : State} {args : Array Value}
theorem arr_I (h : (Cond.arrayClass .int).before args s = true) : ∃ cA, ArrOfT s cA .int ∧ va_RA s cA .int := by
  obtain ⟨cA, kA, comp, h1, h2, h3⟩ := Cond.arrayClass_spec h
  exact ⟨cA, fun n z => ⟨fun k h => (by cases h), kA, h2, comp, h3⟩, h1⟩
theorem arr_J (h : (Cond.arrayClass .long).before args s = true) : ∃ cA, ArrOfT s cA .long ∧ va_RA s cA .long := by
  obtain ⟨cA, kA, comp, h1, h2, h3⟩ := Cond.arrayClass_spec h
  exact ⟨cA, fun n z => ⟨fun k h => (by cases h), kA, h2, comp, h3⟩, h1⟩
theorem arr_D (h : (Cond.arrayClass .double).before args s = true) : ∃ cA, ArrOfT s cA .double ∧ va_RA s cA .double := by
  obtain ⟨cA, kA, comp, h1, h2, h3⟩ := Cond.arrayClass_spec h
  exact ⟨cA, fun n z => ⟨fun k h => (by cases h), kA, h2, comp, h3⟩, h1⟩
theorem arr_P (h : (Cond.arrayOver (.object RX4)).before args s = true) : ∃ cA, ArrOfT s cA (.object RX4) ∧ va_RA s cA (.object RX4) := by
  obtain ⟨comp, c, k, h1, h2, h3, h4, h5⟩ := Cond.arrayOver_spec h
  exact ⟨c, fun n z => ⟨fun k h => (by cases h), k, h3, comp, h4⟩, k, comp, h3, h4, h1, h5⟩
theorem K_start (hg : ∀ w ∈ gw, w.before args s = true) : ∃ D : va_G, ∀ (c : Nat) (q : vw_C), vwCl[c]? = some q → u_Kn s q.1 q.2.1 q.2.2 (D.1 c) (D.2 c) := by
  obtain ⟨c0, i0, k0⟩ := u_known (C := RX0) (T := TX0) (N := 1) (n := 1) hg lay_X0 (hg _ is_X0)
  obtain ⟨c1, i1, k1⟩ := u_known (C := RX1) (T := TX1) (N := 1) (n := 1) hg lay_X1 (hg _ is_X1)
  obtain ⟨c2, i2, k2⟩ := u_known (C := RX2) (T := TX2) (N := 3) (n := 3) hg lay_X2 (hg _ is_X2)
  obtain ⟨c3, i3, k3⟩ := u_known (C := RX3) (T := TX3) (N := 1) (n := 1) hg lay_X3 (hg _ is_X3)
  obtain ⟨c4, i4, k4⟩ := u_known (C := RX4) (T := TX4) (N := 6) (n := 6) hg lay_X4 (hg _ is_X4)
  obtain ⟨c5, i5, k5⟩ := u_known (C := RX5) (T := TX5) (N := 7) (n := 7) hg lay_X5 (hg _ is_X5)
  obtain ⟨c7, i7, k7⟩ := u_known (C := RX7) (T := TX7) (N := 1) (n := 1) hg lay_X7 (hg _ is_X7)
  obtain ⟨c8, i8, k8⟩ := u_known (C := RX8) (T := TX8) (N := 2) (n := 2) hg lay_X8 (hg _ is_X8)
  obtain ⟨c9, i9, k9⟩ := u_known (C := RX9) (T := TX9) (N := 6) (n := 6) hg lay_X9 (hg _ is_X9)
  refine ⟨(fun k => if k = 0 then c0 else if k = 1 then c1 else if k = 2 then c2 else if k = 3 then c3 else if k = 4 then c4 else if k = 5 then c5 else if k = 6 then c7 else if k = 7 then c7 else if k = 8 then c8 else c9, fun k => if k = 0 then i0 else if k = 1 then i1 else if k = 2 then i2 else if k = 3 then i3 else if k = 4 then i4 else if k = 5 then i5 else if k = 6 then i7 else if k = 7 then i7 else if k = 8 then i8 else i9), ?_⟩
  intro c q hq
  match c, hq with
  | 0, hq => cases hq; exact k0
  | 1, hq => cases hq; exact k1
  | 2, hq => cases hq; exact k2
  | 3, hq => cases hq; exact k3
  | 4, hq => cases hq; exact k4
  | 5, hq => cases hq; exact k5
  | 6, hq => cases hq; exact k7
  | 7, hq => cases hq; exact k7
  | 8, hq => cases hq; exact k8
  | 9, hq => cases hq; exact k9
  | c + 10, hq => simp [vwCl] at hq
theorem env_start (l : Launch) {b L : Nat} {xs : Nat → Int32} (hX : va_X b L xs s s.heap) (hbl : b < s.heap.size) (htb : ∀ w ∈ lw_tbl, w.before args s = true) (hgv : (Jvm.Cond.and given_1 narrow_1).before args s = true) : ∃ G : GP, G.l = l ∧ G.b0 = s.heap.size ∧ G.sb = b ∧ G.sn = L ∧ EnvOk G s s.heap := by
  have hfl := flat_of_before _ hgv
  have hg : ∀ w ∈ gw, w.before args s = true := fun w hw => htb w (gw_in w hw)
  obtain ⟨t1, t2, t3, t4, t5, t6, t7⟩ := st_tb
  obtain ⟨D, hD⟩ := K_start hg
  obtain ⟨cD, d1, d2⟩ := arr_D (htb _ t7)
  obtain ⟨cI, i1, i2⟩ := arr_I (htb _ t5)
  obtain ⟨cJ, j1, j2⟩ := arr_J (htb _ t6)
  obtain ⟨cP, p1, p2⟩ := arr_P (htb _ t4)
  have hnA : ∀ a : Nat, a < s.heap.size → ¬ (fun q : Nat => s.heap.size ≤ q) a := fun a ha h => absurd ha (Nat.not_lt.mpr h)
  refine ⟨(l, D, cD, cI, cJ, cP, s.heap.size, b, L, xs), rfl, rfl, rfl, rfl, ⟨hD, ?_⟩, ?_, ?_, ?_, ?_, ?_, ?_, ?_, ?_, hbl, hX⟩
  · intro k q hq
    match k, hq with
    | 0, hq => cases hq; exact ⟨d1, d2⟩
    | 1, hq => cases hq; exact ⟨i1, i2⟩
    | 2, hq => cases hq; exact ⟨j1, j2⟩
    | 3, hq => cases hq; exact ⟨p1, p2⟩
    | k + 4, hq => simp [GP.tys] at hq
  · exact fun w hw => va_Nw.of (gwN_tb w hw).2 (htb w (gwN_tb w hw).1)
  · exact fun E hE => va_Nw.of (gwE_tb E hE).2 (htb _ (gwE_tb E hE).1)
  · exact fun q hq => absurd hq List.not_mem_nil
  · intro q hq
    obtain ⟨a, c, cell, k, ha, -⟩ := Cond.exactly_spec (hfl _ (gwS_nr q hq))
    exact ⟨a, vk_R.of (htb _ (gwS_tb q hq)) ha⟩
  · exact vx_Zqof (htb _ t1) (htb _ t3) (hfl _ st_nr.1) hnA
  · exact vx_Zqof (htb _ t2) (htb _ t3) (hfl _ st_nr.2) hnA
  · exact va_AO.of (htb _ t4)
  · exact fun q hq => va_Nw.of (gwY_tb q hq).2 (htb _ (gwY_tb q hq).1)
end Start
section CallIp
variable {G : GP} {σ τ : MS} {B : Bd} {pc k n mc ms idx nA : Nat} {L : List (Nat × Value)} {st rest As : List Value} {ws wc wr : va_W} {Qf : Option Value → va_W → Prop} {C : String}
theorem a_callIp (hB : Bok G σ B) {a : Nat} (hM : AM G τ mc ms (.ref a :: As) wc Qf) (hret : τ.ret = none) (mk : MKi τ.y τ.cc τ.nL C nA) (hw : Cond.methodLink σ.own idx τ.y ∈ gw) (hd : decode σ.cc pc = .ok (.invokespecial idx, 3)) (hst : st = As.reverse ++ .ref a :: rest) (hnA : As.length = nA) (hp : ws.Perm (wc ++ wr))
    (hfit : B.fits τ k n mc ms) (hcat : (rest.map fun v => v.category).sum ≤ 8)
    (kk : ∀ (v : Option Value) (w : va_W), Qf v w → aW G σ B (pc + 3) L (v.toList ++ rest) (w ++ wr) (k + mc) (n + ms)) : aW G σ B pc L st ws k n :=
  aW_perm hp (a_callI hB hM hret mk hw hd hst hnA (segL 0 wc.length) (seg_map wc [] wr) (segL_nd _ _) hfit hcat (fun v w hq hk => aW_perm (wput_front hk) (kk v w hq)))
end CallIp
