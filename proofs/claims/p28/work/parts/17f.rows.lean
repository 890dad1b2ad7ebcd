set_option maxHeartbeats 20000000 in
set_option maxRecDepth 100000 in
theorem rs_206 {G : GP} {B : Bd} {na wa ua la : Nat} {xa : Nat → Nat} {P : PV} {num : Nat} {nn ww uu ll : Nat → Nat} {wC : va_W} (hB : Bok G sL_rows B) (hR : B.room sL_rows 0 0) (h : LI P num nn ww uu ll) {s A : Nat} (hs : s < 31) (hA216 : A ≤ 216) (h729 : ∀ k, wyS (Wf ww) 0 P.parts k ≤ 729) {k : Nat} (hk : k < A) (kk : aW G sL_rows B 68 [(0, .ref (xa 0)), (2, .ref na), (3, .ref wa), (4, .int (nI s)), (5, .int (nI A)), (6, .int (nI (scA (Wf ww) P.parts s (k + 1)))), (7, .int (nI (scB (Wf ww) P.parts s (k + 1)))), (8, .int (nI (scC (Wf ww) P.parts (k + 1)))), (9, .int (nI (scB (Wf ww) P.parts P.limit (k + 1)))), (10, .int (nI (scS (Wf ww) P.parts P.limit (k + 1)).1)), (11, .int (nI (scS (Wf ww) P.parts P.limit (k + 1)).2)), (12, .int (nI (k + 1)))] [] (w4 G na wa ua la nn ww uu ll ++ wC) 0 0) {f9 : Nat} {br : Nat × Nat} (e1 : f9 = (scB (Wf ww) P.parts P.limit (k + 1))) (e2 : br = (scS (Wf ww) P.parts P.limit (k + 1))) : aW G sL_rows B 206 [(0, .ref (xa 0)), (2, .ref na), (3, .ref wa), (4, .int (nI s)), (5, .int (nI A)), (6, .int (nI (scA (Wf ww) P.parts s (k + 1)))), (7, .int (nI (scB (Wf ww) P.parts s (k + 1)))), (8, .int (nI (scC (Wf ww) P.parts (k + 1)))), (9, .int (nI f9)), (10, .int (nI br.1)), (11, .int (nI br.2)), (12, .int (nI k))] [] (w4 G na wa ua la nn ww uu ll ++ wC) 0 0 := by
  obtain ⟨z0, z1, z2, z3, z4, z5⟩ := h.2.2.2.2.1
  have h3 := h.2.1
  have h15 := h.2.2.1
  have hw := h.2.2.2.2.2.1
  have hc := h.c
  have hW : ∀ p l, p < P.parts → l < 6 → Wf ww p l = gt P.wt p l := fun p l hp hl => (hw p l hp hl).1
  have hbd := sc_le (n := P.parts) (s := s) h729 k
  have hbl := sc_le (n := P.parts) (s := P.limit) h729 k
  have hbs := scS_le (n := P.parts) (s := P.limit) h729 k
  have hk729 := h729 k
  have hld := ldS_le P.parts k
  subst e1; subst e2
  refine a_iincN (b := 1) hB dL_rows_206 rfl (by decide) (by decide) ?_
  refine a_goto (tgt := 68) hB dL_rows_209 (by decide) ?_
  exact aW_at [0, 1, 2, 3, 4, 5, 6, 7, 8, 9, 10, 11] rfl rfl rfl kk
set_option maxHeartbeats 20000000 in
set_option maxRecDepth 100000 in
theorem rs_173 {G : GP} {B : Bd} {na wa ua la : Nat} {xa : Nat → Nat} {P : PV} {num : Nat} {nn ww uu ll : Nat → Nat} {wC : va_W} (hB : Bok G sL_rows B) (hR : B.room sL_rows 0 0) (h : LI P num nn ww uu ll) {s A : Nat} (hs : s < 31) (hA216 : A ≤ 216) (h729 : ∀ k, wyS (Wf ww) 0 P.parts k ≤ 729) {k : Nat} (hk : k < A) (kk : aW G sL_rows B 68 [(0, .ref (xa 0)), (2, .ref na), (3, .ref wa), (4, .int (nI s)), (5, .int (nI A)), (6, .int (nI (scA (Wf ww) P.parts s (k + 1)))), (7, .int (nI (scB (Wf ww) P.parts s (k + 1)))), (8, .int (nI (scC (Wf ww) P.parts (k + 1)))), (9, .int (nI (scB (Wf ww) P.parts P.limit (k + 1)))), (10, .int (nI (scS (Wf ww) P.parts P.limit (k + 1)).1)), (11, .int (nI (scS (Wf ww) P.parts P.limit (k + 1)).2)), (12, .int (nI (k + 1)))] [] (w4 G na wa ua la nn ww uu ll ++ wC) 0 0) {a7 : Nat} (e1 : a7 = (scB (Wf ww) P.parts s (k + 1))) : aW G sL_rows B 173 [(0, .ref (xa 0)), (2, .ref na), (3, .ref wa), (4, .int (nI s)), (5, .int (nI A)), (6, .int (nI (scA (Wf ww) P.parts s (k + 1)))), (7, .int (nI a7)), (8, .int (nI (scC (Wf ww) P.parts (k + 1)))), (9, .int (nI (scB (Wf ww) P.parts P.limit k))), (10, .int (nI (scS (Wf ww) P.parts P.limit k).1)), (11, .int (nI (scS (Wf ww) P.parts P.limit k).2)), (12, .int (nI k)), (13, .int (nI (wyS (Wf ww) 0 P.parts k))), (14, .int (nI (ldS P.parts k)))] [] (w4 G na wa ua la nn ww uu ll ++ wC) 0 0 := by
  obtain ⟨z0, z1, z2, z3, z4, z5⟩ := h.2.2.2.2.1
  have h3 := h.2.1
  have h15 := h.2.2.1
  have hw := h.2.2.2.2.2.1
  have hc := h.c
  have hW : ∀ p l, p < P.parts → l < 6 → Wf ww p l = gt P.wt p l := fun p l hp hl => (hw p l hp hl).1
  have hbd := sc_le (n := P.parts) (s := s) h729 k
  have hbl := sc_le (n := P.parts) (s := P.limit) h729 k
  have hbs := scS_le (n := P.parts) (s := P.limit) h729 k
  have hk729 := h729 k
  have hld := ldS_le P.parts k
  subst e1
  refine a_iload hB dL_rows_173 rfl ?_
  refine a_aload_n hB dL_rows_175 rfl ?_
  refine a_iconstN (v := 1) hB dL_rows_176 (by decide) ?_
  refine a_ialoadN hB dL_rows_177 0 rfl (by omega) (by decide) ?_
  rw [z1]
  refine a_icmp_geN (tgt := 184) hB dL_rows_178 (by decide) (by omega) (by omega) (fun c178 => ?_) (fun c178 => ?_)
  · refine a_iload hB dL_rows_184 rfl ?_
    refine a_iload hB dL_rows_186 rfl ?_
    refine a_iaddN hB dL_rows_188 ?_
    refine a_istore hB dL_rows_189 (by decide) ?_
    refine a_iload hB dL_rows_191 rfl ?_
    refine a_iload hB dL_rows_193 rfl ?_
    refine a_icmp_leN (tgt := 206) hB dL_rows_195 (by decide) (by omega) (by omega) (fun c195 => ?_) (fun c195 => ?_)
    · exact aW_at [0, 1, 2, 3, 4, 5, 6, 7, 8, 9, 10, 11] rfl rfl rfl (rs_206 hB hR h hs hA216 h729 hk kk (br := (scS (Wf ww) P.parts P.limit k)) (scF_e1 c178 rfl) (scS_e2 c195 rfl))
    · refine a_iload hB dL_rows_198 rfl ?_
      refine a_istore hB dL_rows_200 (by decide) ?_
      refine a_iload hB dL_rows_202 rfl ?_
      refine a_istore hB dL_rows_204 (by decide) ?_
      exact aW_at [0, 1, 2, 3, 4, 5, 6, 7, 8, 9, 10, 11] rfl rfl rfl (rs_206 hB hR h hs hA216 h729 hk kk (br := (wyS (Wf ww) 0 P.parts k, k)) (scF_e1 c178 rfl) (scS_e1 c178 c195 rfl))
  · refine a_goto (tgt := 206) hB dL_rows_181 (by decide) ?_
    exact aW_at [0, 1, 2, 3, 4, 5, 6, 7, 8, 9, 10, 11] rfl rfl rfl (rs_206 hB hR h hs hA216 h729 hk kk (br := (scS (Wf ww) P.parts P.limit k)) (scF_e0 c178 rfl) (scS_e3 c178 rfl))
set_option maxHeartbeats 20000000 in
set_option maxRecDepth 100000 in
theorem rs_159 {G : GP} {B : Bd} {na wa ua la : Nat} {xa : Nat → Nat} {P : PV} {num : Nat} {nn ww uu ll : Nat → Nat} {wC : va_W} (hB : Bok G sL_rows B) (hR : B.room sL_rows 0 0) (h : LI P num nn ww uu ll) {s A : Nat} (hs : s < 31) (hA216 : A ≤ 216) (h729 : ∀ k, wyS (Wf ww) 0 P.parts k ≤ 729) {k : Nat} (hk : k < A) (kk : aW G sL_rows B 68 [(0, .ref (xa 0)), (2, .ref na), (3, .ref wa), (4, .int (nI s)), (5, .int (nI A)), (6, .int (nI (scA (Wf ww) P.parts s (k + 1)))), (7, .int (nI (scB (Wf ww) P.parts s (k + 1)))), (8, .int (nI (scC (Wf ww) P.parts (k + 1)))), (9, .int (nI (scB (Wf ww) P.parts P.limit (k + 1)))), (10, .int (nI (scS (Wf ww) P.parts P.limit (k + 1)).1)), (11, .int (nI (scS (Wf ww) P.parts P.limit (k + 1)).2)), (12, .int (nI (k + 1)))] [] (w4 G na wa ua la nn ww uu ll ++ wC) 0 0) {s6 : Nat} (e1 : s6 = (scA (Wf ww) P.parts s (k + 1))) : aW G sL_rows B 159 [(0, .ref (xa 0)), (2, .ref na), (3, .ref wa), (4, .int (nI s)), (5, .int (nI A)), (6, .int (nI s6)), (7, .int (nI (scB (Wf ww) P.parts s k))), (8, .int (nI (scC (Wf ww) P.parts (k + 1)))), (9, .int (nI (scB (Wf ww) P.parts P.limit k))), (10, .int (nI (scS (Wf ww) P.parts P.limit k).1)), (11, .int (nI (scS (Wf ww) P.parts P.limit k).2)), (12, .int (nI k)), (13, .int (nI (wyS (Wf ww) 0 P.parts k))), (14, .int (nI (ldS P.parts k)))] [] (w4 G na wa ua la nn ww uu ll ++ wC) 0 0 := by
  obtain ⟨z0, z1, z2, z3, z4, z5⟩ := h.2.2.2.2.1
  have h3 := h.2.1
  have h15 := h.2.2.1
  have hw := h.2.2.2.2.2.1
  have hc := h.c
  have hW : ∀ p l, p < P.parts → l < 6 → Wf ww p l = gt P.wt p l := fun p l hp hl => (hw p l hp hl).1
  have hbd := sc_le (n := P.parts) (s := s) h729 k
  have hbl := sc_le (n := P.parts) (s := P.limit) h729 k
  have hbs := scS_le (n := P.parts) (s := P.limit) h729 k
  have hk729 := h729 k
  have hld := ldS_le P.parts k
  subst e1
  refine a_iload hB dL_rows_159 rfl ?_
  refine a_iload hB dL_rows_161 rfl ?_
  refine a_icmp_ltN (tgt := 173) hB dL_rows_163 (by decide) (by omega) (by omega) (fun c163 => ?_) (fun c163 => ?_)
  · exact aW_at [0, 1, 2, 3, 4, 5, 6, 7, 8, 9, 10, 11, 12, 13] rfl rfl rfl (rs_173 hB hR h hs hA216 h729 hk kk (by first | exact scB_e1 c163 rfl | exact scB_e0 c163 rfl))
  · refine a_iload hB dL_rows_166 rfl ?_
    refine a_iload hB dL_rows_168 rfl ?_
    refine a_iaddN hB dL_rows_170 ?_
    refine a_istore hB dL_rows_171 (by decide) ?_
    exact aW_at [0, 1, 2, 3, 4, 5, 6, 7, 8, 9, 10, 11, 12, 13] rfl rfl rfl (rs_173 hB hR h hs hA216 h729 hk kk (by first | exact scB_e1 c163 rfl | exact scB_e0 c163 rfl))
set_option maxHeartbeats 20000000 in
set_option maxRecDepth 100000 in
theorem rs_145 {G : GP} {B : Bd} {na wa ua la : Nat} {xa : Nat → Nat} {P : PV} {num : Nat} {nn ww uu ll : Nat → Nat} {wC : va_W} (hB : Bok G sL_rows B) (hR : B.room sL_rows 0 0) (h : LI P num nn ww uu ll) {s A : Nat} (hs : s < 31) (hA216 : A ≤ 216) (h729 : ∀ k, wyS (Wf ww) 0 P.parts k ≤ 729) {k : Nat} (hk : k < A) (kk : aW G sL_rows B 68 [(0, .ref (xa 0)), (2, .ref na), (3, .ref wa), (4, .int (nI s)), (5, .int (nI A)), (6, .int (nI (scA (Wf ww) P.parts s (k + 1)))), (7, .int (nI (scB (Wf ww) P.parts s (k + 1)))), (8, .int (nI (scC (Wf ww) P.parts (k + 1)))), (9, .int (nI (scB (Wf ww) P.parts P.limit (k + 1)))), (10, .int (nI (scS (Wf ww) P.parts P.limit (k + 1)).1)), (11, .int (nI (scS (Wf ww) P.parts P.limit (k + 1)).2)), (12, .int (nI (k + 1)))] [] (w4 G na wa ua la nn ww uu ll ++ wC) 0 0)  : aW G sL_rows B 145 [(0, .ref (xa 0)), (2, .ref na), (3, .ref wa), (4, .int (nI s)), (5, .int (nI A)), (6, .int (nI (scA (Wf ww) P.parts s k))), (7, .int (nI (scB (Wf ww) P.parts s k))), (8, .int (nI (scC (Wf ww) P.parts (k + 1)))), (9, .int (nI (scB (Wf ww) P.parts P.limit k))), (10, .int (nI (scS (Wf ww) P.parts P.limit k).1)), (11, .int (nI (scS (Wf ww) P.parts P.limit k).2)), (12, .int (nI k)), (13, .int (nI (wyS (Wf ww) 0 P.parts k))), (14, .int (nI (ldS P.parts k)))] [] (w4 G na wa ua la nn ww uu ll ++ wC) 0 0 := by
  obtain ⟨z0, z1, z2, z3, z4, z5⟩ := h.2.2.2.2.1
  have h3 := h.2.1
  have h15 := h.2.2.1
  have hw := h.2.2.2.2.2.1
  have hc := h.c
  have hW : ∀ p l, p < P.parts → l < 6 → Wf ww p l = gt P.wt p l := fun p l hp hl => (hw p l hp hl).1
  have hbd := sc_le (n := P.parts) (s := s) h729 k
  have hbl := sc_le (n := P.parts) (s := P.limit) h729 k
  have hbs := scS_le (n := P.parts) (s := P.limit) h729 k
  have hk729 := h729 k
  have hld := ldS_le P.parts k
  refine a_iload hB dL_rows_145 rfl ?_
  refine a_iload hB dL_rows_147 rfl ?_
  refine a_icmp_neN (tgt := 159) hB dL_rows_149 (by decide) (by omega) (by omega) (fun c149 => ?_) (fun c149 => ?_)
  · exact aW_at [0, 1, 2, 3, 4, 5, 6, 7, 8, 9, 10, 11, 12, 13] rfl rfl rfl (rs_159 hB hR h hs hA216 h729 hk kk (by first | exact scA_e1 c149 rfl | exact scA_e0 c149 rfl))
  · refine a_iload hB dL_rows_152 rfl ?_
    refine a_iload hB dL_rows_154 rfl ?_
    refine a_iaddN hB dL_rows_156 ?_
    refine a_istore hB dL_rows_157 (by decide) ?_
    exact aW_at [0, 1, 2, 3, 4, 5, 6, 7, 8, 9, 10, 11, 12, 13] rfl rfl rfl (rs_159 hB hR h hs hA216 h729 hk kk (by first | exact scA_e1 c149 rfl | exact scA_e0 c149 rfl))
set_option maxHeartbeats 20000000 in
set_option maxRecDepth 100000 in
theorem rs_two {G : GP} {B : Bd} {na wa ua la : Nat} {xa : Nat → Nat} {P : PV} {num : Nat} {nn ww uu ll : Nat → Nat} {wC : va_W} (hB : Bok G sL_rows B) (hR : B.room sL_rows 0 0) (h : LI P num nn ww uu ll) {s A : Nat} (hs : s < 31) (hA216 : A ≤ 216) (h729 : ∀ k, wyS (Wf ww) 0 P.parts k ≤ 729) {k : Nat} (hk : k < A) (kk : aW G sL_rows B 68 [(0, .ref (xa 0)), (2, .ref na), (3, .ref wa), (4, .int (nI s)), (5, .int (nI A)), (6, .int (nI (scA (Wf ww) P.parts s (k + 1)))), (7, .int (nI (scB (Wf ww) P.parts s (k + 1)))), (8, .int (nI (scC (Wf ww) P.parts (k + 1)))), (9, .int (nI (scB (Wf ww) P.parts P.limit (k + 1)))), (10, .int (nI (scS (Wf ww) P.parts P.limit (k + 1)).1)), (11, .int (nI (scS (Wf ww) P.parts P.limit (k + 1)).2)), (12, .int (nI (k + 1)))] [] (w4 G na wa ua la nn ww uu ll ++ wC) 0 0)  : aW G sL_rows B 138 [(0, .ref (xa 0)), (2, .ref na), (3, .ref wa), (4, .int (nI s)), (5, .int (nI A)), (6, .int (nI (scA (Wf ww) P.parts s k))), (7, .int (nI (scB (Wf ww) P.parts s k))), (8, .int (nI (scC (Wf ww) P.parts k))), (9, .int (nI (scB (Wf ww) P.parts P.limit k))), (10, .int (nI (scS (Wf ww) P.parts P.limit k).1)), (11, .int (nI (scS (Wf ww) P.parts P.limit k).2)), (12, .int (nI k)), (13, .int (nI (wyS (Wf ww) 0 P.parts k))), (14, .int (nI (ldS P.parts k)))] [] (w4 G na wa ua la nn ww uu ll ++ wC) 0 0 := by
  obtain ⟨z0, z1, z2, z3, z4, z5⟩ := h.2.2.2.2.1
  have h3 := h.2.1
  have h15 := h.2.2.1
  have hw := h.2.2.2.2.2.1
  have hc := h.c
  have hW : ∀ p l, p < P.parts → l < 6 → Wf ww p l = gt P.wt p l := fun p l hp hl => (hw p l hp hl).1
  have hbd := sc_le (n := P.parts) (s := s) h729 k
  have hbl := sc_le (n := P.parts) (s := P.limit) h729 k
  have hbs := scS_le (n := P.parts) (s := P.limit) h729 k
  have hk729 := h729 k
  have hld := ldS_le P.parts k
  refine a_iload hB dL_rows_138 rfl ?_
  refine a_iload hB dL_rows_140 rfl ?_
  refine a_iaddN hB dL_rows_142 ?_
  refine a_istore hB dL_rows_143 (by decide) ?_
  exact aW_at [0, 1, 2, 3, 4, 5, 6, 7, 8, 9, 10, 11, 12, 13] rfl rfl rfl (rs_145 hB hR h hs hA216 h729 hk kk)
