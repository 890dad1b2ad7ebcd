theorem wput_two {ws wa wb wc wd w2 wdx : va_W} {ps : List Nat} (h : ws = wa ++ (wb ++ wc)) (hp : ps = segL 0 wa.length ++ segL (wa.length + wb.length) wc.length) (hx : wdx = wa ++ wd ∧ wd.length = wc.length) (h2 : wa ++ (wb ++ wd) = w2) : wput ws ps wdx = w2 := by
  obtain ⟨rfl, hl⟩ := hx
  subst h; subst hp; subst h2
  have key : ∀ (ps1 ps2 : List Nat) (ws xs ys : va_W), xs.length = ps1.length → wput ws (ps1 ++ ps2) (xs ++ ys) = wput (wput ws ps1 xs) ps2 ys := by
    intro ps1
    induction ps1 with
    | nil => intro ps2 ws xs ys h; have : xs = [] := List.eq_nil_of_length_eq_zero (by simpa using h); subst this; rw [wput_nil]; simp
    | cons p ps1 ih =>
      intro ps2 ws xs ys h
      cases xs with
      | nil => exact absurd h (by simp)
      | cons x xs =>
        show wput (ws.set p x) (ps1 ++ ps2) (xs ++ ys) = wput (wput (ws.set p x) ps1 xs) ps2 ys
        exact ih ps2 (ws.set p x) xs ys (by simpa using h)
  rw [key _ _ _ _ _ (by rw [segL_len])]
  have h1 := wput_seg0 wa wa [] (wb ++ wc) rfl
  simp only [List.nil_append, List.length_nil] at h1
  rw [h1]
  have h2 := wput_seg0 wc wd (wa ++ wb) [] hl
  simp only [List.append_nil, List.append_assoc, List.length_append] at h2
  exact h2
set_option maxHeartbeats 4000000 in
set_option maxRecDepth 100000 in
theorem c_X2_saveN {G : GP} {h a nx num : Nat} {pl : Nat → Option Nat} {pa : Nat → Nat} {P : PV} (hx : nx < 6) (hn : num ≤ 6) (hpl : pl nx = none) : AM G sX2_save 7 93 [.ref h, .ref (pa 0)] (wP G pa P ++ wH G h a pl nx num) (fun v w => v = none ∧ ∃ qa : Nat → Nat, w = (wP G pa P ++ wH G h a (va_up pl nx (some (qa 0))) ((nx + 1) % 6) (min (num + 1) 6)) ++ wP G qa (PV0.cpy P)) := by
  refine AM.of (σ := sX2_save) (by decide +kernel) (by decide +kernel) (Nat.le_of_ble_eq_true rfl) (fun B hB hR hE0 hN => ?_)
  have hE := BE.of hE0
  refine a_aload_n hB dX2_save_0 rfl ?_
  refine a_get (T := TX2) (ci := 2) hB dX2_save_1 1 fl_X2_17 lay_X2 rfl (by decide) rfl 7 rfl rfl ?_
  refine a_if_ltN_f (tgt := 19) hB dX2_save_4 (by decide) (by omega) ?_
  refine a_aload_n hB dX2_save_7 rfl ?_
  refine a_get (T := TX2) (ci := 2) hB dX2_save_8 1 fl_X2_17 lay_X2 rfl (by decide) rfl 7 rfl rfl ?_
  refine a_aload_n hB dX2_save_11 rfl ?_
  refine a_get (T := TX2) (ci := 2) hB dX2_save_12 0 fl_X2_11 lay_X2 rfl (by decide) rfl 7 rfl rfl ?_
  refine a_alen (v := nI 6) hB dX2_save_15 8 3 rfl rfl rfl ?_
  refine a_icmp_ltN_t (tgt := 20) hB dX2_save_16 (by decide) (by omega) (by omega) (by omega) ?_
  refine a_aload_n hB dX2_save_20 rfl ?_
  refine a_get (T := TX2) (ci := 2) hB dX2_save_21 0 fl_X2_11 lay_X2 rfl (by decide) rfl 7 rfl rfl ?_
  refine a_aload_n hB dX2_save_24 rfl ?_
  refine a_get (T := TX2) (ci := 2) hB dX2_save_25 1 fl_X2_17 lay_X2 rfl (by decide) rfl 7 rfl rfl ?_
  refine a_aaloadS hB dX2_save_28 8 rfl (by omega) (by decide) hpl ?_
  refine a_astore_nN hB dX2_save_29 (by decide) ?_
  refine a_aload_nN hB dX2_save_30 rfl ?_
  refine a_ifnonnullN hB dX2_save_31 ?_
  refine a_new (T := TX4) (ci := 4) (fs := [.null, .null, .null, .int 0, .int 0, .int 0]) hB dX2_save_34 cl_X2_9 lay_X4 tyX4 tyX4_ok is_X4 in_X4 rfl (fun j hj => by rcases (show j = 0 ∨ j = 1 ∨ j = 2 ∨ j = 3 ∨ j = 4 ∨ j = 5 by omega) with rfl | rfl | rfl | rfl | rfl | rfl <;> rfl) (roomc hR (Nat.le_of_ble_eq_true rfl)) (rooms hR (Nat.le_of_ble_eq_true rfl)) (fun q9 => ?_)
  refine a_dup hB dX2_save_37 rfl ?_
  refine a_callIN hB (c_X4_init) rfl mk_X4_init (by decide +kernel) dX2_save_38 rfl rfl [9] rfl (by decide) (fit_of hR (by decide)) (Nat.le_of_ble_eq_true rfl) (fun v38 w38 hq38 hk38 => ?_)
  obtain ⟨rfl, qa, hqa, rfl⟩ := hq38
  rw [← hqa]
  refine aW_w (ws' := wP G pa P ++ (wH G h a pl nx num ++ wP G qa PV0)) rfl ?_
  refine a_astore_n hB dX2_save_41 (by decide) ?_
  refine a_aload_n hB dX2_save_42 rfl ?_
  refine a_get (T := TX2) (ci := 2) hB dX2_save_43 0 fl_X2_11 lay_X2 rfl (by decide) rfl 7 rfl rfl ?_
  refine a_aload_n hB dX2_save_46 rfl ?_
  refine a_get (T := TX2) (ci := 2) hB dX2_save_47 1 fl_X2_17 lay_X2 rfl (by decide) rfl 7 rfl rfl ?_
  refine a_aload_n hB dX2_save_50 rfl ?_
  refine a_aastoreN hB dX2_save_51 8 9 rfl rfl (by omega) (by decide) ?_
  refine a_aload_n hB dX2_save_52 rfl ?_
  refine a_aload_n hB dX2_save_53 rfl ?_
  refine a_callVd (w2 := wP G pa P ++ (wH G h a (va_up pl nx (some (qa 0))) nx num ++ wP G qa (PV0.cpy P))) (q0 := 9) hB (c_X4_copyFrom2 (pa := pa) (qa := qa) (P := P) (O := PV0)) mk_X4_copyFrom ml_X2_25 dX2_save_54 rfl rfl [0, 1, 2, 3, 4, 5, 6, 9, 10, 11, 12, 13, 14, 15] rfl (by decide) rfl rfl (fit_of hR (by decide)) (Nat.le_of_ble_eq_true rfl) (wput_two (wa := wP G pa P) (wb := wH G h a (va_up pl nx (some (qa 0))) nx num) (wc := wP G qa PV0) (wd := wP G qa (PV0.cpy P)) rfl rfl ⟨rfl, rfl⟩ rfl) ?_
  refine a_aload_n hB dX2_save_57 rfl ?_
  refine a_aload_n hB dX2_save_58 rfl ?_
  refine a_get (T := TX2) (ci := 2) hB dX2_save_59 1 fl_X2_17 lay_X2 rfl (by decide) rfl 7 rfl rfl ?_
  refine a_iconstN (v := 1) hB dX2_save_62 (by decide) ?_
  refine a_iaddN hB dX2_save_63 ?_
  refine a_bipushN (v := 6) hB dX2_save_64 (by decide) ?_
  refine a_iremN hB dX2_save_66 (by omega) (by omega) (by omega) ?_
  refine a_put (T := TX2) (ci := 2) hB dX2_save_67 1 fl_X2_17 lay_X2 tyX2 tyX2_ok nmX2 rfl (by decide) rfl rfl 7 rfl rfl rfl rfl (Nat.le_of_ble_eq_true rfl) ?_
  refine a_aload_n hB dX2_save_70 rfl ?_
  refine a_aload_n hB dX2_save_71 rfl ?_
  refine a_get (T := TX2) (ci := 2) hB dX2_save_72 2 fl_X2_21 lay_X2 rfl (by decide) rfl 7 rfl rfl ?_
  refine a_iconstN (v := 1) hB dX2_save_75 (by decide) ?_
  refine a_iaddN hB dX2_save_76 ?_
  refine a_bipushN (v := 6) hB dX2_save_77 (by decide) ?_
  refine a_minN hB ml_X2_29 dX2_save_79 (by omega) (by omega) (roomF hR (Nat.le_of_ble_eq_true rfl)) (room13 hR (Nat.le_of_ble_eq_true rfl)) (roomc hR (Nat.le_of_ble_eq_true rfl)) (rooms hR (Nat.le_of_ble_eq_true rfl)) ?_
  refine a_put (T := TX2) (ci := 2) hB dX2_save_82 2 fl_X2_21 lay_X2 tyX2 tyX2_ok nmX2 rfl (by decide) rfl rfl 7 rfl rfl rfl rfl (Nat.le_of_ble_eq_true rfl) ?_
  exact a_vret hB hE rfl dX2_save_85 (Nat.le_of_ble_eq_true rfl) (Nat.le_of_ble_eq_true rfl) (AKeep.of rfl) ⟨rfl, qa, rfl⟩
set_option maxHeartbeats 4000000 in
set_option maxRecDepth 100000 in
theorem c_X2_saveO {G : GP} {h a nx num : Nat} {pl : Nat → Option Nat} {pa qa : Nat → Nat} {P O : PV} (hx : nx < 6) (hn : num ≤ 6) (hpl : pl nx = some (qa 0)) : AMd G sX2_save [.ref h, .ref (pa 0)] (wP G pa P ++ (wH G h a pl nx num ++ wP G qa O)) none (wP G pa P ++ (wH G h a pl ((nx + 1) % 6) (min (num + 1) 6) ++ wP G qa (O.cpy P))) := by
  refine AM.of (σ := sX2_save) (by decide +kernel) (by decide +kernel) (Nat.le_of_ble_eq_true rfl) (fun B hB hR hE0 hN => ?_)
  have hE := BE.of hE0
  refine a_aload_n hB dX2_save_0 rfl ?_
  refine a_get (T := TX2) (ci := 2) hB dX2_save_1 1 fl_X2_17 lay_X2 rfl (by decide) rfl 7 rfl rfl ?_
  refine a_if_ltN_f (tgt := 19) hB dX2_save_4 (by decide) (by omega) ?_
  refine a_aload_n hB dX2_save_7 rfl ?_
  refine a_get (T := TX2) (ci := 2) hB dX2_save_8 1 fl_X2_17 lay_X2 rfl (by decide) rfl 7 rfl rfl ?_
  refine a_aload_n hB dX2_save_11 rfl ?_
  refine a_get (T := TX2) (ci := 2) hB dX2_save_12 0 fl_X2_11 lay_X2 rfl (by decide) rfl 7 rfl rfl ?_
  refine a_alen (v := nI 6) hB dX2_save_15 8 3 rfl rfl rfl ?_
  refine a_icmp_ltN_t (tgt := 20) hB dX2_save_16 (by decide) (by omega) (by omega) (by omega) ?_
  refine a_aload_n hB dX2_save_20 rfl ?_
  refine a_get (T := TX2) (ci := 2) hB dX2_save_21 0 fl_X2_11 lay_X2 rfl (by decide) rfl 7 rfl rfl ?_
  refine a_aload_n hB dX2_save_24 rfl ?_
  refine a_get (T := TX2) (ci := 2) hB dX2_save_25 1 fl_X2_17 lay_X2 rfl (by decide) rfl 7 rfl rfl ?_
  refine a_aaloadS hB dX2_save_28 8 rfl (by omega) (by decide) hpl ?_
  refine a_astore_n hB dX2_save_29 (by decide) ?_
  refine a_aload_n hB dX2_save_30 rfl ?_
  refine a_ifnonnull (tgt := 52) hB dX2_save_31 (by decide) ?_
  refine a_aload_n hB dX2_save_52 rfl ?_
  refine a_aload_n hB dX2_save_53 rfl ?_
  refine a_callVd (w2 := wP G pa P ++ (wH G h a pl nx num ++ wP G qa (O.cpy P))) (q0 := 9) hB (c_X4_copyFrom2 (pa := pa) (qa := qa) (P := P) (O := O)) mk_X4_copyFrom ml_X2_25 dX2_save_54 rfl rfl [0, 1, 2, 3, 4, 5, 6, 9, 10, 11, 12, 13, 14, 15] rfl (by decide) rfl rfl (fit_of hR (by decide)) (Nat.le_of_ble_eq_true rfl) (wput_two (wa := wP G pa P) (wb := wH G h a pl nx num) (wc := wP G qa O) (wd := wP G qa (O.cpy P)) rfl rfl ⟨rfl, rfl⟩ rfl) ?_
  refine a_aload_n hB dX2_save_57 rfl ?_
  refine a_aload_n hB dX2_save_58 rfl ?_
  refine a_get (T := TX2) (ci := 2) hB dX2_save_59 1 fl_X2_17 lay_X2 rfl (by decide) rfl 7 rfl rfl ?_
  refine a_iconstN (v := 1) hB dX2_save_62 (by decide) ?_
  refine a_iaddN hB dX2_save_63 ?_
  refine a_bipushN (v := 6) hB dX2_save_64 (by decide) ?_
  refine a_iremN hB dX2_save_66 (by omega) (by omega) (by omega) ?_
  refine a_put (T := TX2) (ci := 2) hB dX2_save_67 1 fl_X2_17 lay_X2 tyX2 tyX2_ok nmX2 rfl (by decide) rfl rfl 7 rfl rfl rfl rfl (Nat.le_of_ble_eq_true rfl) ?_
  refine a_aload_n hB dX2_save_70 rfl ?_
  refine a_aload_n hB dX2_save_71 rfl ?_
  refine a_get (T := TX2) (ci := 2) hB dX2_save_72 2 fl_X2_21 lay_X2 rfl (by decide) rfl 7 rfl rfl ?_
  refine a_iconstN (v := 1) hB dX2_save_75 (by decide) ?_
  refine a_iaddN hB dX2_save_76 ?_
  refine a_bipushN (v := 6) hB dX2_save_77 (by decide) ?_
  refine a_minN hB ml_X2_29 dX2_save_79 (by omega) (by omega) (roomF hR (Nat.le_of_ble_eq_true rfl)) (room13 hR (Nat.le_of_ble_eq_true rfl)) (roomc hR (Nat.le_of_ble_eq_true rfl)) (rooms hR (Nat.le_of_ble_eq_true rfl)) ?_
  refine a_put (T := TX2) (ci := 2) hB dX2_save_82 2 fl_X2_21 lay_X2 tyX2 tyX2_ok nmX2 rfl (by decide) rfl rfl 7 rfl rfl rfl rfl (Nat.le_of_ble_eq_true rfl) ?_
  exact a_vret hB hE rfl dX2_save_85 (Nat.le_of_ble_eq_true rfl) (Nat.le_of_ble_eq_true rfl) (AKeep.of rfl) ⟨rfl, rfl⟩
