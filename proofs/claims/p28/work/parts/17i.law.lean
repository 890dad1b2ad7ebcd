/-- where the law's loop stands: at turn i, with what it keeps -/
def LAt (G : GP) (B : Bd) (na wa ua la : Nat) (xa pa : Nat → Nat) (i k n : Nat) : Prop := ∀ (qs : Nat → Nat → Nat) (mk : Nat) (P : PV) (num : Nat) (nn ww uu ll : Nat → Nat) (wC : va_W), KW G xa pa qs mk P num wC → LI P num nn ww uu ll → P.sv.num ≤ 64 * i → aW G sL_law B 41 [(0, .ref G.sb), (1, .ref (xa 0)), (2, .ref na), (3, .ref wa), (4, .ref ua), (5, .ref la), (6, .int (nI i))] [] (w4 G na wa ua la nn ww uu ll ++ wC) k n
set_option maxHeartbeats 20000000 in
set_option maxRecDepth 100000 in
theorem lw_agree {G : GP} {B : Bd} {na wa ua la : Nat} {xa pa : Nat → Nat} {qs : Nat → Nat → Nat} {mk : Nat} {P : PV} {num : Nat} {nn ww uu ll : Nat → Nat} {wC : va_W} {y : Int32} (hB : Bok G sL_law B) (hR : B.room sL_law 600130 7301080) (hLn : G.sn ≤ 260) {i k n : Nat} (hk : k ≤ 600000) (hn : n ≤ 7300000) (hK : KW G xa pa qs mk P num wC) (h : LI P num nn ww uu ll) (hs : P.sv.num ≤ 64 * (i + 1)) (kont : LAt G B na wa ua la xa pa (i + 1) k n) : aW G sL_law B 118 [(0, .ref G.sb), (1, .ref (xa 0)), (2, .ref na), (3, .ref wa), (4, .ref ua), (5, .ref la), (6, .int (nI i)), (8, .int y)] [] (w4 G na wa ua la nn ww uu ll ++ wC) k n := by
  refine a_aload_n hB dL_law_118 rfl ?_
  refine a_iload hB dL_law_119 rfl ?_
  refine a_aload_n hB dL_law_121 rfl ?_
  refine a_aload_n hB dL_law_122 rfl ?_
  refine a_aload hB dL_law_123 rfl ?_
  refine a_aload hB dL_law_125 rfl ?_
  refine a_callSq hB (c_L_agree hK h) mk_L_agree ml_L_92 dL_law_127 rfl rfl (fit_of hR ⟨by decide, by decide, by omega, by omega⟩) (Nat.le_of_ble_eq_true rfl) (fun v127 w127 hq127 => ?_)
  obtain ⟨rfl, qs127, mk127, wD127, rfl, he127, hK127⟩ := hq127
  refine a_if_neN_t (tgt := 135) hB dL_law_130 (by decide) (by omega) (by omega) ?_
  refine a_iincN (b := 1) hB dL_law_135 rfl (by decide) (by decide) ?_
  refine a_goto (tgt := 41) hB dL_law_138 (by decide) ?_
  exact aW_at [0, 1, 2, 3, 4, 5, 6] rfl rfl rfl (kont _ _ _ _ _ _ _ _ _ hK127 h (by omega))
set_option maxHeartbeats 20000000 in
set_option maxRecDepth 100000 in
theorem lw_turn {G : GP} {B : Bd} {na wa ua la : Nat} {xa pa : Nat → Nat} (hB : Bok G sL_law B) (hR : B.room sL_law 600130 7301080) (hLn : G.sn ≤ 260) {i k n : Nat} (hi : i < 60) (hk : k + 8 ≤ 600000) (hn : n + 96 ≤ 7300000) (kont : LAt G B na wa ua la xa pa (i + 1) (k + 8) (n + 96)) {qs : Nat → Nat → Nat} {mk : Nat} {P : PV} {num : Nat} {nn ww uu ll : Nat → Nat} {wC : va_W} (hK : KW G xa pa qs mk P num wC) (h : LI P num nn ww uu ll) (hs : P.sv.num ≤ 64 * i) : aW G sL_law B 48 [(0, .ref G.sb), (1, .ref (xa 0)), (2, .ref na), (3, .ref wa), (4, .ref ua), (5, .ref la), (6, .int (nI i))] [] (w4 G na wa ua la nn ww uu ll ++ wC) k n := by
  refine a_aload_n hB dL_law_48 rfl ?_
  refine a_iconstN (v := 2) hB dL_law_49 (by decide) ?_
  refine a_iload hB dL_law_50 rfl ?_
  refine a_imulN hB dL_law_52 ?_
  refine a_callS hB (c_L_cell (by omega) (by omega)) mk_L_cell ml_L_82 dL_law_53 rfl rfl [] rfl (by decide) (fit_of hR ⟨by decide, by decide, by omega, by omega⟩) (Nat.le_of_ble_eq_true rfl) (fun v53 w53 hq53 hk53 => ?_)
  obtain ⟨⟨x53, rfl⟩, rfl⟩ := hq53
  refine aW_w (wput_e _) ?_
  refine a_istore hB dL_law_56 (by decide) ?_
  refine a_aload_n hB dL_law_58 rfl ?_
  refine a_iconstN (v := 2) hB dL_law_59 (by decide) ?_
  refine a_iload hB dL_law_60 rfl ?_
  refine a_imulN hB dL_law_62 ?_
  refine a_iconstN (v := 1) hB dL_law_63 (by decide) ?_
  refine a_iaddN hB dL_law_64 ?_
  refine a_callS hB (c_L_cell (by omega) (by omega)) mk_L_cell ml_L_82 dL_law_65 rfl rfl [] rfl (by decide) (fit_of hR ⟨by decide, by decide, by omega, by omega⟩) (Nat.le_of_ble_eq_true rfl) (fun v65 w65 hq65 hk65 => ?_)
  obtain ⟨⟨x65, rfl⟩, rfl⟩ := hq65
  refine aW_w (wput_e _) ?_
  refine a_istore hB dL_law_68 (by decide) ?_
  refine a_iload hB dL_law_70 rfl ?_
  refine a_bipushN (v := 20) hB dL_law_72 (by decide) ?_
  refine a_ishr hB dL_law_74 ?_
  refine a_bipushN (v := 10) hB dL_law_75 (by decide) ?_
  refine a_callS hB (c_L_at (by omega) (by omega)) mk_L_at ml_L_20 dL_law_77 rfl rfl [] rfl (by decide) (fit_of hR ⟨by decide, by decide, by omega, by omega⟩) (Nat.le_of_ble_eq_true rfl) (fun v77 w77 hq77 hk77 => ?_)
  obtain ⟨⟨r77, hr77, rfl⟩, rfl⟩ := hq77
  refine aW_w (wput_e _) ?_
  refine a_iconstN (v := 4) hB dL_law_80 (by decide) ?_
  refine a_icmp_geN (tgt := 102) hB dL_law_81 (by decide) (by omega) (by omega) (fun c81 => ?_) (fun c81 => ?_)
  · refine a_aload_n hB dL_law_102 rfl ?_
    refine a_iload hB dL_law_103 rfl ?_
    refine a_iload hB dL_law_105 rfl ?_
    refine a_aload_n hB dL_law_107 rfl ?_
    refine a_aload hB dL_law_108 rfl ?_
    refine a_aload hB dL_law_110 rfl ?_
    refine a_callSq hB (c_L_samples hK h (by omega)) mk_L_samples ml_L_89 dL_law_112 rfl rfl (fit_of hR ⟨by decide, by decide, by omega, by omega⟩) (Nat.le_of_ble_eq_true rfl) (fun v112 w112 hq112 => ?_)
    obtain ⟨rfl, qs112, mk112, P112, num112, nn112, ww112, uu112, ll112, wD112, rfl, he112, hK112, h112, hs112⟩ := hq112
    refine a_if_eqN_f (tgt := 133) hB dL_law_115 (by decide) (by omega) (by omega) ?_
    exact aW_at [0, 1, 2, 3, 4, 5, 6, 8] rfl rfl rfl (lw_agree hB hR hLn (by omega) (by omega) hK112 h112 (by omega) kont)
  · refine a_aload_n hB dL_law_84 rfl ?_
    refine a_iload hB dL_law_85 rfl ?_
    refine a_iload hB dL_law_87 rfl ?_
    refine a_aload_n hB dL_law_89 rfl ?_
    refine a_aload_n hB dL_law_90 rfl ?_
    refine a_aload hB dL_law_91 rfl ?_
    refine a_callSq hB (c_L_parts hK h) mk_L_parts ml_L_85 dL_law_93 rfl rfl (fit_of hR ⟨by decide, by decide, by omega, by omega⟩) (Nat.le_of_ble_eq_true rfl) (fun v93 w93 hq93 => ?_)
    obtain ⟨rfl, qs93, mk93, P93, num93, nn93, ww93, uu93, ll93, wD93, rfl, he93, hK93, h93, hs93⟩ := hq93
    refine a_if_eqN_f (tgt := 133) hB dL_law_96 (by decide) (by omega) (by omega) ?_
    refine a_goto (tgt := 118) hB dL_law_99 (by decide) ?_
    exact aW_at [0, 1, 2, 3, 4, 5, 6, 8] rfl rfl rfl (lw_agree hB hR hLn (by omega) (by omega) hK93 h93 (by omega) kont)
set_option maxHeartbeats 20000000 in
set_option maxRecDepth 100000 in
theorem lw_loop {G : GP} {B : Bd} {na wa ua la : Nat} {xa pa : Nat → Nat} (hB : Bok G sL_law B) (hR : B.room sL_law 600130 7301080) (hLn : G.sn ≤ 260) (kend : ∀ (L : List (Nat × Value)) (ws : va_W) (k n : Nat), k ≤ 600130 → n ≤ 7301080 → aW G sL_law B 141 L [] ws k n) : ∀ j i, i + j = 60 → LAt G B na wa ua la xa pa i (100 + 8 * i) (1000 + 96 * i) := by
  intro j
  induction j with
  | zero =>
    intro i hi qs mk P num nn ww uu ll wC hK h hs
    refine a_iload hB dL_law_41 rfl ?_
    refine a_bipushN (v := 60) hB dL_law_43 (by decide) ?_
    refine a_icmp_geN_t (tgt := 141) hB dL_law_45 (by decide) (by omega) (by omega) (by omega) ?_
    exact kend _ _ _ _ (by omega) (by omega)
  | succ j ih =>
    intro i hi qs mk P num nn ww uu ll wC hK h hs
    refine a_iload hB dL_law_41 rfl ?_
    refine a_bipushN (v := 60) hB dL_law_43 (by decide) ?_
    refine a_icmp_geN_f (tgt := 141) hB dL_law_45 (by decide) (by omega) (by omega) (by omega) ?_
    have hn := ih (i + 1) (by omega)
    rw [show 100 + 8 * (i + 1) = 100 + 8 * i + 8 by omega, show 1000 + 96 * (i + 1) = 1000 + 96 * i + 96 by omega] at hn
    exact lw_turn hB hR hLn (by omega) (by omega) (by omega) hn hK h hs
