/-! THE LAW'S CASES, the rest -/
set_option maxHeartbeats 4000000 in
set_option maxRecDepth 100000 in
theorem lc_part {G : GP} {B : Bd} {b Ln : Nat} {xs : Nat → Int32} (hX : LCtx G B b Ln xs) {x0 m0 oa od i k n : Nat} (hi : i + 4 ≤ Ln) (hk : k + 20 ≤ 601024) (hn : n + 200 ≤ 7293034) (kk : LAt G B b x0 m0 oa od i 1504 (k + 20) (n + 200)) : LAt G B b x0 m0 oa od i 839 k n := by
  intro th wC wN fo fd hW
  obtain ⟨hB, hR, hXs, hbl, hbA, hLn, hF⟩ := hX
  obtain ⟨kq, bq, W, V, mc, ms, CQ, MQ, hk4, hmc, hms, hp, hA, hMm, ⟨fsm, hx0⟩, hf⟩ := st_part hF hW (oa := oa) (xs (i + 1)) (xs (i + 2))
  refine a_aload_n hB dL_law_839 rfl ?_
  refine a_aload_n hB dL_law_840 rfl ?_
  refine a_iload hB dL_law_841 rfl ?_
  refine a_iconstN (v := 1) hB dL_law_843 (by decide) ?_
  refine a_iaddN hB dL_law_844 ?_
  refine a_sld hB hXs hbl hbA (by omega) hLn dL_law_845 ?_
  refine a_aload_n hB dL_law_846 rfl ?_
  refine a_iload hB dL_law_847 rfl ?_
  refine a_iconstN (v := 2) hB dL_law_849 (by decide) ?_
  refine a_iaddN hB dL_law_850 ?_
  refine a_sld hB hXs hbl hbA (by omega) hLn dL_law_851 ?_
  refine a_aload_n hB dL_law_852 rfl ?_
  refine a_callSHp hB (hA fo) mk_L_part ml_L_136 dL_law_853 rfl rfl (pm_o hp) (fit_of hR ⟨by decide, by decide, by omega, by omega⟩) (Nat.le_of_ble_eq_true rfl) (fun v9 w8 hq => ?_)
  obtain ⟨rfl, fp, w9, rfl, hfp, hcq⟩ := hq
  refine aW_perm pm_o' ?_
  refine a_istore hB dL_law_856 (by decide) ?_
  refine a_aload_n hB dL_law_858 rfl ?_
  refine a_aload_n hB dL_law_859 rfl ?_
  refine a_iload hB dL_law_860 rfl ?_
  refine a_iconstN (v := 1) hB dL_law_862 (by decide) ?_
  refine a_iaddN hB dL_law_863 ?_
  refine a_sld hB hXs hbl hbA (by omega) hLn dL_law_864 ?_
  refine a_aload_n hB dL_law_865 rfl ?_
  refine a_iload hB dL_law_866 rfl ?_
  refine a_iconstN (v := 2) hB dL_law_868 (by decide) ?_
  refine a_iaddN hB dL_law_869 ?_
  refine a_sld hB hXs hbl hbA (by omega) hLn dL_law_870 ?_
  refine a_callVp (ci := 10) hB hMm mk_X10_part ml_L_139 dL_law_871 rfl rfl pm_m rfl hx0 (fit_of hR ⟨by decide, by decide, by omega, by omega⟩) (Nat.le_of_ble_eq_true rfl) (fun v9 w8 hq => ?_)
  obtain ⟨rfl, hmq⟩ := hq
  obtain ⟨wD, hpd, hLW⟩ := hf _ _ hcq hmq
  refine aW_perm (pm_m' hpd) ?_
  refine a_istore hB dL_law_874 (by decide) ?_
  refine a_aload_n hB dL_law_876 rfl ?_
  obtain ⟨fs2, hx2⟩ := hLW.x
  refine a_callVp (ci := 10) hB hLW.thrown mk_X10_thrown ml_L_89 dL_law_877 rfl rfl pm_m rfl hx2 (fit_of hR ⟨by decide, by decide, by omega, by omega⟩) (Nat.le_of_ble_eq_true rfl) (fun v9 w8 hq => ?_)
  obtain ⟨rfl, rfl⟩ := hq
  refine aW_perm (pm_m' (List.Perm.refl _)) ?_
  refine a_iload hB dL_law_880 rfl ?_
  refine a_icmp_eq_t (tgt := 887) hB dL_law_882 (by decide) rfl ?_
  refine a_iload hB dL_law_887 rfl ?_
  refine a_if_neN (tgt := 904) hB dL_law_889 (by decide) (by omega) (fun c9 => ?_) (fun c9 => ?_)
  · refine a_goto (tgt := 1504) hB dL_law_904 (by decide) ?_
    exact aW_widen (by omega) (by omega) (aW_at [0, 1, 2, 3, 4, 5] rfl rfl rfl (kk _ _ _ _ _ hLW))
  · refine a_aload_n hB dL_law_892 rfl ?_
    refine a_iconstN (v := 0) hB dL_law_893 (by decide) ?_
    refine a_laload0 hB dL_law_894 0 rfl (hfp c9) ?_
    refine a_iload hB dL_law_895 rfl ?_
    refine a_i2l hB dL_law_897 ?_
    refine a_lcmp hB dL_law_898 ?_
    refine a_if_eq_t (tgt := 904) hB dL_law_899 (by decide) (lg_self _) ?_
    refine a_goto (tgt := 1504) hB dL_law_904 (by decide) ?_
    exact aW_widen (by omega) (by omega) (aW_at [0, 1, 2, 3, 4, 5] rfl rfl rfl (kk _ _ _ _ _ hLW))
set_option maxHeartbeats 4000000 in
set_option maxRecDepth 100000 in
theorem lc_weight_0 {G : GP} {B : Bd} {b Ln : Nat} {xs : Nat → Int32} (hX : LCtx G B b Ln xs) {x0 m0 oa od i k n : Nat} (hi : i + 4 ≤ Ln) (hfl : xs (i + 3) = 0) (hk : k + 20 ≤ 601024) (hn : n + 200 ≤ 7293034) (kk : LAt G B b x0 m0 oa od i 1504 (k + 20) (n + 200)) : LAt G B b x0 m0 oa od i 907 k n := by
  intro th wC wN fo fd hW
  obtain ⟨hB, hR, hXs, hbl, hbA, hLn, hF⟩ := hX
  obtain ⟨kq, bq, W, V, mc, ms, CQ, MQ, hk4, hmc, hms, hp, hA, hMm, ⟨fsm, hx0⟩, hf⟩ := st_weight hF hW (oa := oa) (xs (i + 1)) (xs (i + 2)) (b9 := 0) (by decide)
  refine a_aload_n hB dL_law_907 rfl ?_
  refine a_aload_n hB dL_law_908 rfl ?_
  refine a_iload hB dL_law_909 rfl ?_
  refine a_iconstN (v := 1) hB dL_law_911 (by decide) ?_
  refine a_iaddN hB dL_law_912 ?_
  refine a_sld hB hXs hbl hbA (by omega) hLn dL_law_913 ?_
  refine a_aload_n hB dL_law_914 rfl ?_
  refine a_iload hB dL_law_915 rfl ?_
  refine a_iconstN (v := 2) hB dL_law_917 (by decide) ?_
  refine a_iaddN hB dL_law_918 ?_
  refine a_sld hB hXs hbl hbA (by omega) hLn dL_law_919 ?_
  refine a_aload_n hB dL_law_920 rfl ?_
  refine a_iload hB dL_law_921 rfl ?_
  refine a_iconstN (v := 3) hB dL_law_923 (by decide) ?_
  refine a_iaddN hB dL_law_924 ?_
  refine a_sld hB hXs hbl hbA (by omega) hLn dL_law_925 ?_
  refine a_if_eq_t (tgt := 933) hB dL_law_926 (by decide) hfl ?_
  refine a_iconstN (v := 0) hB dL_law_933 (by decide) ?_
  refine a_aload_n hB dL_law_934 rfl ?_
  refine a_callSHp hB (hA fo) mk_L_weight ml_L_140 dL_law_935 rfl rfl (pm_o hp) (fit_of hR ⟨by decide, by decide, by omega, by omega⟩) (Nat.le_of_ble_eq_true rfl) (fun v9 w8 hq => ?_)
  obtain ⟨rfl, fp, w9, rfl, hfp, hcq⟩ := hq
  refine aW_perm pm_o' ?_
  refine a_istore hB dL_law_938 (by decide) ?_
  refine a_aload_n hB dL_law_940 rfl ?_
  refine a_aload_n hB dL_law_941 rfl ?_
  refine a_iload hB dL_law_942 rfl ?_
  refine a_iconstN (v := 1) hB dL_law_944 (by decide) ?_
  refine a_iaddN hB dL_law_945 ?_
  refine a_sld hB hXs hbl hbA (by omega) hLn dL_law_946 ?_
  refine a_aload_n hB dL_law_947 rfl ?_
  refine a_iload hB dL_law_948 rfl ?_
  refine a_iconstN (v := 2) hB dL_law_950 (by decide) ?_
  refine a_iaddN hB dL_law_951 ?_
  refine a_sld hB hXs hbl hbA (by omega) hLn dL_law_952 ?_
  refine a_aload_n hB dL_law_953 rfl ?_
  refine a_iload hB dL_law_954 rfl ?_
  refine a_iconstN (v := 3) hB dL_law_956 (by decide) ?_
  refine a_iaddN hB dL_law_957 ?_
  refine a_sld hB hXs hbl hbA (by omega) hLn dL_law_958 ?_
  refine a_if_eq_t (tgt := 966) hB dL_law_959 (by decide) hfl ?_
  refine a_iconstN (v := 0) hB dL_law_966 (by decide) ?_
  refine a_callVp (ci := 10) hB hMm mk_X10_weight ml_L_143 dL_law_967 rfl rfl pm_m rfl hx0 (fit_of hR ⟨by decide, by decide, by omega, by omega⟩) (Nat.le_of_ble_eq_true rfl) (fun v9 w8 hq => ?_)
  obtain ⟨rfl, hmq⟩ := hq
  obtain ⟨wD, hpd, hLW⟩ := hf _ _ hcq hmq
  refine aW_perm (pm_m' hpd) ?_
  refine a_istore hB dL_law_970 (by decide) ?_
  refine a_aload_n hB dL_law_972 rfl ?_
  obtain ⟨fs2, hx2⟩ := hLW.x
  refine a_callVp (ci := 10) hB hLW.thrown mk_X10_thrown ml_L_89 dL_law_973 rfl rfl pm_m rfl hx2 (fit_of hR ⟨by decide, by decide, by omega, by omega⟩) (Nat.le_of_ble_eq_true rfl) (fun v9 w8 hq => ?_)
  obtain ⟨rfl, rfl⟩ := hq
  refine aW_perm (pm_m' (List.Perm.refl _)) ?_
  refine a_iload hB dL_law_976 rfl ?_
  refine a_icmp_eq_t (tgt := 983) hB dL_law_978 (by decide) rfl ?_
  refine a_iload hB dL_law_983 rfl ?_
  refine a_if_neN (tgt := 1000) hB dL_law_985 (by decide) (by omega) (fun c9 => ?_) (fun c9 => ?_)
  · refine a_goto (tgt := 1504) hB dL_law_1000 (by decide) ?_
    exact aW_widen (by omega) (by omega) (aW_at [0, 1, 2, 3, 4, 5] rfl rfl rfl (kk _ _ _ _ _ hLW))
  · refine a_aload_n hB dL_law_988 rfl ?_
    refine a_iconstN (v := 0) hB dL_law_989 (by decide) ?_
    refine a_laload0 hB dL_law_990 0 rfl (hfp c9) ?_
    refine a_iload hB dL_law_991 rfl ?_
    refine a_i2l hB dL_law_993 ?_
    refine a_lcmp hB dL_law_994 ?_
    refine a_if_eq_t (tgt := 1000) hB dL_law_995 (by decide) (lg_self _) ?_
    refine a_goto (tgt := 1504) hB dL_law_1000 (by decide) ?_
    exact aW_widen (by omega) (by omega) (aW_at [0, 1, 2, 3, 4, 5] rfl rfl rfl (kk _ _ _ _ _ hLW))
set_option maxHeartbeats 4000000 in
set_option maxRecDepth 100000 in
theorem lc_weight_1 {G : GP} {B : Bd} {b Ln : Nat} {xs : Nat → Int32} (hX : LCtx G B b Ln xs) {x0 m0 oa od i k n : Nat} (hi : i + 4 ≤ Ln) (hfl : ¬ xs (i + 3) = 0) (hk : k + 20 ≤ 601024) (hn : n + 200 ≤ 7293034) (kk : LAt G B b x0 m0 oa od i 1504 (k + 20) (n + 200)) : LAt G B b x0 m0 oa od i 907 k n := by
  intro th wC wN fo fd hW
  obtain ⟨hB, hR, hXs, hbl, hbA, hLn, hF⟩ := hX
  obtain ⟨kq, bq, W, V, mc, ms, CQ, MQ, hk4, hmc, hms, hp, hA, hMm, ⟨fsm, hx0⟩, hf⟩ := st_weight hF hW (oa := oa) (xs (i + 1)) (xs (i + 2)) (b9 := 1) (by decide)
  refine a_aload_n hB dL_law_907 rfl ?_
  refine a_aload_n hB dL_law_908 rfl ?_
  refine a_iload hB dL_law_909 rfl ?_
  refine a_iconstN (v := 1) hB dL_law_911 (by decide) ?_
  refine a_iaddN hB dL_law_912 ?_
  refine a_sld hB hXs hbl hbA (by omega) hLn dL_law_913 ?_
  refine a_aload_n hB dL_law_914 rfl ?_
  refine a_iload hB dL_law_915 rfl ?_
  refine a_iconstN (v := 2) hB dL_law_917 (by decide) ?_
  refine a_iaddN hB dL_law_918 ?_
  refine a_sld hB hXs hbl hbA (by omega) hLn dL_law_919 ?_
  refine a_aload_n hB dL_law_920 rfl ?_
  refine a_iload hB dL_law_921 rfl ?_
  refine a_iconstN (v := 3) hB dL_law_923 (by decide) ?_
  refine a_iaddN hB dL_law_924 ?_
  refine a_sld hB hXs hbl hbA (by omega) hLn dL_law_925 ?_
  refine a_if_eq_f (tgt := 933) hB dL_law_926 (by decide) hfl ?_
  refine a_iconstN (v := 1) hB dL_law_929 (by decide) ?_
  refine a_goto (tgt := 934) hB dL_law_930 (by decide) ?_
  refine a_aload_n hB dL_law_934 rfl ?_
  refine a_callSHp hB (hA fo) mk_L_weight ml_L_140 dL_law_935 rfl rfl (pm_o hp) (fit_of hR ⟨by decide, by decide, by omega, by omega⟩) (Nat.le_of_ble_eq_true rfl) (fun v9 w8 hq => ?_)
  obtain ⟨rfl, fp, w9, rfl, hfp, hcq⟩ := hq
  refine aW_perm pm_o' ?_
  refine a_istore hB dL_law_938 (by decide) ?_
  refine a_aload_n hB dL_law_940 rfl ?_
  refine a_aload_n hB dL_law_941 rfl ?_
  refine a_iload hB dL_law_942 rfl ?_
  refine a_iconstN (v := 1) hB dL_law_944 (by decide) ?_
  refine a_iaddN hB dL_law_945 ?_
  refine a_sld hB hXs hbl hbA (by omega) hLn dL_law_946 ?_
  refine a_aload_n hB dL_law_947 rfl ?_
  refine a_iload hB dL_law_948 rfl ?_
  refine a_iconstN (v := 2) hB dL_law_950 (by decide) ?_
  refine a_iaddN hB dL_law_951 ?_
  refine a_sld hB hXs hbl hbA (by omega) hLn dL_law_952 ?_
  refine a_aload_n hB dL_law_953 rfl ?_
  refine a_iload hB dL_law_954 rfl ?_
  refine a_iconstN (v := 3) hB dL_law_956 (by decide) ?_
  refine a_iaddN hB dL_law_957 ?_
  refine a_sld hB hXs hbl hbA (by omega) hLn dL_law_958 ?_
  refine a_if_eq_f (tgt := 966) hB dL_law_959 (by decide) hfl ?_
  refine a_iconstN (v := 1) hB dL_law_962 (by decide) ?_
  refine a_goto (tgt := 967) hB dL_law_963 (by decide) ?_
  refine a_callVp (ci := 10) hB hMm mk_X10_weight ml_L_143 dL_law_967 rfl rfl pm_m rfl hx0 (fit_of hR ⟨by decide, by decide, by omega, by omega⟩) (Nat.le_of_ble_eq_true rfl) (fun v9 w8 hq => ?_)
  obtain ⟨rfl, hmq⟩ := hq
  obtain ⟨wD, hpd, hLW⟩ := hf _ _ hcq hmq
  refine aW_perm (pm_m' hpd) ?_
  refine a_istore hB dL_law_970 (by decide) ?_
  refine a_aload_n hB dL_law_972 rfl ?_
  obtain ⟨fs2, hx2⟩ := hLW.x
  refine a_callVp (ci := 10) hB hLW.thrown mk_X10_thrown ml_L_89 dL_law_973 rfl rfl pm_m rfl hx2 (fit_of hR ⟨by decide, by decide, by omega, by omega⟩) (Nat.le_of_ble_eq_true rfl) (fun v9 w8 hq => ?_)
  obtain ⟨rfl, rfl⟩ := hq
  refine aW_perm (pm_m' (List.Perm.refl _)) ?_
  refine a_iload hB dL_law_976 rfl ?_
  refine a_icmp_eq_t (tgt := 983) hB dL_law_978 (by decide) rfl ?_
  refine a_iload hB dL_law_983 rfl ?_
  refine a_if_neN (tgt := 1000) hB dL_law_985 (by decide) (by omega) (fun c9 => ?_) (fun c9 => ?_)
  · refine a_goto (tgt := 1504) hB dL_law_1000 (by decide) ?_
    exact aW_widen (by omega) (by omega) (aW_at [0, 1, 2, 3, 4, 5] rfl rfl rfl (kk _ _ _ _ _ hLW))
  · refine a_aload_n hB dL_law_988 rfl ?_
    refine a_iconstN (v := 0) hB dL_law_989 (by decide) ?_
    refine a_laload0 hB dL_law_990 0 rfl (hfp c9) ?_
    refine a_iload hB dL_law_991 rfl ?_
    refine a_i2l hB dL_law_993 ?_
    refine a_lcmp hB dL_law_994 ?_
    refine a_if_eq_t (tgt := 1000) hB dL_law_995 (by decide) (lg_self _) ?_
    refine a_goto (tgt := 1504) hB dL_law_1000 (by decide) ?_
    exact aW_widen (by omega) (by omega) (aW_at [0, 1, 2, 3, 4, 5] rfl rfl rfl (kk _ _ _ _ _ hLW))
set_option maxHeartbeats 4000000 in
set_option maxRecDepth 100000 in
theorem lc_ways_0 {G : GP} {B : Bd} {b Ln : Nat} {xs : Nat → Int32} (hX : LCtx G B b Ln xs) {x0 m0 oa od i k n : Nat} (hi : i + 4 ≤ Ln) (hfl : xs (i + 2) = 0) (hk : k + 20 ≤ 601024) (hn : n + 200 ≤ 7293034) (kk : LAt G B b x0 m0 oa od i 1504 (k + 20) (n + 200)) : LAt G B b x0 m0 oa od i 1003 k n := by
  intro th wC wN fo fd hW
  obtain ⟨hB, hR, hXs, hbl, hbA, hLn, hF⟩ := hX
  obtain ⟨kq, bq, W, V, mc, ms, CQ, MQ, hk4, hmc, hms, hp, hA, hMm, ⟨fsm, hx0⟩, hf⟩ := st_ways hF hW (oa := oa) (xs (i + 1)) (b9 := 0) (by decide)
  refine a_aload_n hB dL_law_1003 rfl ?_
  refine a_aload_n hB dL_law_1004 rfl ?_
  refine a_iload hB dL_law_1005 rfl ?_
  refine a_iconstN (v := 1) hB dL_law_1007 (by decide) ?_
  refine a_iaddN hB dL_law_1008 ?_
  refine a_sld hB hXs hbl hbA (by omega) hLn dL_law_1009 ?_
  refine a_aload_n hB dL_law_1010 rfl ?_
  refine a_iload hB dL_law_1011 rfl ?_
  refine a_iconstN (v := 2) hB dL_law_1013 (by decide) ?_
  refine a_iaddN hB dL_law_1014 ?_
  refine a_sld hB hXs hbl hbA (by omega) hLn dL_law_1015 ?_
  refine a_if_eq_t (tgt := 1023) hB dL_law_1016 (by decide) hfl ?_
  refine a_iconstN (v := 0) hB dL_law_1023 (by decide) ?_
  refine a_aload_n hB dL_law_1024 rfl ?_
  refine a_callSHp hB (hA fo) mk_L_ways ml_L_144 dL_law_1025 rfl rfl (pm_o hp) (fit_of hR ⟨by decide, by decide, by omega, by omega⟩) (Nat.le_of_ble_eq_true rfl) (fun v9 w8 hq => ?_)
  obtain ⟨rfl, fp, w9, rfl, hfp, hcq⟩ := hq
  refine aW_perm pm_o' ?_
  refine a_istore hB dL_law_1028 (by decide) ?_
  refine a_aload_n hB dL_law_1030 rfl ?_
  refine a_aload_n hB dL_law_1031 rfl ?_
  refine a_iload hB dL_law_1032 rfl ?_
  refine a_iconstN (v := 1) hB dL_law_1034 (by decide) ?_
  refine a_iaddN hB dL_law_1035 ?_
  refine a_sld hB hXs hbl hbA (by omega) hLn dL_law_1036 ?_
  refine a_aload_n hB dL_law_1037 rfl ?_
  refine a_iload hB dL_law_1038 rfl ?_
  refine a_iconstN (v := 2) hB dL_law_1040 (by decide) ?_
  refine a_iaddN hB dL_law_1041 ?_
  refine a_sld hB hXs hbl hbA (by omega) hLn dL_law_1042 ?_
  refine a_if_eq_t (tgt := 1050) hB dL_law_1043 (by decide) hfl ?_
  refine a_iconstN (v := 0) hB dL_law_1050 (by decide) ?_
  refine a_callVp (ci := 10) hB hMm mk_X10_ways ml_L_147 dL_law_1051 rfl rfl pm_m rfl hx0 (fit_of hR ⟨by decide, by decide, by omega, by omega⟩) (Nat.le_of_ble_eq_true rfl) (fun v9 w8 hq => ?_)
  obtain ⟨rfl, hmq⟩ := hq
  obtain ⟨wD, hpd, hLW⟩ := hf _ _ hcq hmq
  refine aW_perm (pm_m' hpd) ?_
  refine a_lstore hB dL_law_1054 (by decide) ?_
  refine a_aload_n hB dL_law_1056 rfl ?_
  obtain ⟨fs2, hx2⟩ := hLW.x
  refine a_callVp (ci := 10) hB hLW.thrown mk_X10_thrown ml_L_89 dL_law_1057 rfl rfl pm_m rfl hx2 (fit_of hR ⟨by decide, by decide, by omega, by omega⟩) (Nat.le_of_ble_eq_true rfl) (fun v9 w8 hq => ?_)
  obtain ⟨rfl, rfl⟩ := hq
  refine aW_perm (pm_m' (List.Perm.refl _)) ?_
  refine a_iload hB dL_law_1060 rfl ?_
  refine a_icmp_eq_t (tgt := 1067) hB dL_law_1062 (by decide) rfl ?_
  refine a_iload hB dL_law_1067 rfl ?_
  refine a_if_neN (tgt := 1083) hB dL_law_1069 (by decide) (by omega) (fun c9 => ?_) (fun c9 => ?_)
  · refine a_goto (tgt := 1504) hB dL_law_1083 (by decide) ?_
    exact aW_widen (by omega) (by omega) (aW_at [0, 1, 2, 3, 4, 5] rfl rfl rfl (kk _ _ _ _ _ hLW))
  · refine a_aload_n hB dL_law_1072 rfl ?_
    refine a_iconstN (v := 0) hB dL_law_1073 (by decide) ?_
    refine a_laload0 hB dL_law_1074 0 rfl (hfp c9) ?_
    refine a_lload hB dL_law_1075 rfl ?_
    refine a_lcmp hB dL_law_1077 ?_
    refine a_if_eq_t (tgt := 1083) hB dL_law_1078 (by decide) (lg_self _) ?_
    refine a_goto (tgt := 1504) hB dL_law_1083 (by decide) ?_
    exact aW_widen (by omega) (by omega) (aW_at [0, 1, 2, 3, 4, 5] rfl rfl rfl (kk _ _ _ _ _ hLW))
set_option maxHeartbeats 4000000 in
set_option maxRecDepth 100000 in
theorem lc_ways_1 {G : GP} {B : Bd} {b Ln : Nat} {xs : Nat → Int32} (hX : LCtx G B b Ln xs) {x0 m0 oa od i k n : Nat} (hi : i + 4 ≤ Ln) (hfl : ¬ xs (i + 2) = 0) (hk : k + 20 ≤ 601024) (hn : n + 200 ≤ 7293034) (kk : LAt G B b x0 m0 oa od i 1504 (k + 20) (n + 200)) : LAt G B b x0 m0 oa od i 1003 k n := by
  intro th wC wN fo fd hW
  obtain ⟨hB, hR, hXs, hbl, hbA, hLn, hF⟩ := hX
  obtain ⟨kq, bq, W, V, mc, ms, CQ, MQ, hk4, hmc, hms, hp, hA, hMm, ⟨fsm, hx0⟩, hf⟩ := st_ways hF hW (oa := oa) (xs (i + 1)) (b9 := 1) (by decide)
  refine a_aload_n hB dL_law_1003 rfl ?_
  refine a_aload_n hB dL_law_1004 rfl ?_
  refine a_iload hB dL_law_1005 rfl ?_
  refine a_iconstN (v := 1) hB dL_law_1007 (by decide) ?_
  refine a_iaddN hB dL_law_1008 ?_
  refine a_sld hB hXs hbl hbA (by omega) hLn dL_law_1009 ?_
  refine a_aload_n hB dL_law_1010 rfl ?_
  refine a_iload hB dL_law_1011 rfl ?_
  refine a_iconstN (v := 2) hB dL_law_1013 (by decide) ?_
  refine a_iaddN hB dL_law_1014 ?_
  refine a_sld hB hXs hbl hbA (by omega) hLn dL_law_1015 ?_
  refine a_if_eq_f (tgt := 1023) hB dL_law_1016 (by decide) hfl ?_
  refine a_iconstN (v := 1) hB dL_law_1019 (by decide) ?_
  refine a_goto (tgt := 1024) hB dL_law_1020 (by decide) ?_
  refine a_aload_n hB dL_law_1024 rfl ?_
  refine a_callSHp hB (hA fo) mk_L_ways ml_L_144 dL_law_1025 rfl rfl (pm_o hp) (fit_of hR ⟨by decide, by decide, by omega, by omega⟩) (Nat.le_of_ble_eq_true rfl) (fun v9 w8 hq => ?_)
  obtain ⟨rfl, fp, w9, rfl, hfp, hcq⟩ := hq
  refine aW_perm pm_o' ?_
  refine a_istore hB dL_law_1028 (by decide) ?_
  refine a_aload_n hB dL_law_1030 rfl ?_
  refine a_aload_n hB dL_law_1031 rfl ?_
  refine a_iload hB dL_law_1032 rfl ?_
  refine a_iconstN (v := 1) hB dL_law_1034 (by decide) ?_
  refine a_iaddN hB dL_law_1035 ?_
  refine a_sld hB hXs hbl hbA (by omega) hLn dL_law_1036 ?_
  refine a_aload_n hB dL_law_1037 rfl ?_
  refine a_iload hB dL_law_1038 rfl ?_
  refine a_iconstN (v := 2) hB dL_law_1040 (by decide) ?_
  refine a_iaddN hB dL_law_1041 ?_
  refine a_sld hB hXs hbl hbA (by omega) hLn dL_law_1042 ?_
  refine a_if_eq_f (tgt := 1050) hB dL_law_1043 (by decide) hfl ?_
  refine a_iconstN (v := 1) hB dL_law_1046 (by decide) ?_
  refine a_goto (tgt := 1051) hB dL_law_1047 (by decide) ?_
  refine a_callVp (ci := 10) hB hMm mk_X10_ways ml_L_147 dL_law_1051 rfl rfl pm_m rfl hx0 (fit_of hR ⟨by decide, by decide, by omega, by omega⟩) (Nat.le_of_ble_eq_true rfl) (fun v9 w8 hq => ?_)
  obtain ⟨rfl, hmq⟩ := hq
  obtain ⟨wD, hpd, hLW⟩ := hf _ _ hcq hmq
  refine aW_perm (pm_m' hpd) ?_
  refine a_lstore hB dL_law_1054 (by decide) ?_
  refine a_aload_n hB dL_law_1056 rfl ?_
  obtain ⟨fs2, hx2⟩ := hLW.x
  refine a_callVp (ci := 10) hB hLW.thrown mk_X10_thrown ml_L_89 dL_law_1057 rfl rfl pm_m rfl hx2 (fit_of hR ⟨by decide, by decide, by omega, by omega⟩) (Nat.le_of_ble_eq_true rfl) (fun v9 w8 hq => ?_)
  obtain ⟨rfl, rfl⟩ := hq
  refine aW_perm (pm_m' (List.Perm.refl _)) ?_
  refine a_iload hB dL_law_1060 rfl ?_
  refine a_icmp_eq_t (tgt := 1067) hB dL_law_1062 (by decide) rfl ?_
  refine a_iload hB dL_law_1067 rfl ?_
  refine a_if_neN (tgt := 1083) hB dL_law_1069 (by decide) (by omega) (fun c9 => ?_) (fun c9 => ?_)
  · refine a_goto (tgt := 1504) hB dL_law_1083 (by decide) ?_
    exact aW_widen (by omega) (by omega) (aW_at [0, 1, 2, 3, 4, 5] rfl rfl rfl (kk _ _ _ _ _ hLW))
  · refine a_aload_n hB dL_law_1072 rfl ?_
    refine a_iconstN (v := 0) hB dL_law_1073 (by decide) ?_
    refine a_laload0 hB dL_law_1074 0 rfl (hfp c9) ?_
    refine a_lload hB dL_law_1075 rfl ?_
    refine a_lcmp hB dL_law_1077 ?_
    refine a_if_eq_t (tgt := 1083) hB dL_law_1078 (by decide) (lg_self _) ?_
    refine a_goto (tgt := 1504) hB dL_law_1083 (by decide) ?_
    exact aW_widen (by omega) (by omega) (aW_at [0, 1, 2, 3, 4, 5] rfl rfl rfl (kk _ _ _ _ _ hLW))
set_option maxHeartbeats 4000000 in
set_option maxRecDepth 100000 in
theorem lc_likeliest {G : GP} {B : Bd} {b Ln : Nat} {xs : Nat → Int32} (hX : LCtx G B b Ln xs) {x0 m0 oa od i k n : Nat} (hi : i + 4 ≤ Ln) (hk : k + 20 ≤ 601024) (hn : n + 200 ≤ 7293034) (kk : LAt G B b x0 m0 oa od i 1504 (k + 20) (n + 200)) : LAt G B b x0 m0 oa od i 1086 k n := by
  intro th wC wN fo fd hW
  obtain ⟨hB, hR, hXs, hbl, hbA, hLn, hF⟩ := hX
  obtain ⟨kq, bq, W, V, mc, ms, CQ, MQ, hk4, hmc, hms, hp, hA, hMm, ⟨fsm, hx0⟩, hf⟩ := st_likeliest hF hW (oa := oa) (xs (i + 1))
  refine a_aload_n hB dL_law_1086 rfl ?_
  refine a_aload_n hB dL_law_1087 rfl ?_
  refine a_iload hB dL_law_1088 rfl ?_
  refine a_iconstN (v := 1) hB dL_law_1090 (by decide) ?_
  refine a_iaddN hB dL_law_1091 ?_
  refine a_sld hB hXs hbl hbA (by omega) hLn dL_law_1092 ?_
  refine a_aload_n hB dL_law_1093 rfl ?_
  refine a_callSHp hB (hA fo) mk_L_likeliest ml_L_148 dL_law_1094 rfl rfl (pm_o hp) (fit_of hR ⟨by decide, by decide, by omega, by omega⟩) (Nat.le_of_ble_eq_true rfl) (fun v9 w8 hq => ?_)
  obtain ⟨rfl, fp, w9, rfl, hfp, hcq⟩ := hq
  refine aW_perm pm_o' ?_
  refine a_istore hB dL_law_1097 (by decide) ?_
  refine a_aload_n hB dL_law_1099 rfl ?_
  refine a_aload_n hB dL_law_1100 rfl ?_
  refine a_iload hB dL_law_1101 rfl ?_
  refine a_iconstN (v := 1) hB dL_law_1103 (by decide) ?_
  refine a_iaddN hB dL_law_1104 ?_
  refine a_sld hB hXs hbl hbA (by omega) hLn dL_law_1105 ?_
  refine a_callVp (ci := 10) hB hMm mk_X10_likeliest ml_L_150 dL_law_1106 rfl rfl pm_m rfl hx0 (fit_of hR ⟨by decide, by decide, by omega, by omega⟩) (Nat.le_of_ble_eq_true rfl) (fun v9 w8 hq => ?_)
  obtain ⟨rfl, hmq⟩ := hq
  obtain ⟨wD, hpd, hLW⟩ := hf _ _ hcq hmq
  refine aW_perm (pm_m' hpd) ?_
  refine a_istore hB dL_law_1109 (by decide) ?_
  refine a_aload_n hB dL_law_1111 rfl ?_
  obtain ⟨fs2, hx2⟩ := hLW.x
  refine a_callVp (ci := 10) hB hLW.thrown mk_X10_thrown ml_L_89 dL_law_1112 rfl rfl pm_m rfl hx2 (fit_of hR ⟨by decide, by decide, by omega, by omega⟩) (Nat.le_of_ble_eq_true rfl) (fun v9 w8 hq => ?_)
  obtain ⟨rfl, rfl⟩ := hq
  refine aW_perm (pm_m' (List.Perm.refl _)) ?_
  refine a_iload hB dL_law_1115 rfl ?_
  refine a_icmp_eq_t (tgt := 1122) hB dL_law_1117 (by decide) rfl ?_
  refine a_iload hB dL_law_1122 rfl ?_
  refine a_if_neN (tgt := 1139) hB dL_law_1124 (by decide) (by omega) (fun c9 => ?_) (fun c9 => ?_)
  · refine a_goto (tgt := 1504) hB dL_law_1139 (by decide) ?_
    exact aW_widen (by omega) (by omega) (aW_at [0, 1, 2, 3, 4, 5] rfl rfl rfl (kk _ _ _ _ _ hLW))
  · refine a_aload_n hB dL_law_1127 rfl ?_
    refine a_iconstN (v := 0) hB dL_law_1128 (by decide) ?_
    refine a_laload0 hB dL_law_1129 0 rfl (hfp c9) ?_
    refine a_iload hB dL_law_1130 rfl ?_
    refine a_i2l hB dL_law_1132 ?_
    refine a_lcmp hB dL_law_1133 ?_
    refine a_if_eq_t (tgt := 1139) hB dL_law_1134 (by decide) (lg_self _) ?_
    refine a_goto (tgt := 1504) hB dL_law_1139 (by decide) ?_
    exact aW_widen (by omega) (by omega) (aW_at [0, 1, 2, 3, 4, 5] rfl rfl rfl (kk _ _ _ _ _ hLW))
set_option maxHeartbeats 4000000 in
set_option maxRecDepth 100000 in
theorem lc_count {G : GP} {B : Bd} {b Ln : Nat} {xs : Nat → Int32} (hX : LCtx G B b Ln xs) {x0 m0 oa od i k n : Nat} (hi : i + 4 ≤ Ln) (hk : k + 20 ≤ 601024) (hn : n + 200 ≤ 7293034) (kk : LAt G B b x0 m0 oa od i 1504 (k + 20) (n + 200)) : LAt G B b x0 m0 oa od i 1142 k n := by
  intro th wC wN fo fd hW
  obtain ⟨hB, hR, hXs, hbl, hbA, hLn, hF⟩ := hX
  obtain ⟨kq, bq, W, V, mc, ms, CQ, MQ, hk4, hmc, hms, hp, hA, hMm, ⟨fsm, hx0⟩, hf⟩ := st_count hF hW (oa := oa) (xs (i + 1))
  refine a_aload_n hB dL_law_1142 rfl ?_
  refine a_aload_n hB dL_law_1143 rfl ?_
  refine a_iload hB dL_law_1144 rfl ?_
  refine a_iconstN (v := 1) hB dL_law_1146 (by decide) ?_
  refine a_iaddN hB dL_law_1147 ?_
  refine a_sld hB hXs hbl hbA (by omega) hLn dL_law_1148 ?_
  refine a_aload_n hB dL_law_1149 rfl ?_
  refine a_callSHp hB (hA fo) mk_L_count ml_L_151 dL_law_1150 rfl rfl (pm_o hp) (fit_of hR ⟨by decide, by decide, by omega, by omega⟩) (Nat.le_of_ble_eq_true rfl) (fun v9 w8 hq => ?_)
  obtain ⟨rfl, fp, w9, rfl, hfp, hcq⟩ := hq
  refine aW_perm pm_o' ?_
  refine a_istore hB dL_law_1153 (by decide) ?_
  refine a_aload_n hB dL_law_1155 rfl ?_
  refine a_aload_n hB dL_law_1156 rfl ?_
  refine a_iload hB dL_law_1157 rfl ?_
  refine a_iconstN (v := 1) hB dL_law_1159 (by decide) ?_
  refine a_iaddN hB dL_law_1160 ?_
  refine a_sld hB hXs hbl hbA (by omega) hLn dL_law_1161 ?_
  refine a_callVp (ci := 10) hB hMm mk_X10_count ml_L_153 dL_law_1162 rfl rfl pm_m rfl hx0 (fit_of hR ⟨by decide, by decide, by omega, by omega⟩) (Nat.le_of_ble_eq_true rfl) (fun v9 w8 hq => ?_)
  obtain ⟨rfl, hmq⟩ := hq
  obtain ⟨wD, hpd, hLW⟩ := hf _ _ hcq hmq
  refine aW_perm (pm_m' hpd) ?_
  refine a_istore hB dL_law_1165 (by decide) ?_
  refine a_aload_n hB dL_law_1167 rfl ?_
  obtain ⟨fs2, hx2⟩ := hLW.x
  refine a_callVp (ci := 10) hB hLW.thrown mk_X10_thrown ml_L_89 dL_law_1168 rfl rfl pm_m rfl hx2 (fit_of hR ⟨by decide, by decide, by omega, by omega⟩) (Nat.le_of_ble_eq_true rfl) (fun v9 w8 hq => ?_)
  obtain ⟨rfl, rfl⟩ := hq
  refine aW_perm (pm_m' (List.Perm.refl _)) ?_
  refine a_iload hB dL_law_1171 rfl ?_
  refine a_icmp_eq_t (tgt := 1178) hB dL_law_1173 (by decide) rfl ?_
  refine a_iload hB dL_law_1178 rfl ?_
  refine a_if_neN (tgt := 1195) hB dL_law_1180 (by decide) (by omega) (fun c9 => ?_) (fun c9 => ?_)
  · refine a_goto (tgt := 1504) hB dL_law_1195 (by decide) ?_
    exact aW_widen (by omega) (by omega) (aW_at [0, 1, 2, 3, 4, 5] rfl rfl rfl (kk _ _ _ _ _ hLW))
  · refine a_aload_n hB dL_law_1183 rfl ?_
    refine a_iconstN (v := 0) hB dL_law_1184 (by decide) ?_
    refine a_laload0 hB dL_law_1185 0 rfl (hfp c9) ?_
    refine a_iload hB dL_law_1186 rfl ?_
    refine a_i2l hB dL_law_1188 ?_
    refine a_lcmp hB dL_law_1189 ?_
    refine a_if_eq_t (tgt := 1195) hB dL_law_1190 (by decide) (lg_self _) ?_
    refine a_goto (tgt := 1504) hB dL_law_1195 (by decide) ?_
    exact aW_widen (by omega) (by omega) (aW_at [0, 1, 2, 3, 4, 5] rfl rfl rfl (kk _ _ _ _ _ hLW))
set_option maxHeartbeats 4000000 in
set_option maxRecDepth 100000 in
theorem lc_measure {G : GP} {B : Bd} {b Ln : Nat} {xs : Nat → Int32} (hX : LCtx G B b Ln xs) {x0 m0 oa od i k n : Nat} (hi : i + 4 ≤ Ln) (hk : k + 20 ≤ 601024) (hn : n + 200 ≤ 7293034) (kk : LAt G B b x0 m0 oa od i 1504 (k + 20) (n + 200)) : LAt G B b x0 m0 oa od i 1198 k n := by
  intro th wC wN fo fd hW
  obtain ⟨hB, hR, hXs, hbl, hbA, hLn, hF⟩ := hX
  obtain ⟨kq, bq, W, V, mc, ms, CQ, MQ, hk4, hmc, hms, hp, hA, hMm, ⟨fsm, hx0⟩, hf⟩ := st_measure hF hW (oa := od) (xs (i + 1))
  refine a_aload_n hB dL_law_1198 rfl ?_
  refine a_aload_n hB dL_law_1199 rfl ?_
  refine a_iload hB dL_law_1200 rfl ?_
  refine a_iconstN (v := 1) hB dL_law_1202 (by decide) ?_
  refine a_iaddN hB dL_law_1203 ?_
  refine a_sld hB hXs hbl hbA (by omega) hLn dL_law_1204 ?_
  refine a_aload hB dL_law_1205 rfl ?_
  refine a_callSHp hB (hA fd) mk_L_measure ml_L_154 dL_law_1207 rfl rfl (pm_d hp) (fit_of hR ⟨by decide, by decide, by omega, by omega⟩) (Nat.le_of_ble_eq_true rfl) (fun v9 w8 hq => ?_)
  obtain ⟨rfl, fp, w9, rfl, hfp, hcq⟩ := hq
  refine aW_perm pm_d' ?_
  refine a_istore hB dL_law_1210 (by decide) ?_
  refine a_aload_n hB dL_law_1212 rfl ?_
  refine a_aload_n hB dL_law_1213 rfl ?_
  refine a_iload hB dL_law_1214 rfl ?_
  refine a_iconstN (v := 1) hB dL_law_1216 (by decide) ?_
  refine a_iaddN hB dL_law_1217 ?_
  refine a_sld hB hXs hbl hbA (by omega) hLn dL_law_1218 ?_
  refine a_callVp (ci := 10) hB hMm mk_X10_measure ml_L_157 dL_law_1219 rfl rfl pm_m rfl hx0 (fit_of hR ⟨by decide, by decide, by omega, by omega⟩) (Nat.le_of_ble_eq_true rfl) (fun v9 w8 hq => ?_)
  obtain ⟨rfl, hmq⟩ := hq
  obtain ⟨wD, hpd, hLW⟩ := hf _ _ hcq hmq
  refine aW_perm (pm_m' hpd) ?_
  refine a_dstore hB dL_law_1222 (by decide) ?_
  refine a_aload_n hB dL_law_1224 rfl ?_
  obtain ⟨fs2, hx2⟩ := hLW.x
  refine a_callVp (ci := 10) hB hLW.thrown mk_X10_thrown ml_L_89 dL_law_1225 rfl rfl pm_m rfl hx2 (fit_of hR ⟨by decide, by decide, by omega, by omega⟩) (Nat.le_of_ble_eq_true rfl) (fun v9 w8 hq => ?_)
  obtain ⟨rfl, rfl⟩ := hq
  refine aW_perm (pm_m' (List.Perm.refl _)) ?_
  refine a_iload hB dL_law_1228 rfl ?_
  refine a_icmp_eq_t (tgt := 1235) hB dL_law_1230 (by decide) rfl ?_
  refine a_iload hB dL_law_1235 rfl ?_
  refine a_if_neN (tgt := 1272) hB dL_law_1237 (by decide) (by omega) (fun c9 => ?_) (fun c9 => ?_)
  · refine a_goto (tgt := 1504) hB dL_law_1272 (by decide) ?_
    exact aW_widen (by omega) (by omega) (aW_at [0, 1, 2, 3, 4, 5] rfl rfl rfl (kk _ _ _ _ _ hLW))
  · refine a_aload hB dL_law_1240 rfl ?_
    refine a_iconstN (v := 0) hB dL_law_1242 (by decide) ?_
    refine a_daload0 hB dL_law_1243 1 rfl (hfp c9) ?_
    refine a_dload hB dL_law_1244 rfl ?_
    refine a_dcmp hB dL_law_1246 ?_
    refine a_if_eq (tgt := 1272) hB dL_law_1247 (by decide) (fun c8 => ?_) (fun c8 => ?_)
    · refine a_goto (tgt := 1504) hB dL_law_1272 (by decide) ?_
      exact aW_widen (by omega) (by omega) (aW_at [0, 1, 2, 3, 4, 5] rfl rfl rfl (kk _ _ _ _ _ hLW))
    · refine a_aload hB dL_law_1250 rfl ?_
      refine a_iconstN (v := 0) hB dL_law_1252 (by decide) ?_
      refine a_daload0 hB dL_law_1253 1 rfl (hfp c9) ?_
      refine a_aload hB dL_law_1254 rfl ?_
      refine a_iconstN (v := 0) hB dL_law_1256 (by decide) ?_
      refine a_daload0 hB dL_law_1257 1 rfl (hfp c9) ?_
      refine a_dcmp hB dL_law_1258 ?_
      refine a_if_eq_f (tgt := 1270) hB dL_law_1259 (by decide) c8 ?_
      refine a_dload hB dL_law_1262 rfl ?_
      refine a_dload hB dL_law_1264 rfl ?_
      refine a_dcmp hB dL_law_1266 ?_
      refine a_if_ne_t (tgt := 1272) hB dL_law_1267 (by decide) c8 ?_
      refine a_goto (tgt := 1504) hB dL_law_1272 (by decide) ?_
      exact aW_widen (by omega) (by omega) (aW_at [0, 1, 2, 3, 4, 5] rfl rfl rfl (kk _ _ _ _ _ hLW))
set_option maxHeartbeats 4000000 in
set_option maxRecDepth 100000 in
theorem lc_ifLimit {G : GP} {B : Bd} {b Ln : Nat} {xs : Nat → Int32} (hX : LCtx G B b Ln xs) {x0 m0 oa od i k n : Nat} (hi : i + 4 ≤ Ln) (hk : k + 20 ≤ 601024) (hn : n + 200 ≤ 7293034) (kk : LAt G B b x0 m0 oa od i 1504 (k + 20) (n + 200)) : LAt G B b x0 m0 oa od i 1275 k n := by
  intro th wC wN fo fd hW
  obtain ⟨hB, hR, hXs, hbl, hbA, hLn, hF⟩ := hX
  obtain ⟨kq, bq, W, V, mc, ms, CQ, MQ, hk4, hmc, hms, hp, hA, hMm, ⟨fsm, hx0⟩, hf⟩ := st_ifLimit hF hW (oa := od) (xs (i + 1))
  refine a_aload_n hB dL_law_1275 rfl ?_
  refine a_aload_n hB dL_law_1276 rfl ?_
  refine a_iload hB dL_law_1277 rfl ?_
  refine a_iconstN (v := 1) hB dL_law_1279 (by decide) ?_
  refine a_iaddN hB dL_law_1280 ?_
  refine a_sld hB hXs hbl hbA (by omega) hLn dL_law_1281 ?_
  refine a_aload hB dL_law_1282 rfl ?_
  refine a_callSHp hB (hA fd) mk_L_ifLimit ml_L_158 dL_law_1284 rfl rfl (pm_d hp) (fit_of hR ⟨by decide, by decide, by omega, by omega⟩) (Nat.le_of_ble_eq_true rfl) (fun v9 w8 hq => ?_)
  obtain ⟨rfl, fp, w9, rfl, hfp, hcq⟩ := hq
  refine aW_perm pm_d' ?_
  refine a_istore hB dL_law_1287 (by decide) ?_
  refine a_aload_n hB dL_law_1289 rfl ?_
  refine a_aload_n hB dL_law_1290 rfl ?_
  refine a_iload hB dL_law_1291 rfl ?_
  refine a_iconstN (v := 1) hB dL_law_1293 (by decide) ?_
  refine a_iaddN hB dL_law_1294 ?_
  refine a_sld hB hXs hbl hbA (by omega) hLn dL_law_1295 ?_
  refine a_callVp (ci := 10) hB hMm mk_X10_ifLimit ml_L_160 dL_law_1296 rfl rfl pm_m rfl hx0 (fit_of hR ⟨by decide, by decide, by omega, by omega⟩) (Nat.le_of_ble_eq_true rfl) (fun v9 w8 hq => ?_)
  obtain ⟨rfl, hmq⟩ := hq
  obtain ⟨wD, hpd, hLW⟩ := hf _ _ hcq hmq
  refine aW_perm (pm_m' hpd) ?_
  refine a_dstore hB dL_law_1299 (by decide) ?_
  refine a_aload_n hB dL_law_1301 rfl ?_
  obtain ⟨fs2, hx2⟩ := hLW.x
  refine a_callVp (ci := 10) hB hLW.thrown mk_X10_thrown ml_L_89 dL_law_1302 rfl rfl pm_m rfl hx2 (fit_of hR ⟨by decide, by decide, by omega, by omega⟩) (Nat.le_of_ble_eq_true rfl) (fun v9 w8 hq => ?_)
  obtain ⟨rfl, rfl⟩ := hq
  refine aW_perm (pm_m' (List.Perm.refl _)) ?_
  refine a_iload hB dL_law_1305 rfl ?_
  refine a_icmp_eq_t (tgt := 1312) hB dL_law_1307 (by decide) rfl ?_
  refine a_iload hB dL_law_1312 rfl ?_
  refine a_if_neN (tgt := 1349) hB dL_law_1314 (by decide) (by omega) (fun c9 => ?_) (fun c9 => ?_)
  · refine a_goto (tgt := 1504) hB dL_law_1349 (by decide) ?_
    exact aW_widen (by omega) (by omega) (aW_at [0, 1, 2, 3, 4, 5] rfl rfl rfl (kk _ _ _ _ _ hLW))
  · refine a_aload hB dL_law_1317 rfl ?_
    refine a_iconstN (v := 0) hB dL_law_1319 (by decide) ?_
    refine a_daload0 hB dL_law_1320 1 rfl (hfp c9) ?_
    refine a_dload hB dL_law_1321 rfl ?_
    refine a_dcmp hB dL_law_1323 ?_
    refine a_if_eq (tgt := 1349) hB dL_law_1324 (by decide) (fun c8 => ?_) (fun c8 => ?_)
    · refine a_goto (tgt := 1504) hB dL_law_1349 (by decide) ?_
      exact aW_widen (by omega) (by omega) (aW_at [0, 1, 2, 3, 4, 5] rfl rfl rfl (kk _ _ _ _ _ hLW))
    · refine a_aload hB dL_law_1327 rfl ?_
      refine a_iconstN (v := 0) hB dL_law_1329 (by decide) ?_
      refine a_daload0 hB dL_law_1330 1 rfl (hfp c9) ?_
      refine a_aload hB dL_law_1331 rfl ?_
      refine a_iconstN (v := 0) hB dL_law_1333 (by decide) ?_
      refine a_daload0 hB dL_law_1334 1 rfl (hfp c9) ?_
      refine a_dcmp hB dL_law_1335 ?_
      refine a_if_eq_f (tgt := 1347) hB dL_law_1336 (by decide) c8 ?_
      refine a_dload hB dL_law_1339 rfl ?_
      refine a_dload hB dL_law_1341 rfl ?_
      refine a_dcmp hB dL_law_1343 ?_
      refine a_if_ne_t (tgt := 1349) hB dL_law_1344 (by decide) c8 ?_
      refine a_goto (tgt := 1504) hB dL_law_1349 (by decide) ?_
      exact aW_widen (by omega) (by omega) (aW_at [0, 1, 2, 3, 4, 5] rfl rfl rfl (kk _ _ _ _ _ hLW))
set_option maxHeartbeats 4000000 in
set_option maxRecDepth 100000 in
theorem lc_limitFor {G : GP} {B : Bd} {b Ln : Nat} {xs : Nat → Int32} (hX : LCtx G B b Ln xs) {x0 m0 oa od i k n : Nat} (hi : i + 4 ≤ Ln) (hk : k + 20 ≤ 601024) (hn : n + 200 ≤ 7293034) (kk : LAt G B b x0 m0 oa od i 1504 (k + 20) (n + 200)) : LAt G B b x0 m0 oa od i 1352 k n := by
  intro th wC wN fo fd hW
  obtain ⟨hB, hR, hXs, hbl, hbA, hLn, hF⟩ := hX
  obtain ⟨kq, bq, W, V, mc, ms, CQ, MQ, hk4, hmc, hms, hp, hA, hMm, ⟨fsm, hx0⟩, hf⟩ := st_limitFor hF hW (oa := oa) (xs (i + 1))
  refine a_aload_n hB dL_law_1352 rfl ?_
  refine a_aload_n hB dL_law_1353 rfl ?_
  refine a_iload hB dL_law_1354 rfl ?_
  refine a_iconstN (v := 1) hB dL_law_1356 (by decide) ?_
  refine a_iaddN hB dL_law_1357 ?_
  refine a_sld hB hXs hbl hbA (by omega) hLn dL_law_1358 ?_
  refine a_aload_n hB dL_law_1359 rfl ?_
  refine a_callSHp hB (hA fo) mk_L_limitFor ml_L_161 dL_law_1360 rfl rfl (pm_o hp) (fit_of hR ⟨by decide, by decide, by omega, by omega⟩) (Nat.le_of_ble_eq_true rfl) (fun v9 w8 hq => ?_)
  obtain ⟨rfl, fp, w9, rfl, hfp, hcq⟩ := hq
  refine aW_perm pm_o' ?_
  refine a_istore hB dL_law_1363 (by decide) ?_
  refine a_aload_n hB dL_law_1365 rfl ?_
  refine a_aload_n hB dL_law_1366 rfl ?_
  refine a_iload hB dL_law_1367 rfl ?_
  refine a_iconstN (v := 1) hB dL_law_1369 (by decide) ?_
  refine a_iaddN hB dL_law_1370 ?_
  refine a_sld hB hXs hbl hbA (by omega) hLn dL_law_1371 ?_
  refine a_callVp (ci := 10) hB hMm mk_X10_limitFor ml_L_163 dL_law_1372 rfl rfl pm_m rfl hx0 (fit_of hR ⟨by decide, by decide, by omega, by omega⟩) (Nat.le_of_ble_eq_true rfl) (fun v9 w8 hq => ?_)
  obtain ⟨rfl, hmq⟩ := hq
  obtain ⟨wD, hpd, hLW⟩ := hf _ _ hcq hmq
  refine aW_perm (pm_m' hpd) ?_
  refine a_istore hB dL_law_1375 (by decide) ?_
  refine a_aload_n hB dL_law_1377 rfl ?_
  obtain ⟨fs2, hx2⟩ := hLW.x
  refine a_callVp (ci := 10) hB hLW.thrown mk_X10_thrown ml_L_89 dL_law_1378 rfl rfl pm_m rfl hx2 (fit_of hR ⟨by decide, by decide, by omega, by omega⟩) (Nat.le_of_ble_eq_true rfl) (fun v9 w8 hq => ?_)
  obtain ⟨rfl, rfl⟩ := hq
  refine aW_perm (pm_m' (List.Perm.refl _)) ?_
  refine a_iload hB dL_law_1381 rfl ?_
  refine a_icmp_eq_t (tgt := 1388) hB dL_law_1383 (by decide) rfl ?_
  refine a_iload hB dL_law_1388 rfl ?_
  refine a_if_neN (tgt := 1405) hB dL_law_1390 (by decide) (by omega) (fun c9 => ?_) (fun c9 => ?_)
  · refine a_goto (tgt := 1504) hB dL_law_1405 (by decide) ?_
    exact aW_widen (by omega) (by omega) (aW_at [0, 1, 2, 3, 4, 5] rfl rfl rfl (kk _ _ _ _ _ hLW))
  · refine a_aload_n hB dL_law_1393 rfl ?_
    refine a_iconstN (v := 0) hB dL_law_1394 (by decide) ?_
    refine a_laload0 hB dL_law_1395 0 rfl (hfp c9) ?_
    refine a_iload hB dL_law_1396 rfl ?_
    refine a_i2l hB dL_law_1398 ?_
    refine a_lcmp hB dL_law_1399 ?_
    refine a_if_eq_t (tgt := 1405) hB dL_law_1400 (by decide) (lg_self _) ?_
    refine a_goto (tgt := 1504) hB dL_law_1405 (by decide) ?_
    exact aW_widen (by omega) (by omega) (aW_at [0, 1, 2, 3, 4, 5] rfl rfl rfl (kk _ _ _ _ _ hLW))
set_option maxHeartbeats 4000000 in
set_option maxRecDepth 100000 in
theorem lc_greatest_0 {G : GP} {B : Bd} {b Ln : Nat} {xs : Nat → Int32} (hX : LCtx G B b Ln xs) {x0 m0 oa od i k n : Nat} (hi : i + 4 ≤ Ln) (hfl : xs (i + 1) = 0) (hk : k + 20 ≤ 601024) (hn : n + 200 ≤ 7293034) (kk : LAt G B b x0 m0 oa od i 1504 (k + 20) (n + 200)) : LAt G B b x0 m0 oa od i 1408 k n := by
  intro th wC wN fo fd hW
  obtain ⟨hB, hR, hXs, hbl, hbA, hLn, hF⟩ := hX
  obtain ⟨bv, W, V, mc, ms, CQ, MQ, ⟨bq, rfl⟩, hmc, hms, hp, ⟨fsw, hw0⟩, hA, hMm, ⟨fsm, hx0⟩, hf⟩ := st_greatest hW (b9 := 0) (by decide)
  refine a_aload_n hB dL_law_1408 rfl ?_
  refine a_aload_n hB dL_law_1409 rfl ?_
  refine a_iload hB dL_law_1410 rfl ?_
  refine a_iconstN (v := 1) hB dL_law_1412 (by decide) ?_
  refine a_iaddN hB dL_law_1413 ?_
  refine a_sld hB hXs hbl hbA (by omega) hLn dL_law_1414 ?_
  refine a_if_eq_t (tgt := 1422) hB dL_law_1415 (by decide) hfl ?_
  refine a_iconstN (v := 0) hB dL_law_1422 (by decide) ?_
  refine a_callVp (ci := 9) hB hA mk_X9_greatest ml_L_164 dL_law_1423 rfl rfl (pm_c hp) rfl hw0 (fit_of hR ⟨by decide, by decide, by omega, by omega⟩) (Nat.le_of_ble_eq_true rfl) (fun v9 w9 hq => ?_)
  obtain ⟨rfl, hcq⟩ := hq
  refine aW_perm pm_c' ?_
  refine a_dstore hB dL_law_1426 (by decide) ?_
  refine a_aload_n hB dL_law_1428 rfl ?_
  refine a_aload_n hB dL_law_1429 rfl ?_
  refine a_iload hB dL_law_1430 rfl ?_
  refine a_iconstN (v := 1) hB dL_law_1432 (by decide) ?_
  refine a_iaddN hB dL_law_1433 ?_
  refine a_sld hB hXs hbl hbA (by omega) hLn dL_law_1434 ?_
  refine a_if_eq_t (tgt := 1442) hB dL_law_1435 (by decide) hfl ?_
  refine a_iconstN (v := 0) hB dL_law_1442 (by decide) ?_
  refine a_callVp (ci := 10) hB hMm mk_X10_greatest ml_L_168 dL_law_1443 rfl rfl pm_m rfl hx0 (fit_of hR ⟨by decide, by decide, by omega, by omega⟩) (Nat.le_of_ble_eq_true rfl) (fun v9 w8 hq => ?_)
  obtain ⟨rfl, hmq⟩ := hq
  obtain ⟨wD, th9, hpd, hLW⟩ := hf _ _ hcq hmq
  refine aW_perm (pm_m' hpd) ?_
  refine a_dstore hB dL_law_1446 (by decide) ?_
  refine a_dload hB dL_law_1448 rfl ?_
  refine a_dload hB dL_law_1450 rfl ?_
  refine a_dcmp hB dL_law_1452 ?_
  refine a_if_eq (tgt := 1474) hB dL_law_1453 (by decide) (fun c8 => ?_) (fun c8 => ?_)
  · refine a_goto (tgt := 1504) hB dL_law_1474 (by decide) ?_
    exact aW_widen (by omega) (by omega) (aW_at [0, 1, 2, 3, 4, 5] rfl rfl rfl (kk _ _ _ _ _ hLW))
  · refine a_dload hB dL_law_1456 rfl ?_
    refine a_dload hB dL_law_1458 rfl ?_
    refine a_dcmp hB dL_law_1460 ?_
    refine a_if_eq_f (tgt := 1472) hB dL_law_1461 (by decide) c8 ?_
    refine a_dload hB dL_law_1464 rfl ?_
    refine a_dload hB dL_law_1466 rfl ?_
    refine a_dcmp hB dL_law_1468 ?_
    refine a_if_ne_t (tgt := 1474) hB dL_law_1469 (by decide) c8 ?_
    refine a_goto (tgt := 1504) hB dL_law_1474 (by decide) ?_
    exact aW_widen (by omega) (by omega) (aW_at [0, 1, 2, 3, 4, 5] rfl rfl rfl (kk _ _ _ _ _ hLW))
set_option maxHeartbeats 4000000 in
set_option maxRecDepth 100000 in
theorem lc_greatest_1 {G : GP} {B : Bd} {b Ln : Nat} {xs : Nat → Int32} (hX : LCtx G B b Ln xs) {x0 m0 oa od i k n : Nat} (hi : i + 4 ≤ Ln) (hfl : ¬ xs (i + 1) = 0) (hk : k + 20 ≤ 601024) (hn : n + 200 ≤ 7293034) (kk : LAt G B b x0 m0 oa od i 1504 (k + 20) (n + 200)) : LAt G B b x0 m0 oa od i 1408 k n := by
  intro th wC wN fo fd hW
  obtain ⟨hB, hR, hXs, hbl, hbA, hLn, hF⟩ := hX
  obtain ⟨bv, W, V, mc, ms, CQ, MQ, ⟨bq, rfl⟩, hmc, hms, hp, ⟨fsw, hw0⟩, hA, hMm, ⟨fsm, hx0⟩, hf⟩ := st_greatest hW (b9 := 1) (by decide)
  refine a_aload_n hB dL_law_1408 rfl ?_
  refine a_aload_n hB dL_law_1409 rfl ?_
  refine a_iload hB dL_law_1410 rfl ?_
  refine a_iconstN (v := 1) hB dL_law_1412 (by decide) ?_
  refine a_iaddN hB dL_law_1413 ?_
  refine a_sld hB hXs hbl hbA (by omega) hLn dL_law_1414 ?_
  refine a_if_eq_f (tgt := 1422) hB dL_law_1415 (by decide) hfl ?_
  refine a_iconstN (v := 1) hB dL_law_1418 (by decide) ?_
  refine a_goto (tgt := 1423) hB dL_law_1419 (by decide) ?_
  refine a_callVp (ci := 9) hB hA mk_X9_greatest ml_L_164 dL_law_1423 rfl rfl (pm_c hp) rfl hw0 (fit_of hR ⟨by decide, by decide, by omega, by omega⟩) (Nat.le_of_ble_eq_true rfl) (fun v9 w9 hq => ?_)
  obtain ⟨rfl, hcq⟩ := hq
  refine aW_perm pm_c' ?_
  refine a_dstore hB dL_law_1426 (by decide) ?_
  refine a_aload_n hB dL_law_1428 rfl ?_
  refine a_aload_n hB dL_law_1429 rfl ?_
  refine a_iload hB dL_law_1430 rfl ?_
  refine a_iconstN (v := 1) hB dL_law_1432 (by decide) ?_
  refine a_iaddN hB dL_law_1433 ?_
  refine a_sld hB hXs hbl hbA (by omega) hLn dL_law_1434 ?_
  refine a_if_eq_f (tgt := 1442) hB dL_law_1435 (by decide) hfl ?_
  refine a_iconstN (v := 1) hB dL_law_1438 (by decide) ?_
  refine a_goto (tgt := 1443) hB dL_law_1439 (by decide) ?_
  refine a_callVp (ci := 10) hB hMm mk_X10_greatest ml_L_168 dL_law_1443 rfl rfl pm_m rfl hx0 (fit_of hR ⟨by decide, by decide, by omega, by omega⟩) (Nat.le_of_ble_eq_true rfl) (fun v9 w8 hq => ?_)
  obtain ⟨rfl, hmq⟩ := hq
  obtain ⟨wD, th9, hpd, hLW⟩ := hf _ _ hcq hmq
  refine aW_perm (pm_m' hpd) ?_
  refine a_dstore hB dL_law_1446 (by decide) ?_
  refine a_dload hB dL_law_1448 rfl ?_
  refine a_dload hB dL_law_1450 rfl ?_
  refine a_dcmp hB dL_law_1452 ?_
  refine a_if_eq (tgt := 1474) hB dL_law_1453 (by decide) (fun c8 => ?_) (fun c8 => ?_)
  · refine a_goto (tgt := 1504) hB dL_law_1474 (by decide) ?_
    exact aW_widen (by omega) (by omega) (aW_at [0, 1, 2, 3, 4, 5] rfl rfl rfl (kk _ _ _ _ _ hLW))
  · refine a_dload hB dL_law_1456 rfl ?_
    refine a_dload hB dL_law_1458 rfl ?_
    refine a_dcmp hB dL_law_1460 ?_
    refine a_if_eq_f (tgt := 1472) hB dL_law_1461 (by decide) c8 ?_
    refine a_dload hB dL_law_1464 rfl ?_
    refine a_dload hB dL_law_1466 rfl ?_
    refine a_dcmp hB dL_law_1468 ?_
    refine a_if_ne_t (tgt := 1474) hB dL_law_1469 (by decide) c8 ?_
    refine a_goto (tgt := 1504) hB dL_law_1474 (by decide) ?_
    exact aW_widen (by omega) (by omega) (aW_at [0, 1, 2, 3, 4, 5] rfl rfl rfl (kk _ _ _ _ _ hLW))
set_option maxHeartbeats 4000000 in
set_option maxRecDepth 100000 in
theorem lc_slightest {G : GP} {B : Bd} {b Ln : Nat} {xs : Nat → Int32} (hX : LCtx G B b Ln xs) {x0 m0 oa od i k n : Nat} (hi : i + 4 ≤ Ln) (hk : k + 20 ≤ 601024) (hn : n + 200 ≤ 7293034) (kk : LAt G B b x0 m0 oa od i 1504 (k + 20) (n + 200)) : LAt G B b x0 m0 oa od i 1477 k n := by
  intro th wC wN fo fd hW
  obtain ⟨hB, hR, hXs, hbl, hbA, hLn, hF⟩ := hX
  obtain ⟨bv, W, V, mc, ms, CQ, MQ, ⟨bq, rfl⟩, hmc, hms, hp, ⟨fsw, hw0⟩, hA, hMm, ⟨fsm, hx0⟩, hf⟩ := st_slightest hW
  refine a_aload_n hB dL_law_1477 rfl ?_
  refine a_callVp (ci := 9) hB hA mk_X9_slightest ml_L_169 dL_law_1478 rfl rfl (pm_c hp) rfl hw0 (fit_of hR ⟨by decide, by decide, by omega, by omega⟩) (Nat.le_of_ble_eq_true rfl) (fun v9 w9 hq => ?_)
  obtain ⟨rfl, hcq⟩ := hq
  refine aW_perm pm_c' ?_
  refine a_aload_n hB dL_law_1481 rfl ?_
  refine a_callVp (ci := 10) hB hMm mk_X10_slightest ml_L_172 dL_law_1482 rfl rfl pm_m rfl hx0 (fit_of hR ⟨by decide, by decide, by omega, by omega⟩) (Nat.le_of_ble_eq_true rfl) (fun v9 w8 hq => ?_)
  obtain ⟨rfl, hmq⟩ := hq
  obtain ⟨wD, th9, hpd, hLW⟩ := hf _ _ hcq hmq
  refine aW_perm (pm_m' hpd) ?_
  refine a_icmp_eq_t (tgt := 1504) hB dL_law_1485 (by decide) rfl ?_
  exact aW_widen (by omega) (by omega) (aW_at [0, 1, 2, 3, 4, 5] rfl rfl rfl (kk _ _ _ _ _ hLW))
set_option maxHeartbeats 4000000 in
set_option maxRecDepth 100000 in
theorem lc_digest {G : GP} {B : Bd} {b Ln : Nat} {xs : Nat → Int32} (hX : LCtx G B b Ln xs) {x0 m0 oa od i k n : Nat} (hi : i + 4 ≤ Ln) (hk : k + 20 ≤ 601024) (hn : n + 200 ≤ 7293034) (kk : LAt G B b x0 m0 oa od i 1504 (k + 20) (n + 200)) : LAt G B b x0 m0 oa od i 1490 k n := by
  intro th wC wN fo fd hW
  obtain ⟨hB, hR, hXs, hbl, hbA, hLn, hF⟩ := hX
  obtain ⟨bv, W, V, mc, ms, CQ, MQ, ⟨bq, rfl⟩, hmc, hms, hp, ⟨fsw, hw0⟩, hA, hMm, ⟨fsm, hx0⟩, hf⟩ := st_digest hW
  refine a_aload_n hB dL_law_1490 rfl ?_
  refine a_callVp (ci := 9) hB hA mk_X9_digest ml_L_173 dL_law_1491 rfl rfl (pm_c hp) rfl hw0 (fit_of hR ⟨by decide, by decide, by omega, by omega⟩) (Nat.le_of_ble_eq_true rfl) (fun v9 w9 hq => ?_)
  obtain ⟨rfl, hcq⟩ := hq
  refine aW_perm pm_c' ?_
  refine a_aload_n hB dL_law_1494 rfl ?_
  refine a_callVp (ci := 10) hB hMm mk_X10_digest ml_L_177 dL_law_1495 rfl rfl pm_m rfl hx0 (fit_of hR ⟨by decide, by decide, by omega, by omega⟩) (Nat.le_of_ble_eq_true rfl) (fun v9 w8 hq => ?_)
  obtain ⟨rfl, hmq⟩ := hq
  obtain ⟨wD, th9, hpd, hLW⟩ := hf _ _ hcq hmq
  refine aW_perm (pm_m' hpd) ?_
  refine a_lcmp hB dL_law_1498 ?_
  refine a_if_eq_t (tgt := 1504) hB dL_law_1499 (by decide) (lg_self _) ?_
  exact aW_widen (by omega) (by omega) (aW_at [0, 1, 2, 3, 4, 5] rfl rfl rfl (kk _ _ _ _ _ hLW))
