/-! THE LAW'S CASES -/
set_option maxHeartbeats 4000000 in
set_option maxRecDepth 100000 in
theorem lc_addPart {G : GP} {B : Bd} {b Ln : Nat} {xs : Nat → Int32} (hX : LCtx G B b Ln xs) {x0 m0 oa od i k n : Nat} (hi : i + 4 ≤ Ln) (hk : k + 20 ≤ 601024) (hn : n + 200 ≤ 7293034) (kk : LAt G B b x0 m0 oa od i 1504 (k + 20) (n + 200)) : LAt G B b x0 m0 oa od i 160 k n := by
  intro th wC wN fo fd hW
  obtain ⟨hB, hR, hXs, hbl, hbA, hLn, hF⟩ := hX
  obtain ⟨kq, bq, W, V, mc, ms, CQ, MQ, hk4, hmc, hms, hp, hA, hMm, ⟨fsm, hx0⟩, hf⟩ := st_addPart hF hW (oa := oa) (xs (i + 1))
  refine a_aload_n hB dL_law_160 rfl ?_
  refine a_aload_n hB dL_law_161 rfl ?_
  refine a_iload hB dL_law_162 rfl ?_
  refine a_iconstN (v := 1) hB dL_law_164 (by decide) ?_
  refine a_iaddN hB dL_law_165 ?_
  refine a_sld hB hXs hbl hbA (by omega) hLn dL_law_166 ?_
  refine a_aload_n hB dL_law_167 rfl ?_
  refine a_callSHp hB (hA fo) mk_L_addPart ml_L_83 dL_law_168 rfl rfl (pm_o hp) (fit_of hR ⟨by decide, by decide, by omega, by omega⟩) (Nat.le_of_ble_eq_true rfl) (fun v9 w8 hq => ?_)
  obtain ⟨rfl, fp, w9, rfl, hfp, hcq⟩ := hq
  refine aW_perm pm_o' ?_
  refine a_istore hB dL_law_171 (by decide) ?_
  refine a_aload_n hB dL_law_173 rfl ?_
  refine a_aload_n hB dL_law_174 rfl ?_
  refine a_iload hB dL_law_175 rfl ?_
  refine a_iconstN (v := 1) hB dL_law_177 (by decide) ?_
  refine a_iaddN hB dL_law_178 ?_
  refine a_sld hB hXs hbl hbA (by omega) hLn dL_law_179 ?_
  refine a_callVp (ci := 10) hB hMm mk_X10_addPart ml_L_88 dL_law_180 rfl rfl pm_m rfl hx0 (fit_of hR ⟨by decide, by decide, by omega, by omega⟩) (Nat.le_of_ble_eq_true rfl) (fun v9 w8 hq => ?_)
  obtain ⟨rfl, hmq⟩ := hq
  obtain ⟨wD, hpd, hLW⟩ := hf _ _ hcq hmq
  refine aW_perm (pm_m' hpd) ?_
  refine a_istore hB dL_law_183 (by decide) ?_
  refine a_aload_n hB dL_law_185 rfl ?_
  obtain ⟨fs2, hx2⟩ := hLW.x
  refine a_callVp (ci := 10) hB hLW.thrown mk_X10_thrown ml_L_89 dL_law_186 rfl rfl pm_m rfl hx2 (fit_of hR ⟨by decide, by decide, by omega, by omega⟩) (Nat.le_of_ble_eq_true rfl) (fun v9 w8 hq => ?_)
  obtain ⟨rfl, rfl⟩ := hq
  refine aW_perm (pm_m' (List.Perm.refl _)) ?_
  refine a_iload hB dL_law_189 rfl ?_
  refine a_icmp_eq_t (tgt := 196) hB dL_law_191 (by decide) rfl ?_
  refine a_iload hB dL_law_196 rfl ?_
  refine a_if_neN (tgt := 213) hB dL_law_198 (by decide) (by omega) (fun c9 => ?_) (fun c9 => ?_)
  · refine a_goto (tgt := 1504) hB dL_law_213 (by decide) ?_
    exact aW_widen (by omega) (by omega) (aW_at [0, 1, 2, 3, 4, 5] rfl rfl rfl (kk _ _ _ _ _ hLW))
  · refine a_aload_n hB dL_law_201 rfl ?_
    refine a_iconstN (v := 0) hB dL_law_202 (by decide) ?_
    refine a_laload0 hB dL_law_203 0 rfl (hfp c9) ?_
    refine a_iload hB dL_law_204 rfl ?_
    refine a_i2l hB dL_law_206 ?_
    refine a_lcmp hB dL_law_207 ?_
    refine a_if_eq_t (tgt := 213) hB dL_law_208 (by decide) (lg_self _) ?_
    refine a_goto (tgt := 1504) hB dL_law_213 (by decide) ?_
    exact aW_widen (by omega) (by omega) (aW_at [0, 1, 2, 3, 4, 5] rfl rfl rfl (kk _ _ _ _ _ hLW))
set_option maxHeartbeats 4000000 in
set_option maxRecDepth 100000 in
theorem lc_removePart {G : GP} {B : Bd} {b Ln : Nat} {xs : Nat → Int32} (hX : LCtx G B b Ln xs) {x0 m0 oa od i k n : Nat} (hi : i + 4 ≤ Ln) (hk : k + 20 ≤ 601024) (hn : n + 200 ≤ 7293034) (kk : LAt G B b x0 m0 oa od i 1504 (k + 20) (n + 200)) : LAt G B b x0 m0 oa od i 216 k n := by
  intro th wC wN fo fd hW
  obtain ⟨hB, hR, hXs, hbl, hbA, hLn, hF⟩ := hX
  obtain ⟨kq, bq, W, V, mc, ms, CQ, MQ, hk4, hmc, hms, hp, hA, hMm, ⟨fsm, hx0⟩, hf⟩ := st_removePart hF hW (oa := oa) (xs (i + 1))
  refine a_aload_n hB dL_law_216 rfl ?_
  refine a_aload_n hB dL_law_217 rfl ?_
  refine a_iload hB dL_law_218 rfl ?_
  refine a_iconstN (v := 1) hB dL_law_220 (by decide) ?_
  refine a_iaddN hB dL_law_221 ?_
  refine a_sld hB hXs hbl hbA (by omega) hLn dL_law_222 ?_
  refine a_aload_n hB dL_law_223 rfl ?_
  refine a_callSHp hB (hA fo) mk_L_removePart ml_L_92 dL_law_224 rfl rfl (pm_o hp) (fit_of hR ⟨by decide, by decide, by omega, by omega⟩) (Nat.le_of_ble_eq_true rfl) (fun v9 w8 hq => ?_)
  obtain ⟨rfl, fp, w9, rfl, hfp, hcq⟩ := hq
  refine aW_perm pm_o' ?_
  refine a_istore hB dL_law_227 (by decide) ?_
  refine a_aload_n hB dL_law_229 rfl ?_
  refine a_aload_n hB dL_law_230 rfl ?_
  refine a_iload hB dL_law_231 rfl ?_
  refine a_iconstN (v := 1) hB dL_law_233 (by decide) ?_
  refine a_iaddN hB dL_law_234 ?_
  refine a_sld hB hXs hbl hbA (by omega) hLn dL_law_235 ?_
  refine a_callVp (ci := 10) hB hMm mk_X10_removePart ml_L_94 dL_law_236 rfl rfl pm_m rfl hx0 (fit_of hR ⟨by decide, by decide, by omega, by omega⟩) (Nat.le_of_ble_eq_true rfl) (fun v9 w8 hq => ?_)
  obtain ⟨rfl, hmq⟩ := hq
  obtain ⟨wD, hpd, hLW⟩ := hf _ _ hcq hmq
  refine aW_perm (pm_m' hpd) ?_
  refine a_istore hB dL_law_239 (by decide) ?_
  refine a_aload_n hB dL_law_241 rfl ?_
  obtain ⟨fs2, hx2⟩ := hLW.x
  refine a_callVp (ci := 10) hB hLW.thrown mk_X10_thrown ml_L_89 dL_law_242 rfl rfl pm_m rfl hx2 (fit_of hR ⟨by decide, by decide, by omega, by omega⟩) (Nat.le_of_ble_eq_true rfl) (fun v9 w8 hq => ?_)
  obtain ⟨rfl, rfl⟩ := hq
  refine aW_perm (pm_m' (List.Perm.refl _)) ?_
  refine a_iload hB dL_law_245 rfl ?_
  refine a_icmp_eq_t (tgt := 252) hB dL_law_247 (by decide) rfl ?_
  refine a_iload hB dL_law_252 rfl ?_
  refine a_if_neN (tgt := 269) hB dL_law_254 (by decide) (by omega) (fun c9 => ?_) (fun c9 => ?_)
  · refine a_goto (tgt := 1504) hB dL_law_269 (by decide) ?_
    exact aW_widen (by omega) (by omega) (aW_at [0, 1, 2, 3, 4, 5] rfl rfl rfl (kk _ _ _ _ _ hLW))
  · refine a_aload_n hB dL_law_257 rfl ?_
    refine a_iconstN (v := 0) hB dL_law_258 (by decide) ?_
    refine a_laload0 hB dL_law_259 0 rfl (hfp c9) ?_
    refine a_iload hB dL_law_260 rfl ?_
    refine a_i2l hB dL_law_262 ?_
    refine a_lcmp hB dL_law_263 ?_
    refine a_if_eq_t (tgt := 269) hB dL_law_264 (by decide) (lg_self _) ?_
    refine a_goto (tgt := 1504) hB dL_law_269 (by decide) ?_
    exact aW_widen (by omega) (by omega) (aW_at [0, 1, 2, 3, 4, 5] rfl rfl rfl (kk _ _ _ _ _ hLW))
set_option maxHeartbeats 4000000 in
set_option maxRecDepth 100000 in
theorem lc_weigh {G : GP} {B : Bd} {b Ln : Nat} {xs : Nat → Int32} (hX : LCtx G B b Ln xs) {x0 m0 oa od i k n : Nat} (hi : i + 4 ≤ Ln) (hk : k + 20 ≤ 601024) (hn : n + 200 ≤ 7293034) (kk : LAt G B b x0 m0 oa od i 1504 (k + 20) (n + 200)) : LAt G B b x0 m0 oa od i 272 k n := by
  intro th wC wN fo fd hW
  obtain ⟨hB, hR, hXs, hbl, hbA, hLn, hF⟩ := hX
  obtain ⟨kq, bq, W, V, mc, ms, CQ, MQ, hk4, hmc, hms, hp, hA, hMm, ⟨fsm, hx0⟩, hf⟩ := st_weigh hF hW (oa := oa) (xs (i + 1)) (xs (i + 2)) (xs (i + 3))
  refine a_aload_n hB dL_law_272 rfl ?_
  refine a_aload_n hB dL_law_273 rfl ?_
  refine a_iload hB dL_law_274 rfl ?_
  refine a_iconstN (v := 1) hB dL_law_276 (by decide) ?_
  refine a_iaddN hB dL_law_277 ?_
  refine a_sld hB hXs hbl hbA (by omega) hLn dL_law_278 ?_
  refine a_aload_n hB dL_law_279 rfl ?_
  refine a_iload hB dL_law_280 rfl ?_
  refine a_iconstN (v := 2) hB dL_law_282 (by decide) ?_
  refine a_iaddN hB dL_law_283 ?_
  refine a_sld hB hXs hbl hbA (by omega) hLn dL_law_284 ?_
  refine a_aload_n hB dL_law_285 rfl ?_
  refine a_iload hB dL_law_286 rfl ?_
  refine a_iconstN (v := 3) hB dL_law_288 (by decide) ?_
  refine a_iaddN hB dL_law_289 ?_
  refine a_sld hB hXs hbl hbA (by omega) hLn dL_law_290 ?_
  refine a_aload_n hB dL_law_291 rfl ?_
  refine a_callSHp hB (hA fo) mk_L_weigh ml_L_95 dL_law_292 rfl rfl (pm_o hp) (fit_of hR ⟨by decide, by decide, by omega, by omega⟩) (Nat.le_of_ble_eq_true rfl) (fun v9 w8 hq => ?_)
  obtain ⟨rfl, fp, w9, rfl, hfp, hcq⟩ := hq
  refine aW_perm pm_o' ?_
  refine a_istore hB dL_law_295 (by decide) ?_
  refine a_aload_n hB dL_law_297 rfl ?_
  refine a_aload_n hB dL_law_298 rfl ?_
  refine a_iload hB dL_law_299 rfl ?_
  refine a_iconstN (v := 1) hB dL_law_301 (by decide) ?_
  refine a_iaddN hB dL_law_302 ?_
  refine a_sld hB hXs hbl hbA (by omega) hLn dL_law_303 ?_
  refine a_aload_n hB dL_law_304 rfl ?_
  refine a_iload hB dL_law_305 rfl ?_
  refine a_iconstN (v := 2) hB dL_law_307 (by decide) ?_
  refine a_iaddN hB dL_law_308 ?_
  refine a_sld hB hXs hbl hbA (by omega) hLn dL_law_309 ?_
  refine a_aload_n hB dL_law_310 rfl ?_
  refine a_iload hB dL_law_311 rfl ?_
  refine a_iconstN (v := 3) hB dL_law_313 (by decide) ?_
  refine a_iaddN hB dL_law_314 ?_
  refine a_sld hB hXs hbl hbA (by omega) hLn dL_law_315 ?_
  refine a_callVp (ci := 10) hB hMm mk_X10_weigh ml_L_98 dL_law_316 rfl rfl pm_m rfl hx0 (fit_of hR ⟨by decide, by decide, by omega, by omega⟩) (Nat.le_of_ble_eq_true rfl) (fun v9 w8 hq => ?_)
  obtain ⟨rfl, hmq⟩ := hq
  obtain ⟨wD, hpd, hLW⟩ := hf _ _ hcq hmq
  refine aW_perm (pm_m' hpd) ?_
  refine a_istore hB dL_law_319 (by decide) ?_
  refine a_aload_n hB dL_law_321 rfl ?_
  obtain ⟨fs2, hx2⟩ := hLW.x
  refine a_callVp (ci := 10) hB hLW.thrown mk_X10_thrown ml_L_89 dL_law_322 rfl rfl pm_m rfl hx2 (fit_of hR ⟨by decide, by decide, by omega, by omega⟩) (Nat.le_of_ble_eq_true rfl) (fun v9 w8 hq => ?_)
  obtain ⟨rfl, rfl⟩ := hq
  refine aW_perm (pm_m' (List.Perm.refl _)) ?_
  refine a_iload hB dL_law_325 rfl ?_
  refine a_icmp_eq_t (tgt := 332) hB dL_law_327 (by decide) rfl ?_
  refine a_iload hB dL_law_332 rfl ?_
  refine a_if_neN (tgt := 349) hB dL_law_334 (by decide) (by omega) (fun c9 => ?_) (fun c9 => ?_)
  · refine a_goto (tgt := 1504) hB dL_law_349 (by decide) ?_
    exact aW_widen (by omega) (by omega) (aW_at [0, 1, 2, 3, 4, 5] rfl rfl rfl (kk _ _ _ _ _ hLW))
  · refine a_aload_n hB dL_law_337 rfl ?_
    refine a_iconstN (v := 0) hB dL_law_338 (by decide) ?_
    refine a_laload0 hB dL_law_339 0 rfl (hfp c9) ?_
    refine a_iload hB dL_law_340 rfl ?_
    refine a_i2l hB dL_law_342 ?_
    refine a_lcmp hB dL_law_343 ?_
    refine a_if_eq_t (tgt := 349) hB dL_law_344 (by decide) (lg_self _) ?_
    refine a_goto (tgt := 1504) hB dL_law_349 (by decide) ?_
    exact aW_widen (by omega) (by omega) (aW_at [0, 1, 2, 3, 4, 5] rfl rfl rfl (kk _ _ _ _ _ hLW))
set_option maxHeartbeats 4000000 in
set_option maxRecDepth 100000 in
theorem lc_tilt {G : GP} {B : Bd} {b Ln : Nat} {xs : Nat → Int32} (hX : LCtx G B b Ln xs) {x0 m0 oa od i k n : Nat} (hi : i + 4 ≤ Ln) (hk : k + 20 ≤ 601024) (hn : n + 200 ≤ 7293034) (kk : LAt G B b x0 m0 oa od i 1504 (k + 20) (n + 200)) : LAt G B b x0 m0 oa od i 352 k n := by
  intro th wC wN fo fd hW
  obtain ⟨hB, hR, hXs, hbl, hbA, hLn, hF⟩ := hX
  obtain ⟨kq, bq, W, V, mc, ms, CQ, MQ, hk4, hmc, hms, hp, hA, hMm, ⟨fsm, hx0⟩, hf⟩ := st_tilt hF hW (oa := oa) (xs (i + 1)) (xs (i + 2)) (xs (i + 3))
  refine a_aload_n hB dL_law_352 rfl ?_
  refine a_aload_n hB dL_law_353 rfl ?_
  refine a_iload hB dL_law_354 rfl ?_
  refine a_iconstN (v := 1) hB dL_law_356 (by decide) ?_
  refine a_iaddN hB dL_law_357 ?_
  refine a_sld hB hXs hbl hbA (by omega) hLn dL_law_358 ?_
  refine a_aload_n hB dL_law_359 rfl ?_
  refine a_iload hB dL_law_360 rfl ?_
  refine a_iconstN (v := 2) hB dL_law_362 (by decide) ?_
  refine a_iaddN hB dL_law_363 ?_
  refine a_sld hB hXs hbl hbA (by omega) hLn dL_law_364 ?_
  refine a_aload_n hB dL_law_365 rfl ?_
  refine a_iload hB dL_law_366 rfl ?_
  refine a_iconstN (v := 3) hB dL_law_368 (by decide) ?_
  refine a_iaddN hB dL_law_369 ?_
  refine a_sld hB hXs hbl hbA (by omega) hLn dL_law_370 ?_
  refine a_aload_n hB dL_law_371 rfl ?_
  refine a_callSHp hB (hA fo) mk_L_tilt ml_L_99 dL_law_372 rfl rfl (pm_o hp) (fit_of hR ⟨by decide, by decide, by omega, by omega⟩) (Nat.le_of_ble_eq_true rfl) (fun v9 w8 hq => ?_)
  obtain ⟨rfl, fp, w9, rfl, hfp, hcq⟩ := hq
  refine aW_perm pm_o' ?_
  refine a_istore hB dL_law_375 (by decide) ?_
  refine a_aload_n hB dL_law_377 rfl ?_
  refine a_aload_n hB dL_law_378 rfl ?_
  refine a_iload hB dL_law_379 rfl ?_
  refine a_iconstN (v := 1) hB dL_law_381 (by decide) ?_
  refine a_iaddN hB dL_law_382 ?_
  refine a_sld hB hXs hbl hbA (by omega) hLn dL_law_383 ?_
  refine a_aload_n hB dL_law_384 rfl ?_
  refine a_iload hB dL_law_385 rfl ?_
  refine a_iconstN (v := 2) hB dL_law_387 (by decide) ?_
  refine a_iaddN hB dL_law_388 ?_
  refine a_sld hB hXs hbl hbA (by omega) hLn dL_law_389 ?_
  refine a_aload_n hB dL_law_390 rfl ?_
  refine a_iload hB dL_law_391 rfl ?_
  refine a_iconstN (v := 3) hB dL_law_393 (by decide) ?_
  refine a_iaddN hB dL_law_394 ?_
  refine a_sld hB hXs hbl hbA (by omega) hLn dL_law_395 ?_
  refine a_callVp (ci := 10) hB hMm mk_X10_tilt ml_L_101 dL_law_396 rfl rfl pm_m rfl hx0 (fit_of hR ⟨by decide, by decide, by omega, by omega⟩) (Nat.le_of_ble_eq_true rfl) (fun v9 w8 hq => ?_)
  obtain ⟨rfl, hmq⟩ := hq
  obtain ⟨wD, hpd, hLW⟩ := hf _ _ hcq hmq
  refine aW_perm (pm_m' hpd) ?_
  refine a_istore hB dL_law_399 (by decide) ?_
  refine a_aload_n hB dL_law_401 rfl ?_
  obtain ⟨fs2, hx2⟩ := hLW.x
  refine a_callVp (ci := 10) hB hLW.thrown mk_X10_thrown ml_L_89 dL_law_402 rfl rfl pm_m rfl hx2 (fit_of hR ⟨by decide, by decide, by omega, by omega⟩) (Nat.le_of_ble_eq_true rfl) (fun v9 w8 hq => ?_)
  obtain ⟨rfl, rfl⟩ := hq
  refine aW_perm (pm_m' (List.Perm.refl _)) ?_
  refine a_iload hB dL_law_405 rfl ?_
  refine a_icmp_eq_t (tgt := 412) hB dL_law_407 (by decide) rfl ?_
  refine a_iload hB dL_law_412 rfl ?_
  refine a_if_neN (tgt := 429) hB dL_law_414 (by decide) (by omega) (fun c9 => ?_) (fun c9 => ?_)
  · refine a_goto (tgt := 1504) hB dL_law_429 (by decide) ?_
    exact aW_widen (by omega) (by omega) (aW_at [0, 1, 2, 3, 4, 5] rfl rfl rfl (kk _ _ _ _ _ hLW))
  · refine a_aload_n hB dL_law_417 rfl ?_
    refine a_iconstN (v := 0) hB dL_law_418 (by decide) ?_
    refine a_laload0 hB dL_law_419 0 rfl (hfp c9) ?_
    refine a_iload hB dL_law_420 rfl ?_
    refine a_i2l hB dL_law_422 ?_
    refine a_lcmp hB dL_law_423 ?_
    refine a_if_eq_t (tgt := 429) hB dL_law_424 (by decide) (lg_self _) ?_
    refine a_goto (tgt := 1504) hB dL_law_429 (by decide) ?_
    exact aW_widen (by omega) (by omega) (aW_at [0, 1, 2, 3, 4, 5] rfl rfl rfl (kk _ _ _ _ _ hLW))
set_option maxHeartbeats 4000000 in
set_option maxRecDepth 100000 in
theorem lc_tiltAll {G : GP} {B : Bd} {b Ln : Nat} {xs : Nat → Int32} (hX : LCtx G B b Ln xs) {x0 m0 oa od i k n : Nat} (hi : i + 4 ≤ Ln) (hk : k + 20 ≤ 601024) (hn : n + 200 ≤ 7293034) (kk : LAt G B b x0 m0 oa od i 1504 (k + 20) (n + 200)) : LAt G B b x0 m0 oa od i 432 k n := by
  intro th wC wN fo fd hW
  obtain ⟨hB, hR, hXs, hbl, hbA, hLn, hF⟩ := hX
  obtain ⟨kq, bq, W, V, mc, ms, CQ, MQ, hk4, hmc, hms, hp, hA, hMm, ⟨fsm, hx0⟩, hf⟩ := st_tiltAll hF hW (oa := oa) (xs (i + 1))
  refine a_aload_n hB dL_law_432 rfl ?_
  refine a_aload_n hB dL_law_433 rfl ?_
  refine a_iload hB dL_law_434 rfl ?_
  refine a_iconstN (v := 1) hB dL_law_436 (by decide) ?_
  refine a_iaddN hB dL_law_437 ?_
  refine a_sld hB hXs hbl hbA (by omega) hLn dL_law_438 ?_
  refine a_aload_n hB dL_law_439 rfl ?_
  refine a_callSHp hB (hA fo) mk_L_tiltAll ml_L_102 dL_law_440 rfl rfl (pm_o hp) (fit_of hR ⟨by decide, by decide, by omega, by omega⟩) (Nat.le_of_ble_eq_true rfl) (fun v9 w8 hq => ?_)
  obtain ⟨rfl, fp, w9, rfl, hfp, hcq⟩ := hq
  refine aW_perm pm_o' ?_
  refine a_istore hB dL_law_443 (by decide) ?_
  refine a_aload_n hB dL_law_445 rfl ?_
  refine a_aload_n hB dL_law_446 rfl ?_
  refine a_iload hB dL_law_447 rfl ?_
  refine a_iconstN (v := 1) hB dL_law_449 (by decide) ?_
  refine a_iaddN hB dL_law_450 ?_
  refine a_sld hB hXs hbl hbA (by omega) hLn dL_law_451 ?_
  refine a_callVp (ci := 10) hB hMm mk_X10_tiltAll ml_L_104 dL_law_452 rfl rfl pm_m rfl hx0 (fit_of hR ⟨by decide, by decide, by omega, by omega⟩) (Nat.le_of_ble_eq_true rfl) (fun v9 w8 hq => ?_)
  obtain ⟨rfl, hmq⟩ := hq
  obtain ⟨wD, hpd, hLW⟩ := hf _ _ hcq hmq
  refine aW_perm (pm_m' hpd) ?_
  refine a_istore hB dL_law_455 (by decide) ?_
  refine a_aload_n hB dL_law_457 rfl ?_
  obtain ⟨fs2, hx2⟩ := hLW.x
  refine a_callVp (ci := 10) hB hLW.thrown mk_X10_thrown ml_L_89 dL_law_458 rfl rfl pm_m rfl hx2 (fit_of hR ⟨by decide, by decide, by omega, by omega⟩) (Nat.le_of_ble_eq_true rfl) (fun v9 w8 hq => ?_)
  obtain ⟨rfl, rfl⟩ := hq
  refine aW_perm (pm_m' (List.Perm.refl _)) ?_
  refine a_iload hB dL_law_461 rfl ?_
  refine a_icmp_eq_t (tgt := 468) hB dL_law_463 (by decide) rfl ?_
  refine a_iload hB dL_law_468 rfl ?_
  refine a_if_neN (tgt := 485) hB dL_law_470 (by decide) (by omega) (fun c9 => ?_) (fun c9 => ?_)
  · refine a_goto (tgt := 1504) hB dL_law_485 (by decide) ?_
    exact aW_widen (by omega) (by omega) (aW_at [0, 1, 2, 3, 4, 5] rfl rfl rfl (kk _ _ _ _ _ hLW))
  · refine a_aload_n hB dL_law_473 rfl ?_
    refine a_iconstN (v := 0) hB dL_law_474 (by decide) ?_
    refine a_laload0 hB dL_law_475 0 rfl (hfp c9) ?_
    refine a_iload hB dL_law_476 rfl ?_
    refine a_i2l hB dL_law_478 ?_
    refine a_lcmp hB dL_law_479 ?_
    refine a_if_eq_t (tgt := 485) hB dL_law_480 (by decide) (lg_self _) ?_
    refine a_goto (tgt := 1504) hB dL_law_485 (by decide) ?_
    exact aW_widen (by omega) (by omega) (aW_at [0, 1, 2, 3, 4, 5] rfl rfl rfl (kk _ _ _ _ _ hLW))
set_option maxHeartbeats 4000000 in
set_option maxRecDepth 100000 in
theorem lc_limit {G : GP} {B : Bd} {b Ln : Nat} {xs : Nat → Int32} (hX : LCtx G B b Ln xs) {x0 m0 oa od i k n : Nat} (hi : i + 4 ≤ Ln) (hk : k + 20 ≤ 601024) (hn : n + 200 ≤ 7293034) (kk : LAt G B b x0 m0 oa od i 1504 (k + 20) (n + 200)) : LAt G B b x0 m0 oa od i 488 k n := by
  intro th wC wN fo fd hW
  obtain ⟨hB, hR, hXs, hbl, hbA, hLn, hF⟩ := hX
  obtain ⟨kq, bq, W, V, mc, ms, CQ, MQ, hk4, hmc, hms, hp, hA, hMm, ⟨fsm, hx0⟩, hf⟩ := st_limit hF hW (oa := oa) (xs (i + 1))
  refine a_aload_n hB dL_law_488 rfl ?_
  refine a_aload_n hB dL_law_489 rfl ?_
  refine a_iload hB dL_law_490 rfl ?_
  refine a_iconstN (v := 1) hB dL_law_492 (by decide) ?_
  refine a_iaddN hB dL_law_493 ?_
  refine a_sld hB hXs hbl hbA (by omega) hLn dL_law_494 ?_
  refine a_aload_n hB dL_law_495 rfl ?_
  refine a_callSHp hB (hA fo) mk_L_limit ml_L_105 dL_law_496 rfl rfl (pm_o hp) (fit_of hR ⟨by decide, by decide, by omega, by omega⟩) (Nat.le_of_ble_eq_true rfl) (fun v9 w8 hq => ?_)
  obtain ⟨rfl, fp, w9, rfl, hfp, hcq⟩ := hq
  refine aW_perm pm_o' ?_
  refine a_istore hB dL_law_499 (by decide) ?_
  refine a_aload_n hB dL_law_501 rfl ?_
  refine a_aload_n hB dL_law_502 rfl ?_
  refine a_iload hB dL_law_503 rfl ?_
  refine a_iconstN (v := 1) hB dL_law_505 (by decide) ?_
  refine a_iaddN hB dL_law_506 ?_
  refine a_sld hB hXs hbl hbA (by omega) hLn dL_law_507 ?_
  refine a_callVp (ci := 10) hB hMm mk_X10_limit ml_L_107 dL_law_508 rfl rfl pm_m rfl hx0 (fit_of hR ⟨by decide, by decide, by omega, by omega⟩) (Nat.le_of_ble_eq_true rfl) (fun v9 w8 hq => ?_)
  obtain ⟨rfl, hmq⟩ := hq
  obtain ⟨wD, hpd, hLW⟩ := hf _ _ hcq hmq
  refine aW_perm (pm_m' hpd) ?_
  refine a_istore hB dL_law_511 (by decide) ?_
  refine a_aload_n hB dL_law_513 rfl ?_
  obtain ⟨fs2, hx2⟩ := hLW.x
  refine a_callVp (ci := 10) hB hLW.thrown mk_X10_thrown ml_L_89 dL_law_514 rfl rfl pm_m rfl hx2 (fit_of hR ⟨by decide, by decide, by omega, by omega⟩) (Nat.le_of_ble_eq_true rfl) (fun v9 w8 hq => ?_)
  obtain ⟨rfl, rfl⟩ := hq
  refine aW_perm (pm_m' (List.Perm.refl _)) ?_
  refine a_iload hB dL_law_517 rfl ?_
  refine a_icmp_eq_t (tgt := 524) hB dL_law_519 (by decide) rfl ?_
  refine a_iload hB dL_law_524 rfl ?_
  refine a_if_neN (tgt := 541) hB dL_law_526 (by decide) (by omega) (fun c9 => ?_) (fun c9 => ?_)
  · refine a_goto (tgt := 1504) hB dL_law_541 (by decide) ?_
    exact aW_widen (by omega) (by omega) (aW_at [0, 1, 2, 3, 4, 5] rfl rfl rfl (kk _ _ _ _ _ hLW))
  · refine a_aload_n hB dL_law_529 rfl ?_
    refine a_iconstN (v := 0) hB dL_law_530 (by decide) ?_
    refine a_laload0 hB dL_law_531 0 rfl (hfp c9) ?_
    refine a_iload hB dL_law_532 rfl ?_
    refine a_i2l hB dL_law_534 ?_
    refine a_lcmp hB dL_law_535 ?_
    refine a_if_eq_t (tgt := 541) hB dL_law_536 (by decide) (lg_self _) ?_
    refine a_goto (tgt := 1504) hB dL_law_541 (by decide) ?_
    exact aW_widen (by omega) (by omega) (aW_at [0, 1, 2, 3, 4, 5] rfl rfl rfl (kk _ _ _ _ _ hLW))
set_option maxHeartbeats 4000000 in
set_option maxRecDepth 100000 in
theorem lc_seed {G : GP} {B : Bd} {b Ln : Nat} {xs : Nat → Int32} (hX : LCtx G B b Ln xs) {x0 m0 oa od i k n : Nat} (hi : i + 4 ≤ Ln) (hk : k + 20 ≤ 601024) (hn : n + 200 ≤ 7293034) (kk : LAt G B b x0 m0 oa od i 1504 (k + 20) (n + 200)) : LAt G B b x0 m0 oa od i 544 k n := by
  intro th wC wN fo fd hW
  obtain ⟨hB, hR, hXs, hbl, hbA, hLn, hF⟩ := hX
  obtain ⟨kq, bq, W, V, mc, ms, CQ, MQ, hk4, hmc, hms, hp, hA, hMm, ⟨fsm, hx0⟩, hf⟩ := st_seed hF hW (oa := oa) (xs (i + 1))
  refine a_aload_n hB dL_law_544 rfl ?_
  refine a_aload_n hB dL_law_545 rfl ?_
  refine a_iload hB dL_law_546 rfl ?_
  refine a_iconstN (v := 1) hB dL_law_548 (by decide) ?_
  refine a_iaddN hB dL_law_549 ?_
  refine a_sld hB hXs hbl hbA (by omega) hLn dL_law_550 ?_
  refine a_aload_n hB dL_law_551 rfl ?_
  refine a_callSHp hB (hA fo) mk_L_seed ml_L_108 dL_law_552 rfl rfl (pm_o hp) (fit_of hR ⟨by decide, by decide, by omega, by omega⟩) (Nat.le_of_ble_eq_true rfl) (fun v9 w8 hq => ?_)
  obtain ⟨rfl, fp, w9, rfl, hfp, hcq⟩ := hq
  refine aW_perm pm_o' ?_
  refine a_istore hB dL_law_555 (by decide) ?_
  refine a_aload_n hB dL_law_557 rfl ?_
  refine a_aload_n hB dL_law_558 rfl ?_
  refine a_iload hB dL_law_559 rfl ?_
  refine a_iconstN (v := 1) hB dL_law_561 (by decide) ?_
  refine a_iaddN hB dL_law_562 ?_
  refine a_sld hB hXs hbl hbA (by omega) hLn dL_law_563 ?_
  refine a_callVp (ci := 10) hB hMm mk_X10_seed ml_L_110 dL_law_564 rfl rfl pm_m rfl hx0 (fit_of hR ⟨by decide, by decide, by omega, by omega⟩) (Nat.le_of_ble_eq_true rfl) (fun v9 w8 hq => ?_)
  obtain ⟨rfl, hmq⟩ := hq
  obtain ⟨wD, hpd, hLW⟩ := hf _ _ hcq hmq
  refine aW_perm (pm_m' hpd) ?_
  refine a_istore hB dL_law_567 (by decide) ?_
  refine a_aload_n hB dL_law_569 rfl ?_
  obtain ⟨fs2, hx2⟩ := hLW.x
  refine a_callVp (ci := 10) hB hLW.thrown mk_X10_thrown ml_L_89 dL_law_570 rfl rfl pm_m rfl hx2 (fit_of hR ⟨by decide, by decide, by omega, by omega⟩) (Nat.le_of_ble_eq_true rfl) (fun v9 w8 hq => ?_)
  obtain ⟨rfl, rfl⟩ := hq
  refine aW_perm (pm_m' (List.Perm.refl _)) ?_
  refine a_iload hB dL_law_573 rfl ?_
  refine a_icmp_eq_t (tgt := 580) hB dL_law_575 (by decide) rfl ?_
  refine a_iload hB dL_law_580 rfl ?_
  refine a_if_neN (tgt := 597) hB dL_law_582 (by decide) (by omega) (fun c9 => ?_) (fun c9 => ?_)
  · refine a_goto (tgt := 1504) hB dL_law_597 (by decide) ?_
    exact aW_widen (by omega) (by omega) (aW_at [0, 1, 2, 3, 4, 5] rfl rfl rfl (kk _ _ _ _ _ hLW))
  · refine a_aload_n hB dL_law_585 rfl ?_
    refine a_iconstN (v := 0) hB dL_law_586 (by decide) ?_
    refine a_laload0 hB dL_law_587 0 rfl (hfp c9) ?_
    refine a_iload hB dL_law_588 rfl ?_
    refine a_i2l hB dL_law_590 ?_
    refine a_lcmp hB dL_law_591 ?_
    refine a_if_eq_t (tgt := 597) hB dL_law_592 (by decide) (lg_self _) ?_
    refine a_goto (tgt := 1504) hB dL_law_597 (by decide) ?_
    exact aW_widen (by omega) (by omega) (aW_at [0, 1, 2, 3, 4, 5] rfl rfl rfl (kk _ _ _ _ _ hLW))
set_option maxHeartbeats 4000000 in
set_option maxRecDepth 100000 in
theorem lc_draw {G : GP} {B : Bd} {b Ln : Nat} {xs : Nat → Int32} (hX : LCtx G B b Ln xs) {x0 m0 oa od i k n : Nat} (hi : i + 4 ≤ Ln) (hk : k + 20 ≤ 601024) (hn : n + 200 ≤ 7293034) (kk : LAt G B b x0 m0 oa od i 1504 (k + 20) (n + 200)) : LAt G B b x0 m0 oa od i 600 k n := by
  intro th wC wN fo fd hW
  obtain ⟨hB, hR, hXs, hbl, hbA, hLn, hF⟩ := hX
  obtain ⟨kq, bq, W, V, mc, ms, CQ, MQ, hk4, hmc, hms, hp, hA, hMm, ⟨fsm, hx0⟩, hf⟩ := st_draw hF hW (oa := oa) (xs (i + 1))
  refine a_aload_n hB dL_law_600 rfl ?_
  refine a_aload_n hB dL_law_601 rfl ?_
  refine a_iload hB dL_law_602 rfl ?_
  refine a_iconstN (v := 1) hB dL_law_604 (by decide) ?_
  refine a_iaddN hB dL_law_605 ?_
  refine a_sld hB hXs hbl hbA (by omega) hLn dL_law_606 ?_
  refine a_aload_n hB dL_law_607 rfl ?_
  refine a_callSHp hB (hA fo) mk_L_draw ml_L_111 dL_law_608 rfl rfl (pm_o hp) (fit_of hR ⟨by decide, by decide, by omega, by omega⟩) (Nat.le_of_ble_eq_true rfl) (fun v9 w8 hq => ?_)
  obtain ⟨rfl, fp, w9, rfl, hfp, hcq⟩ := hq
  refine aW_perm pm_o' ?_
  refine a_istore hB dL_law_611 (by decide) ?_
  refine a_aload_n hB dL_law_613 rfl ?_
  refine a_aload_n hB dL_law_614 rfl ?_
  refine a_iload hB dL_law_615 rfl ?_
  refine a_iconstN (v := 1) hB dL_law_617 (by decide) ?_
  refine a_iaddN hB dL_law_618 ?_
  refine a_sld hB hXs hbl hbA (by omega) hLn dL_law_619 ?_
  refine a_callVp (ci := 10) hB hMm mk_X10_draw ml_L_113 dL_law_620 rfl rfl pm_m rfl hx0 (fit_of hR ⟨by decide, by decide, by omega, by omega⟩) (Nat.le_of_ble_eq_true rfl) (fun v9 w8 hq => ?_)
  obtain ⟨rfl, hmq⟩ := hq
  obtain ⟨wD, hpd, hLW⟩ := hf _ _ hcq hmq
  refine aW_perm (pm_m' hpd) ?_
  refine a_istore hB dL_law_623 (by decide) ?_
  refine a_aload_n hB dL_law_625 rfl ?_
  obtain ⟨fs2, hx2⟩ := hLW.x
  refine a_callVp (ci := 10) hB hLW.thrown mk_X10_thrown ml_L_89 dL_law_626 rfl rfl pm_m rfl hx2 (fit_of hR ⟨by decide, by decide, by omega, by omega⟩) (Nat.le_of_ble_eq_true rfl) (fun v9 w8 hq => ?_)
  obtain ⟨rfl, rfl⟩ := hq
  refine aW_perm (pm_m' (List.Perm.refl _)) ?_
  refine a_iload hB dL_law_629 rfl ?_
  refine a_icmp_eq_t (tgt := 636) hB dL_law_631 (by decide) rfl ?_
  refine a_iload hB dL_law_636 rfl ?_
  refine a_if_neN (tgt := 653) hB dL_law_638 (by decide) (by omega) (fun c9 => ?_) (fun c9 => ?_)
  · refine a_goto (tgt := 1504) hB dL_law_653 (by decide) ?_
    exact aW_widen (by omega) (by omega) (aW_at [0, 1, 2, 3, 4, 5] rfl rfl rfl (kk _ _ _ _ _ hLW))
  · refine a_aload_n hB dL_law_641 rfl ?_
    refine a_iconstN (v := 0) hB dL_law_642 (by decide) ?_
    refine a_laload0 hB dL_law_643 0 rfl (hfp c9) ?_
    refine a_iload hB dL_law_644 rfl ?_
    refine a_i2l hB dL_law_646 ?_
    refine a_lcmp hB dL_law_647 ?_
    refine a_if_eq_t (tgt := 653) hB dL_law_648 (by decide) (lg_self _) ?_
    refine a_goto (tgt := 1504) hB dL_law_653 (by decide) ?_
    exact aW_widen (by omega) (by omega) (aW_at [0, 1, 2, 3, 4, 5] rfl rfl rfl (kk _ _ _ _ _ hLW))
set_option maxHeartbeats 4000000 in
set_option maxRecDepth 100000 in
theorem lc_forget {G : GP} {B : Bd} {b Ln : Nat} {xs : Nat → Int32} (hX : LCtx G B b Ln xs) {x0 m0 oa od i k n : Nat} (hi : i + 4 ≤ Ln) (hk : k + 20 ≤ 601024) (hn : n + 200 ≤ 7293034) (kk : LAt G B b x0 m0 oa od i 1504 (k + 20) (n + 200)) : LAt G B b x0 m0 oa od i 656 k n := by
  intro th wC wN fo fd hW
  obtain ⟨hB, hR, hXs, hbl, hbA, hLn, hF⟩ := hX
  obtain ⟨bv, W, V, mc, ms, CQ, MQ, ⟨bq, rfl⟩, hmc, hms, hp, ⟨fsw, hw0⟩, hA, hMm, ⟨fsm, hx0⟩, hf⟩ := st_forget hW
  refine a_aload_n hB dL_law_656 rfl ?_
  refine a_callVp (ci := 9) hB hA mk_X9_forget ml_L_114 dL_law_657 rfl rfl (pm_c hp) rfl hw0 (fit_of hR ⟨by decide, by decide, by omega, by omega⟩) (Nat.le_of_ble_eq_true rfl) (fun v9 w9 hq => ?_)
  obtain ⟨rfl, hcq⟩ := hq
  refine aW_perm pm_c' ?_
  refine a_aload_n hB dL_law_660 rfl ?_
  refine a_callVp (ci := 10) hB hMm mk_X10_forget ml_L_117 dL_law_661 rfl rfl pm_m rfl hx0 (fit_of hR ⟨by decide, by decide, by omega, by omega⟩) (Nat.le_of_ble_eq_true rfl) (fun v9 w8 hq => ?_)
  obtain ⟨rfl, hmq⟩ := hq
  obtain ⟨wD, th9, hpd, hLW⟩ := hf _ _ hcq hmq
  refine aW_perm (pm_m' hpd) ?_
  refine a_icmp_eq_t (tgt := 1504) hB dL_law_664 (by decide) rfl ?_
  exact aW_widen (by omega) (by omega) (aW_at [0, 1, 2, 3, 4, 5] rfl rfl rfl (kk _ _ _ _ _ hLW))
set_option maxHeartbeats 4000000 in
set_option maxRecDepth 100000 in
theorem lc_append {G : GP} {B : Bd} {b Ln : Nat} {xs : Nat → Int32} (hX : LCtx G B b Ln xs) {x0 m0 oa od i k n : Nat} (hi : i + 4 ≤ Ln) (hk : k + 20 ≤ 601024) (hn : n + 200 ≤ 7293034) (kk : LAt G B b x0 m0 oa od i 1504 (k + 20) (n + 200)) : LAt G B b x0 m0 oa od i 669 k n := by
  intro th wC wN fo fd hW
  obtain ⟨hB, hR, hXs, hbl, hbA, hLn, hF⟩ := hX
  obtain ⟨kq, bq, W, V, mc, ms, CQ, MQ, hk4, hmc, hms, hp, hA, hMm, ⟨fsm, hx0⟩, hf⟩ := st_append hF hW (oa := oa) (xs (i + 1))
  refine a_aload_n hB dL_law_669 rfl ?_
  refine a_aload_n hB dL_law_670 rfl ?_
  refine a_iload hB dL_law_671 rfl ?_
  refine a_iconstN (v := 1) hB dL_law_673 (by decide) ?_
  refine a_iaddN hB dL_law_674 ?_
  refine a_sld hB hXs hbl hbA (by omega) hLn dL_law_675 ?_
  refine a_aload_n hB dL_law_676 rfl ?_
  refine a_callSHp hB (hA fo) mk_L_append ml_L_118 dL_law_677 rfl rfl (pm_o hp) (fit_of hR ⟨by decide, by decide, by omega, by omega⟩) (Nat.le_of_ble_eq_true rfl) (fun v9 w8 hq => ?_)
  obtain ⟨rfl, fp, w9, rfl, hfp, hcq⟩ := hq
  refine aW_perm pm_o' ?_
  refine a_istore hB dL_law_680 (by decide) ?_
  refine a_aload_n hB dL_law_682 rfl ?_
  refine a_aload_n hB dL_law_683 rfl ?_
  refine a_iload hB dL_law_684 rfl ?_
  refine a_iconstN (v := 1) hB dL_law_686 (by decide) ?_
  refine a_iaddN hB dL_law_687 ?_
  refine a_sld hB hXs hbl hbA (by omega) hLn dL_law_688 ?_
  refine a_callVp (ci := 10) hB hMm mk_X10_append ml_L_120 dL_law_689 rfl rfl pm_m rfl hx0 (fit_of hR ⟨by decide, by decide, by omega, by omega⟩) (Nat.le_of_ble_eq_true rfl) (fun v9 w8 hq => ?_)
  obtain ⟨rfl, hmq⟩ := hq
  obtain ⟨wD, hpd, hLW⟩ := hf _ _ hcq hmq
  refine aW_perm (pm_m' hpd) ?_
  refine a_istore hB dL_law_692 (by decide) ?_
  refine a_aload_n hB dL_law_694 rfl ?_
  obtain ⟨fs2, hx2⟩ := hLW.x
  refine a_callVp (ci := 10) hB hLW.thrown mk_X10_thrown ml_L_89 dL_law_695 rfl rfl pm_m rfl hx2 (fit_of hR ⟨by decide, by decide, by omega, by omega⟩) (Nat.le_of_ble_eq_true rfl) (fun v9 w8 hq => ?_)
  obtain ⟨rfl, rfl⟩ := hq
  refine aW_perm (pm_m' (List.Perm.refl _)) ?_
  refine a_iload hB dL_law_698 rfl ?_
  refine a_icmp_eq_t (tgt := 705) hB dL_law_700 (by decide) rfl ?_
  refine a_iload hB dL_law_705 rfl ?_
  refine a_if_neN (tgt := 722) hB dL_law_707 (by decide) (by omega) (fun c9 => ?_) (fun c9 => ?_)
  · refine a_goto (tgt := 1504) hB dL_law_722 (by decide) ?_
    exact aW_widen (by omega) (by omega) (aW_at [0, 1, 2, 3, 4, 5] rfl rfl rfl (kk _ _ _ _ _ hLW))
  · refine a_aload_n hB dL_law_710 rfl ?_
    refine a_iconstN (v := 0) hB dL_law_711 (by decide) ?_
    refine a_laload0 hB dL_law_712 0 rfl (hfp c9) ?_
    refine a_iload hB dL_law_713 rfl ?_
    refine a_i2l hB dL_law_715 ?_
    refine a_lcmp hB dL_law_716 ?_
    refine a_if_eq_t (tgt := 722) hB dL_law_717 (by decide) (lg_self _) ?_
    refine a_goto (tgt := 1504) hB dL_law_722 (by decide) ?_
    exact aW_widen (by omega) (by omega) (aW_at [0, 1, 2, 3, 4, 5] rfl rfl rfl (kk _ _ _ _ _ hLW))
set_option maxHeartbeats 4000000 in
set_option maxRecDepth 100000 in
theorem lc_clearBuffer {G : GP} {B : Bd} {b Ln : Nat} {xs : Nat → Int32} (hX : LCtx G B b Ln xs) {x0 m0 oa od i k n : Nat} (hi : i + 4 ≤ Ln) (hk : k + 20 ≤ 601024) (hn : n + 200 ≤ 7293034) (kk : LAt G B b x0 m0 oa od i 1504 (k + 20) (n + 200)) : LAt G B b x0 m0 oa od i 725 k n := by
  intro th wC wN fo fd hW
  obtain ⟨hB, hR, hXs, hbl, hbA, hLn, hF⟩ := hX
  obtain ⟨bv, W, V, mc, ms, CQ, MQ, ⟨bq, rfl⟩, hmc, hms, hp, ⟨fsw, hw0⟩, hA, hMm, ⟨fsm, hx0⟩, hf⟩ := st_clearBuffer hW
  refine a_aload_n hB dL_law_725 rfl ?_
  refine a_callVp (ci := 9) hB hA mk_X9_clearBuffer ml_L_121 dL_law_726 rfl rfl (pm_c hp) rfl hw0 (fit_of hR ⟨by decide, by decide, by omega, by omega⟩) (Nat.le_of_ble_eq_true rfl) (fun v9 w9 hq => ?_)
  obtain ⟨rfl, hcq⟩ := hq
  refine aW_perm pm_c' ?_
  refine a_aload_n hB dL_law_729 rfl ?_
  refine a_callVp (ci := 10) hB hMm mk_X10_clearBuffer ml_L_124 dL_law_730 rfl rfl pm_m rfl hx0 (fit_of hR ⟨by decide, by decide, by omega, by omega⟩) (Nat.le_of_ble_eq_true rfl) (fun v9 w8 hq => ?_)
  obtain ⟨rfl, hmq⟩ := hq
  obtain ⟨wD, th9, hpd, hLW⟩ := hf _ _ hcq hmq
  refine aW_perm (pm_m' hpd) ?_
  refine a_icmp_eq_t (tgt := 1504) hB dL_law_733 (by decide) rfl ?_
  exact aW_widen (by omega) (by omega) (aW_at [0, 1, 2, 3, 4, 5] rfl rfl rfl (kk _ _ _ _ _ hLW))
set_option maxHeartbeats 4000000 in
set_option maxRecDepth 100000 in
theorem lc_firstError {G : GP} {B : Bd} {b Ln : Nat} {xs : Nat → Int32} (hX : LCtx G B b Ln xs) {x0 m0 oa od i k n : Nat} (hi : i + 4 ≤ Ln) (hk : k + 20 ≤ 601024) (hn : n + 200 ≤ 7293034) (kk : LAt G B b x0 m0 oa od i 1504 (k + 20) (n + 200)) : LAt G B b x0 m0 oa od i 738 k n := by
  intro th wC wN fo fd hW
  obtain ⟨hB, hR, hXs, hbl, hbA, hLn, hF⟩ := hX
  obtain ⟨bv, W, V, mc, ms, CQ, MQ, ⟨bq, rfl⟩, hmc, hms, hp, ⟨fsw, hw0⟩, hA, hMm, ⟨fsm, hx0⟩, hf⟩ := st_firstError hW
  refine a_aload_n hB dL_law_738 rfl ?_
  refine a_callVp (ci := 9) hB hA mk_X9_firstError ml_L_125 dL_law_739 rfl rfl (pm_c hp) rfl hw0 (fit_of hR ⟨by decide, by decide, by omega, by omega⟩) (Nat.le_of_ble_eq_true rfl) (fun v9 w9 hq => ?_)
  obtain ⟨rfl, hcq⟩ := hq
  refine aW_perm pm_c' ?_
  refine a_aload_n hB dL_law_742 rfl ?_
  refine a_callVp (ci := 10) hB hMm mk_X10_firstError ml_L_128 dL_law_743 rfl rfl pm_m rfl hx0 (fit_of hR ⟨by decide, by decide, by omega, by omega⟩) (Nat.le_of_ble_eq_true rfl) (fun v9 w8 hq => ?_)
  obtain ⟨rfl, hmq⟩ := hq
  obtain ⟨wD, th9, hpd, hLW⟩ := hf _ _ hcq hmq
  refine aW_perm (pm_m' hpd) ?_
  refine a_icmp_eq_t (tgt := 1504) hB dL_law_746 (by decide) rfl ?_
  exact aW_widen (by omega) (by omega) (aW_at [0, 1, 2, 3, 4, 5] rfl rfl rfl (kk _ _ _ _ _ hLW))
set_option maxHeartbeats 4000000 in
set_option maxRecDepth 100000 in
theorem lc_addAll {G : GP} {B : Bd} {b Ln : Nat} {xs : Nat → Int32} (hX : LCtx G B b Ln xs) {x0 m0 oa od i k n : Nat} (hi : i + 4 ≤ Ln) (hk : k + 20 ≤ 601024) (hn : n + 200 ≤ 7293034) (kk : LAt G B b x0 m0 oa od i 1504 (k + 20) (n + 200)) : LAt G B b x0 m0 oa od i 751 k n := by
  intro th wC wN fo fd hW
  obtain ⟨hB, hR, hXs, hbl, hbA, hLn, hF⟩ := hX
  obtain ⟨kq, bq, W, V, mc, ms, CQ, MQ, hk4, hmc, hms, hp, hA, hMm, ⟨fsm, hx0⟩, hf⟩ := st_addAll hF hW (oa := oa) 
  refine a_aload_n hB dL_law_751 rfl ?_
  refine a_aload_n hB dL_law_752 rfl ?_
  refine a_callSHp hB (hA fo) mk_L_addAll ml_L_129 dL_law_753 rfl rfl (pm_o hp) (fit_of hR ⟨by decide, by decide, by omega, by omega⟩) (Nat.le_of_ble_eq_true rfl) (fun v9 w8 hq => ?_)
  obtain ⟨rfl, fp, w9, rfl, hfp, hcq⟩ := hq
  refine aW_perm pm_o' ?_
  refine a_istore hB dL_law_756 (by decide) ?_
  refine a_aload_n hB dL_law_758 rfl ?_
  refine a_callVp (ci := 10) hB hMm mk_X10_addAll ml_L_132 dL_law_759 rfl rfl pm_m rfl hx0 (fit_of hR ⟨by decide, by decide, by omega, by omega⟩) (Nat.le_of_ble_eq_true rfl) (fun v9 w8 hq => ?_)
  obtain ⟨rfl, hmq⟩ := hq
  obtain ⟨wD, hpd, hLW⟩ := hf _ _ hcq hmq
  refine aW_perm (pm_m' hpd) ?_
  refine a_istore hB dL_law_762 (by decide) ?_
  refine a_aload_n hB dL_law_764 rfl ?_
  obtain ⟨fs2, hx2⟩ := hLW.x
  refine a_callVp (ci := 10) hB hLW.thrown mk_X10_thrown ml_L_89 dL_law_765 rfl rfl pm_m rfl hx2 (fit_of hR ⟨by decide, by decide, by omega, by omega⟩) (Nat.le_of_ble_eq_true rfl) (fun v9 w8 hq => ?_)
  obtain ⟨rfl, rfl⟩ := hq
  refine aW_perm (pm_m' (List.Perm.refl _)) ?_
  refine a_iload hB dL_law_768 rfl ?_
  refine a_icmp_eq_t (tgt := 775) hB dL_law_770 (by decide) rfl ?_
  refine a_iload hB dL_law_775 rfl ?_
  refine a_if_neN (tgt := 792) hB dL_law_777 (by decide) (by omega) (fun c9 => ?_) (fun c9 => ?_)
  · refine a_goto (tgt := 1504) hB dL_law_792 (by decide) ?_
    exact aW_widen (by omega) (by omega) (aW_at [0, 1, 2, 3, 4, 5] rfl rfl rfl (kk _ _ _ _ _ hLW))
  · refine a_aload_n hB dL_law_780 rfl ?_
    refine a_iconstN (v := 0) hB dL_law_781 (by decide) ?_
    refine a_laload0 hB dL_law_782 0 rfl (hfp c9) ?_
    refine a_iload hB dL_law_783 rfl ?_
    refine a_i2l hB dL_law_785 ?_
    refine a_lcmp hB dL_law_786 ?_
    refine a_if_eq_t (tgt := 792) hB dL_law_787 (by decide) (lg_self _) ?_
    refine a_goto (tgt := 1504) hB dL_law_792 (by decide) ?_
    exact aW_widen (by omega) (by omega) (aW_at [0, 1, 2, 3, 4, 5] rfl rfl rfl (kk _ _ _ _ _ hLW))
set_option maxHeartbeats 4000000 in
set_option maxRecDepth 100000 in
theorem lc_undo {G : GP} {B : Bd} {b Ln : Nat} {xs : Nat → Int32} (hX : LCtx G B b Ln xs) {x0 m0 oa od i k n : Nat} (hi : i + 4 ≤ Ln) (hk : k + 20 ≤ 601024) (hn : n + 200 ≤ 7293034) (kk : LAt G B b x0 m0 oa od i 1504 (k + 20) (n + 200)) : LAt G B b x0 m0 oa od i 795 k n := by
  intro th wC wN fo fd hW
  obtain ⟨hB, hR, hXs, hbl, hbA, hLn, hF⟩ := hX
  obtain ⟨kq, bq, W, V, mc, ms, CQ, MQ, hk4, hmc, hms, hp, hA, hMm, ⟨fsm, hx0⟩, hf⟩ := st_undo hF hW (oa := oa) 
  refine a_aload_n hB dL_law_795 rfl ?_
  refine a_aload_n hB dL_law_796 rfl ?_
  refine a_callSHp hB (hA fo) mk_L_undo ml_L_133 dL_law_797 rfl rfl (pm_o hp) (fit_of hR ⟨by decide, by decide, by omega, by omega⟩) (Nat.le_of_ble_eq_true rfl) (fun v9 w8 hq => ?_)
  obtain ⟨rfl, fp, w9, rfl, hfp, hcq⟩ := hq
  refine aW_perm pm_o' ?_
  refine a_istore hB dL_law_800 (by decide) ?_
  refine a_aload_n hB dL_law_802 rfl ?_
  refine a_callVp (ci := 10) hB hMm mk_X10_undo ml_L_135 dL_law_803 rfl rfl pm_m rfl hx0 (fit_of hR ⟨by decide, by decide, by omega, by omega⟩) (Nat.le_of_ble_eq_true rfl) (fun v9 w8 hq => ?_)
  obtain ⟨rfl, hmq⟩ := hq
  obtain ⟨wD, hpd, hLW⟩ := hf _ _ hcq hmq
  refine aW_perm (pm_m' hpd) ?_
  refine a_istore hB dL_law_806 (by decide) ?_
  refine a_aload_n hB dL_law_808 rfl ?_
  obtain ⟨fs2, hx2⟩ := hLW.x
  refine a_callVp (ci := 10) hB hLW.thrown mk_X10_thrown ml_L_89 dL_law_809 rfl rfl pm_m rfl hx2 (fit_of hR ⟨by decide, by decide, by omega, by omega⟩) (Nat.le_of_ble_eq_true rfl) (fun v9 w8 hq => ?_)
  obtain ⟨rfl, rfl⟩ := hq
  refine aW_perm (pm_m' (List.Perm.refl _)) ?_
  refine a_iload hB dL_law_812 rfl ?_
  refine a_icmp_eq_t (tgt := 819) hB dL_law_814 (by decide) rfl ?_
  refine a_iload hB dL_law_819 rfl ?_
  refine a_if_neN (tgt := 836) hB dL_law_821 (by decide) (by omega) (fun c9 => ?_) (fun c9 => ?_)
  · refine a_goto (tgt := 1504) hB dL_law_836 (by decide) ?_
    exact aW_widen (by omega) (by omega) (aW_at [0, 1, 2, 3, 4, 5] rfl rfl rfl (kk _ _ _ _ _ hLW))
  · refine a_aload_n hB dL_law_824 rfl ?_
    refine a_iconstN (v := 0) hB dL_law_825 (by decide) ?_
    refine a_laload0 hB dL_law_826 0 rfl (hfp c9) ?_
    refine a_iload hB dL_law_827 rfl ?_
    refine a_i2l hB dL_law_829 ?_
    refine a_lcmp hB dL_law_830 ?_
    refine a_if_eq_t (tgt := 836) hB dL_law_831 (by decide) (lg_self _) ?_
    refine a_goto (tgt := 1504) hB dL_law_836 (by decide) ?_
    exact aW_widen (by omega) (by omega) (aW_at [0, 1, 2, 3, 4, 5] rfl rfl rfl (kk _ _ _ _ _ hLW))
