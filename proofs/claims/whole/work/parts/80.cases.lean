/-! THE LAW'S CASES -/
set_option maxHeartbeats 4000000 in
set_option maxRecDepth 100000 in
theorem cs_0 {Ls : Nat} {xs : Nat → Int32} {Φ : Rs → ah → Prop} (hLs : Ls ≤ 2560) {j : Nat} (hj : 5 * j + 5 ≤ Ls) {d : Dt} {y : Sy} (hC : CC d y) (hM : MR d y) {K N : Nat} (hK : 4 ≤ K) (hN : 24 ≤ N) (kk : ∀ d' y', CC d' y' → MR d' y' → AL (SX Ls xs) mL_law 20 true Φ (K - 4) (N - 24) 2092 (lv5 j) [] (HP d')) : AL (SX Ls xs) mL_law 20 true Φ K N 192 (lv5 j) [] (HP d) := by
  refine al_aload_n dL_law_192 rfl ?_
  refine al_aload_n dL_law_193 rfl ?_
  refine al_iload dL_law_194 rfl ?_
  refine al_iconst (v := 1) dL_law_196 (by decide) ?_
  refine al_iadd dL_law_197 ?_
  refine al_sld (q := 5 * j + 1) dL_law_198 (nI_add (5 * j) 1) (by omega) hLs ?_
  refine al_aload_n dL_law_199 rfl ?_
  refine al_cSH (M' := mL_setModels) dL_law_200 oL_setModels sL_setModels lL_121 (kL_setModels hC) rfl rfl (Nat.le_of_ble_eq_true rfl) (Nat.le_of_ble_eq_true rfl) (Nat.le_of_ble_eq_true rfl) hK hN ?_
  rintro v d1 ⟨x, rfl, ⟨hL1, hC1⟩, hx1, ho1, hb1⟩
  subst hx1
  have hM1 := MR_L hM hL1
  refine al_istore dL_law_203 (by decide) rfl ?_
  refine al_aload_n dL_law_205 rfl ?_
  refine al_aload_n dL_law_206 rfl ?_
  refine al_iload dL_law_207 rfl ?_
  refine al_iconst (v := 1) dL_law_209 (by decide) ?_
  refine al_iadd dL_law_210 ?_
  refine al_sld (q := 5 * j + 1) dL_law_211 (nI_add (5 * j) 1) (by omega) hLs ?_
  refine al_cV (M' := mX8_setModels) dL_law_212 oX8_setModels vX8_setModels rfl lL_126 (kX8_setModels hM1) rfl (hp_160 _) rfl rfl rfl (Nat.le_of_ble_eq_true rfl) (Nat.le_of_ble_eq_true rfl) (Nat.le_of_ble_eq_true rfl) (Nat.zero_le _) (Nat.zero_le _) (fun _ _ z => z) ?_
  rintro v d2 ⟨x2, rfl, hf, h7, hx2, hM2⟩
  have hC2 := CC_M hC1 hf
  refine al_istore dL_law_215 (by decide) rfl ?_
  refine al_aload_n dL_law_217 rfl ?_
  refine al_cV (M' := mX8_thrown) dL_law_218 oX8_thrown vX8_thrown rfl lL_127 kX8_thrown rfl (hp_160 _) rfl rfl rfl (Nat.le_of_ble_eq_true rfl) (Nat.le_of_ble_eq_true rfl) (Nat.le_of_ble_eq_true rfl) (Nat.zero_le _) (Nat.zero_le _) (fun _ _ z => z) ?_
  rintro v d3 ⟨x3, rfl, hx3, hd3⟩
  rw [hd3, hx3, h7]
  refine al_iload dL_law_221 rfl ?_
  refine al_icmp_eq 228 dL_law_223 (by decide) (fun _ => ?_) (fun c => absurd rfl c)
  refine al_iload dL_law_228 rfl ?_
  refine al_if_ne 245 dL_law_230 (by decide) (fun _ => ?_) (fun c0 => ?_)
  · refine al_goto (tgt := 2092) dL_law_245 (by decide) ?_
    exact AL.drop (m := 6) rfl (kk _ _ hC2 hM2)
  · have ho : (oSetModels y (xs (5 * j + 1))).1 = 0 := nI_z hb1 c0
    refine al_aload_n dL_law_233 rfl ?_
    refine al_iconst (v := 0) dL_law_234 (by decide) ?_
    refine al_laldV dL_law_235 (hp_190 _) ((congrFun (fM_190 hf) 0).trans (ho1 ho)) ?_
    refine al_iload dL_law_236 rfl ?_
    refine al_i2l dL_law_238 ?_
    refine al_lcmp dL_law_239 ?_
    refine al_if_eq 245 dL_law_240 (by decide) (fun _ => ?_) (fun c => absurd (by rw [hx2 ho]; exact lgc _) c)
    refine al_goto (tgt := 2092) dL_law_245 (by decide) ?_
    exact AL.drop (m := 6) rfl (kk _ _ hC2 hM2)
set_option maxHeartbeats 4000000 in
set_option maxRecDepth 100000 in
theorem cs_1 {Ls : Nat} {xs : Nat → Int32} {Φ : Rs → ah → Prop} (hLs : Ls ≤ 2560) {j : Nat} (hj : 5 * j + 5 ≤ Ls) {d : Dt} {y : Sy} (hC : CC d y) (hM : MR d y) {K N : Nat} (hK : 4 ≤ K) (hN : 24 ≤ N) (kk : ∀ d' y', CC d' y' → MR d' y' → AL (SX Ls xs) mL_law 20 true Φ (K - 4) (N - 24) 2092 (lv5 j) [] (HP d')) : AL (SX Ls xs) mL_law 20 true Φ K N 248 (lv5 j) [] (HP d) := by
  refine al_aload_n dL_law_248 rfl ?_
  refine al_aload_n dL_law_249 rfl ?_
  refine al_iload dL_law_250 rfl ?_
  refine al_iconst (v := 1) dL_law_252 (by decide) ?_
  refine al_iadd dL_law_253 ?_
  refine al_sld (q := 5 * j + 1) dL_law_254 (nI_add (5 * j) 1) (by omega) hLs ?_
  refine al_aload_n dL_law_255 rfl ?_
  refine al_iload dL_law_256 rfl ?_
  refine al_iconst (v := 2) dL_law_258 (by decide) ?_
  refine al_iadd dL_law_259 ?_
  refine al_sld (q := 5 * j + 2) dL_law_260 (nI_add (5 * j) 2) (by omega) hLs ?_
  refine al_aload_n dL_law_261 rfl ?_
  refine al_cSH (M' := mL_setDemand) dL_law_262 oL_setDemand sL_setDemand lL_130 (kL_setDemand hC) rfl rfl (Nat.le_of_ble_eq_true rfl) (Nat.le_of_ble_eq_true rfl) (Nat.le_of_ble_eq_true rfl) hK hN ?_
  rintro v d1 ⟨x, rfl, ⟨hL1, hC1⟩, hx1, ho1, hb1⟩
  subst hx1
  have hM1 := MR_L hM hL1
  refine al_istore dL_law_265 (by decide) rfl ?_
  refine al_aload_n dL_law_267 rfl ?_
  refine al_aload_n dL_law_268 rfl ?_
  refine al_iload dL_law_269 rfl ?_
  refine al_iconst (v := 1) dL_law_271 (by decide) ?_
  refine al_iadd dL_law_272 ?_
  refine al_sld (q := 5 * j + 1) dL_law_273 (nI_add (5 * j) 1) (by omega) hLs ?_
  refine al_aload_n dL_law_274 rfl ?_
  refine al_iload dL_law_275 rfl ?_
  refine al_iconst (v := 2) dL_law_277 (by decide) ?_
  refine al_iadd dL_law_278 ?_
  refine al_sld (q := 5 * j + 2) dL_law_279 (nI_add (5 * j) 2) (by omega) hLs ?_
  refine al_cV (M' := mX8_setDemand) dL_law_280 oX8_setDemand vX8_setDemand rfl lL_133 (kX8_setDemand hM1) rfl (hp_160 _) rfl rfl rfl (Nat.le_of_ble_eq_true rfl) (Nat.le_of_ble_eq_true rfl) (Nat.le_of_ble_eq_true rfl) (Nat.zero_le _) (Nat.zero_le _) (fun _ _ z => z) ?_
  rintro v d2 ⟨x2, rfl, hf, h7, hx2, hM2⟩
  have hC2 := CC_M hC1 hf
  refine al_istore dL_law_283 (by decide) rfl ?_
  refine al_aload_n dL_law_285 rfl ?_
  refine al_cV (M' := mX8_thrown) dL_law_286 oX8_thrown vX8_thrown rfl lL_127 kX8_thrown rfl (hp_160 _) rfl rfl rfl (Nat.le_of_ble_eq_true rfl) (Nat.le_of_ble_eq_true rfl) (Nat.le_of_ble_eq_true rfl) (Nat.zero_le _) (Nat.zero_le _) (fun _ _ z => z) ?_
  rintro v d3 ⟨x3, rfl, hx3, hd3⟩
  rw [hd3, hx3, h7]
  refine al_iload dL_law_289 rfl ?_
  refine al_icmp_eq 296 dL_law_291 (by decide) (fun _ => ?_) (fun c => absurd rfl c)
  refine al_iload dL_law_296 rfl ?_
  refine al_if_ne 313 dL_law_298 (by decide) (fun _ => ?_) (fun c0 => ?_)
  · refine al_goto (tgt := 2092) dL_law_313 (by decide) ?_
    exact AL.drop (m := 6) rfl (kk _ _ hC2 hM2)
  · have ho : (oSetDemand y (xs (5 * j + 1)) (xs (5 * j + 2))).1 = 0 := nI_z hb1 c0
    refine al_aload_n dL_law_301 rfl ?_
    refine al_iconst (v := 0) dL_law_302 (by decide) ?_
    refine al_laldV dL_law_303 (hp_190 _) ((congrFun (fM_190 hf) 0).trans (ho1 ho)) ?_
    refine al_iload dL_law_304 rfl ?_
    refine al_i2l dL_law_306 ?_
    refine al_lcmp dL_law_307 ?_
    refine al_if_eq 313 dL_law_308 (by decide) (fun _ => ?_) (fun c => absurd (by rw [hx2 ho]; exact lgc _) c)
    refine al_goto (tgt := 2092) dL_law_313 (by decide) ?_
    exact AL.drop (m := 6) rfl (kk _ _ hC2 hM2)
set_option maxHeartbeats 4000000 in
set_option maxRecDepth 100000 in
theorem cs_2 {Ls : Nat} {xs : Nat → Int32} {Φ : Rs → ah → Prop} (hLs : Ls ≤ 2560) {j : Nat} (hj : 5 * j + 5 ≤ Ls) {d : Dt} {y : Sy} (hC : CC d y) (hM : MR d y) {K N : Nat} (hK : 4 ≤ K) (hN : 24 ≤ N) (kk : ∀ d' y', CC d' y' → MR d' y' → AL (SX Ls xs) mL_law 20 true Φ (K - 4) (N - 24) 2092 (lv5 j) [] (HP d')) : AL (SX Ls xs) mL_law 20 true Φ K N 316 (lv5 j) [] (HP d) := by
  refine al_aload_n dL_law_316 rfl ?_
  refine al_aload_n dL_law_317 rfl ?_
  refine al_iload dL_law_318 rfl ?_
  refine al_iconst (v := 1) dL_law_320 (by decide) ?_
  refine al_iadd dL_law_321 ?_
  refine al_sld (q := 5 * j + 1) dL_law_322 (nI_add (5 * j) 1) (by omega) hLs ?_
  refine al_aload_n dL_law_323 rfl ?_
  refine al_iload dL_law_324 rfl ?_
  refine al_iconst (v := 2) dL_law_326 (by decide) ?_
  refine al_iadd dL_law_327 ?_
  refine al_sld (q := 5 * j + 2) dL_law_328 (nI_add (5 * j) 2) (by omega) hLs ?_
  refine al_aload_n dL_law_329 rfl ?_
  refine al_cSH (M' := mL_setRule) dL_law_330 oL_setRule sL_setRule lL_134 (kL_setRule hC) rfl rfl (Nat.le_of_ble_eq_true rfl) (Nat.le_of_ble_eq_true rfl) (Nat.le_of_ble_eq_true rfl) hK hN ?_
  rintro v d1 ⟨x, rfl, ⟨hL1, hC1⟩, hx1, ho1, hb1⟩
  subst hx1
  have hM1 := MR_L hM hL1
  refine al_istore dL_law_333 (by decide) rfl ?_
  refine al_aload_n dL_law_335 rfl ?_
  refine al_aload_n dL_law_336 rfl ?_
  refine al_iload dL_law_337 rfl ?_
  refine al_iconst (v := 1) dL_law_339 (by decide) ?_
  refine al_iadd dL_law_340 ?_
  refine al_sld (q := 5 * j + 1) dL_law_341 (nI_add (5 * j) 1) (by omega) hLs ?_
  refine al_aload_n dL_law_342 rfl ?_
  refine al_iload dL_law_343 rfl ?_
  refine al_iconst (v := 2) dL_law_345 (by decide) ?_
  refine al_iadd dL_law_346 ?_
  refine al_sld (q := 5 * j + 2) dL_law_347 (nI_add (5 * j) 2) (by omega) hLs ?_
  refine al_cV (M' := mX8_setRule) dL_law_348 oX8_setRule vX8_setRule rfl lL_136 (kX8_setRule hM1) rfl (hp_160 _) rfl rfl rfl (Nat.le_of_ble_eq_true rfl) (Nat.le_of_ble_eq_true rfl) (Nat.le_of_ble_eq_true rfl) (Nat.zero_le _) (Nat.zero_le _) (fun _ _ z => z) ?_
  rintro v d2 ⟨x2, rfl, hf, h7, hx2, hM2⟩
  have hC2 := CC_M hC1 hf
  refine al_istore dL_law_351 (by decide) rfl ?_
  refine al_aload_n dL_law_353 rfl ?_
  refine al_cV (M' := mX8_thrown) dL_law_354 oX8_thrown vX8_thrown rfl lL_127 kX8_thrown rfl (hp_160 _) rfl rfl rfl (Nat.le_of_ble_eq_true rfl) (Nat.le_of_ble_eq_true rfl) (Nat.le_of_ble_eq_true rfl) (Nat.zero_le _) (Nat.zero_le _) (fun _ _ z => z) ?_
  rintro v d3 ⟨x3, rfl, hx3, hd3⟩
  rw [hd3, hx3, h7]
  refine al_iload dL_law_357 rfl ?_
  refine al_icmp_eq 364 dL_law_359 (by decide) (fun _ => ?_) (fun c => absurd rfl c)
  refine al_iload dL_law_364 rfl ?_
  refine al_if_ne 381 dL_law_366 (by decide) (fun _ => ?_) (fun c0 => ?_)
  · refine al_goto (tgt := 2092) dL_law_381 (by decide) ?_
    exact AL.drop (m := 6) rfl (kk _ _ hC2 hM2)
  · have ho : (oSetRule y (xs (5 * j + 1)) (xs (5 * j + 2))).1 = 0 := nI_z hb1 c0
    refine al_aload_n dL_law_369 rfl ?_
    refine al_iconst (v := 0) dL_law_370 (by decide) ?_
    refine al_laldV dL_law_371 (hp_190 _) ((congrFun (fM_190 hf) 0).trans (ho1 ho)) ?_
    refine al_iload dL_law_372 rfl ?_
    refine al_i2l dL_law_374 ?_
    refine al_lcmp dL_law_375 ?_
    refine al_if_eq 381 dL_law_376 (by decide) (fun _ => ?_) (fun c => absurd (by rw [hx2 ho]; exact lgc _) c)
    refine al_goto (tgt := 2092) dL_law_381 (by decide) ?_
    exact AL.drop (m := 6) rfl (kk _ _ hC2 hM2)
set_option maxHeartbeats 4000000 in
set_option maxRecDepth 100000 in
theorem cs_3 {Ls : Nat} {xs : Nat → Int32} {Φ : Rs → ah → Prop} (hLs : Ls ≤ 2560) {j : Nat} (hj : 5 * j + 5 ≤ Ls) {d : Dt} {y : Sy} (hC : CC d y) (hM : MR d y) {K N : Nat} (hK : 4 ≤ K) (hN : 24 ≤ N) (kk : ∀ d' y', CC d' y' → MR d' y' → AL (SX Ls xs) mL_law 20 true Φ (K - 4) (N - 24) 2092 (lv5 j) [] (HP d')) : AL (SX Ls xs) mL_law 20 true Φ K N 384 (lv5 j) [] (HP d) := by
  refine al_aload_n dL_law_384 rfl ?_
  refine al_aload_n dL_law_385 rfl ?_
  refine al_iload dL_law_386 rfl ?_
  refine al_iconst (v := 1) dL_law_388 (by decide) ?_
  refine al_iadd dL_law_389 ?_
  refine al_sld (q := 5 * j + 1) dL_law_390 (nI_add (5 * j) 1) (by omega) hLs ?_
  refine al_aload_n dL_law_391 rfl ?_
  refine al_cSH (M' := mL_rule) dL_law_392 oL_rule sL_rule lL_137 (kL_rule hC) rfl rfl (Nat.le_of_ble_eq_true rfl) (Nat.le_of_ble_eq_true rfl) (Nat.le_of_ble_eq_true rfl) hK hN ?_
  rintro v d1 ⟨x, rfl, ⟨hL1, hC1⟩, hx1, ho1, hb1⟩
  subst hx1
  have hM1 := MR_L hM hL1
  refine al_istore dL_law_395 (by decide) rfl ?_
  refine al_aload_n dL_law_397 rfl ?_
  refine al_aload_n dL_law_398 rfl ?_
  refine al_iload dL_law_399 rfl ?_
  refine al_iconst (v := 1) dL_law_401 (by decide) ?_
  refine al_iadd dL_law_402 ?_
  refine al_sld (q := 5 * j + 1) dL_law_403 (nI_add (5 * j) 1) (by omega) hLs ?_
  refine al_cV (M' := mX8_rule) dL_law_404 oX8_rule vX8_rule rfl lL_139 (kX8_rule hM1) rfl (hp_160 _) rfl rfl rfl (Nat.le_of_ble_eq_true rfl) (Nat.le_of_ble_eq_true rfl) (Nat.le_of_ble_eq_true rfl) (Nat.zero_le _) (Nat.zero_le _) (fun _ _ z => z) ?_
  rintro v d2 ⟨x2, rfl, hf, h7, hx2, hM2⟩
  have hC2 := CC_M hC1 hf
  refine al_istore dL_law_407 (by decide) rfl ?_
  refine al_aload_n dL_law_409 rfl ?_
  refine al_cV (M' := mX8_thrown) dL_law_410 oX8_thrown vX8_thrown rfl lL_127 kX8_thrown rfl (hp_160 _) rfl rfl rfl (Nat.le_of_ble_eq_true rfl) (Nat.le_of_ble_eq_true rfl) (Nat.le_of_ble_eq_true rfl) (Nat.zero_le _) (Nat.zero_le _) (fun _ _ z => z) ?_
  rintro v d3 ⟨x3, rfl, hx3, hd3⟩
  rw [hd3, hx3, h7]
  refine al_iload dL_law_413 rfl ?_
  refine al_icmp_eq 420 dL_law_415 (by decide) (fun _ => ?_) (fun c => absurd rfl c)
  refine al_iload dL_law_420 rfl ?_
  refine al_if_ne 437 dL_law_422 (by decide) (fun _ => ?_) (fun c0 => ?_)
  · refine al_goto (tgt := 2092) dL_law_437 (by decide) ?_
    exact AL.drop (m := 6) rfl (kk _ _ hC2 hM2)
  · have ho : (oRule y (xs (5 * j + 1))).1 = 0 := nI_z hb1 c0
    refine al_aload_n dL_law_425 rfl ?_
    refine al_iconst (v := 0) dL_law_426 (by decide) ?_
    refine al_laldV dL_law_427 (hp_190 _) ((congrFun (fM_190 hf) 0).trans (ho1 ho)) ?_
    refine al_iload dL_law_428 rfl ?_
    refine al_i2l dL_law_430 ?_
    refine al_lcmp dL_law_431 ?_
    refine al_if_eq 437 dL_law_432 (by decide) (fun _ => ?_) (fun c => absurd (by rw [hx2 ho]; exact lgc _) c)
    refine al_goto (tgt := 2092) dL_law_437 (by decide) ?_
    exact AL.drop (m := 6) rfl (kk _ _ hC2 hM2)
set_option maxHeartbeats 4000000 in
set_option maxRecDepth 100000 in
theorem cs_4 {Ls : Nat} {xs : Nat → Int32} {Φ : Rs → ah → Prop} (hLs : Ls ≤ 2560) {j : Nat} (hj : 5 * j + 5 ≤ Ls) {d : Dt} {y : Sy} (hC : CC d y) (hM : MR d y) {K N : Nat} (hK : 4 ≤ K) (hN : 24 ≤ N) (kk : ∀ d' y', CC d' y' → MR d' y' → AL (SX Ls xs) mL_law 20 true Φ (K - 4) (N - 24) 2092 (lv5 j) [] (HP d')) : AL (SX Ls xs) mL_law 20 true Φ K N 440 (lv5 j) [] (HP d) := by
  refine al_aload_n dL_law_440 rfl ?_
  refine al_aload_n dL_law_441 rfl ?_
  refine al_iload dL_law_442 rfl ?_
  refine al_iconst (v := 1) dL_law_444 (by decide) ?_
  refine al_iadd dL_law_445 ?_
  refine al_sld (q := 5 * j + 1) dL_law_446 (nI_add (5 * j) 1) (by omega) hLs ?_
  refine al_aload_n dL_law_447 rfl ?_
  refine al_iload dL_law_448 rfl ?_
  refine al_iconst (v := 2) dL_law_450 (by decide) ?_
  refine al_iadd dL_law_451 ?_
  refine al_sld (q := 5 * j + 2) dL_law_452 (nI_add (5 * j) 2) (by omega) hLs ?_
  refine al_aload_n dL_law_453 rfl ?_
  refine al_cSH (M' := mL_setCopies) dL_law_454 oL_setCopies sL_setCopies lL_140 (kL_setCopies hC) rfl rfl (Nat.le_of_ble_eq_true rfl) (Nat.le_of_ble_eq_true rfl) (Nat.le_of_ble_eq_true rfl) hK hN ?_
  rintro v d1 ⟨x, rfl, ⟨hL1, hC1⟩, hx1, ho1, hb1⟩
  subst hx1
  have hM1 := MR_L hM hL1
  refine al_istore dL_law_457 (by decide) rfl ?_
  refine al_aload_n dL_law_459 rfl ?_
  refine al_aload_n dL_law_460 rfl ?_
  refine al_iload dL_law_461 rfl ?_
  refine al_iconst (v := 1) dL_law_463 (by decide) ?_
  refine al_iadd dL_law_464 ?_
  refine al_sld (q := 5 * j + 1) dL_law_465 (nI_add (5 * j) 1) (by omega) hLs ?_
  refine al_aload_n dL_law_466 rfl ?_
  refine al_iload dL_law_467 rfl ?_
  refine al_iconst (v := 2) dL_law_469 (by decide) ?_
  refine al_iadd dL_law_470 ?_
  refine al_sld (q := 5 * j + 2) dL_law_471 (nI_add (5 * j) 2) (by omega) hLs ?_
  refine al_cV (M' := mX8_setCopies) dL_law_472 oX8_setCopies vX8_setCopies rfl lL_142 (kX8_setCopies hM1) rfl (hp_160 _) rfl rfl rfl (Nat.le_of_ble_eq_true rfl) (Nat.le_of_ble_eq_true rfl) (Nat.le_of_ble_eq_true rfl) (Nat.zero_le _) (Nat.zero_le _) (fun _ _ z => z) ?_
  rintro v d2 ⟨x2, rfl, hf, h7, hx2, hM2⟩
  have hC2 := CC_M hC1 hf
  refine al_istore dL_law_475 (by decide) rfl ?_
  refine al_aload_n dL_law_477 rfl ?_
  refine al_cV (M' := mX8_thrown) dL_law_478 oX8_thrown vX8_thrown rfl lL_127 kX8_thrown rfl (hp_160 _) rfl rfl rfl (Nat.le_of_ble_eq_true rfl) (Nat.le_of_ble_eq_true rfl) (Nat.le_of_ble_eq_true rfl) (Nat.zero_le _) (Nat.zero_le _) (fun _ _ z => z) ?_
  rintro v d3 ⟨x3, rfl, hx3, hd3⟩
  rw [hd3, hx3, h7]
  refine al_iload dL_law_481 rfl ?_
  refine al_icmp_eq 488 dL_law_483 (by decide) (fun _ => ?_) (fun c => absurd rfl c)
  refine al_iload dL_law_488 rfl ?_
  refine al_if_ne 505 dL_law_490 (by decide) (fun _ => ?_) (fun c0 => ?_)
  · refine al_goto (tgt := 2092) dL_law_505 (by decide) ?_
    exact AL.drop (m := 6) rfl (kk _ _ hC2 hM2)
  · have ho : (oSetCopies y (xs (5 * j + 1)) (xs (5 * j + 2))).1 = 0 := nI_z hb1 c0
    refine al_aload_n dL_law_493 rfl ?_
    refine al_iconst (v := 0) dL_law_494 (by decide) ?_
    refine al_laldV dL_law_495 (hp_190 _) ((congrFun (fM_190 hf) 0).trans (ho1 ho)) ?_
    refine al_iload dL_law_496 rfl ?_
    refine al_i2l dL_law_498 ?_
    refine al_lcmp dL_law_499 ?_
    refine al_if_eq 505 dL_law_500 (by decide) (fun _ => ?_) (fun c => absurd (by rw [hx2 ho]; exact lgc _) c)
    refine al_goto (tgt := 2092) dL_law_505 (by decide) ?_
    exact AL.drop (m := 6) rfl (kk _ _ hC2 hM2)
set_option maxHeartbeats 4000000 in
set_option maxRecDepth 100000 in
theorem cs_5 {Ls : Nat} {xs : Nat → Int32} {Φ : Rs → ah → Prop} (hLs : Ls ≤ 2560) {j : Nat} (hj : 5 * j + 5 ≤ Ls) {d : Dt} {y : Sy} (hC : CC d y) (hM : MR d y) {K N : Nat} (hK : 4 ≤ K) (hN : 24 ≤ N) (kk : ∀ d' y', CC d' y' → MR d' y' → AL (SX Ls xs) mL_law 20 true Φ (K - 4) (N - 24) 2092 (lv5 j) [] (HP d')) : AL (SX Ls xs) mL_law 20 true Φ K N 508 (lv5 j) [] (HP d) := by
  refine al_aload_n dL_law_508 rfl ?_
  refine al_aload_n dL_law_509 rfl ?_
  refine al_iload dL_law_510 rfl ?_
  refine al_iconst (v := 1) dL_law_512 (by decide) ?_
  refine al_iadd dL_law_513 ?_
  refine al_sld (q := 5 * j + 1) dL_law_514 (nI_add (5 * j) 1) (by omega) hLs ?_
  refine al_aload_n dL_law_515 rfl ?_
  refine al_iload dL_law_516 rfl ?_
  refine al_iconst (v := 2) dL_law_518 (by decide) ?_
  refine al_iadd dL_law_519 ?_
  refine al_sld (q := 5 * j + 2) dL_law_520 (nI_add (5 * j) 2) (by omega) hLs ?_
  refine al_aload_n dL_law_521 rfl ?_
  refine al_iload dL_law_522 rfl ?_
  refine al_iconst (v := 3) dL_law_524 (by decide) ?_
  refine al_iadd dL_law_525 ?_
  refine al_sld (q := 5 * j + 3) dL_law_526 (nI_add (5 * j) 3) (by omega) hLs ?_
  refine al_aload_n dL_law_527 rfl ?_
  refine al_iload dL_law_528 rfl ?_
  refine al_iconst (v := 4) dL_law_530 (by decide) ?_
  refine al_iadd dL_law_531 ?_
  refine al_sld (q := 5 * j + 4) dL_law_532 (nI_add (5 * j) 4) (by omega) hLs ?_
  refine al_aload_n dL_law_533 rfl ?_
  refine al_cSH (M' := mL_addTask) dL_law_534 oL_addTask sL_addTask lL_143 (kL_addTask hC) rfl rfl (Nat.le_of_ble_eq_true rfl) (Nat.le_of_ble_eq_true rfl) (Nat.le_of_ble_eq_true rfl) hK hN ?_
  rintro v d1 ⟨x, rfl, ⟨hL1, hC1⟩, hx1, ho1, hb1⟩
  subst hx1
  have hM1 := MR_L hM hL1
  refine al_istore dL_law_537 (by decide) rfl ?_
  refine al_aload_n dL_law_539 rfl ?_
  refine al_aload_n dL_law_540 rfl ?_
  refine al_iload dL_law_541 rfl ?_
  refine al_iconst (v := 1) dL_law_543 (by decide) ?_
  refine al_iadd dL_law_544 ?_
  refine al_sld (q := 5 * j + 1) dL_law_545 (nI_add (5 * j) 1) (by omega) hLs ?_
  refine al_aload_n dL_law_546 rfl ?_
  refine al_iload dL_law_547 rfl ?_
  refine al_iconst (v := 2) dL_law_549 (by decide) ?_
  refine al_iadd dL_law_550 ?_
  refine al_sld (q := 5 * j + 2) dL_law_551 (nI_add (5 * j) 2) (by omega) hLs ?_
  refine al_aload_n dL_law_552 rfl ?_
  refine al_iload dL_law_553 rfl ?_
  refine al_iconst (v := 3) dL_law_555 (by decide) ?_
  refine al_iadd dL_law_556 ?_
  refine al_sld (q := 5 * j + 3) dL_law_557 (nI_add (5 * j) 3) (by omega) hLs ?_
  refine al_aload_n dL_law_558 rfl ?_
  refine al_iload dL_law_559 rfl ?_
  refine al_iconst (v := 4) dL_law_561 (by decide) ?_
  refine al_iadd dL_law_562 ?_
  refine al_sld (q := 5 * j + 4) dL_law_563 (nI_add (5 * j) 4) (by omega) hLs ?_
  refine al_cV (M' := mX8_addTask) dL_law_564 oX8_addTask vX8_addTask rfl lL_146 (kX8_addTask hM1) rfl (hp_160 _) rfl rfl rfl (Nat.le_of_ble_eq_true rfl) (Nat.le_of_ble_eq_true rfl) (Nat.le_of_ble_eq_true rfl) (Nat.zero_le _) (Nat.zero_le _) (fun _ _ z => z) ?_
  rintro v d2 ⟨x2, rfl, hf, h7, hx2, hM2⟩
  have hC2 := CC_M hC1 hf
  refine al_istore dL_law_567 (by decide) rfl ?_
  refine al_aload_n dL_law_569 rfl ?_
  refine al_cV (M' := mX8_thrown) dL_law_570 oX8_thrown vX8_thrown rfl lL_127 kX8_thrown rfl (hp_160 _) rfl rfl rfl (Nat.le_of_ble_eq_true rfl) (Nat.le_of_ble_eq_true rfl) (Nat.le_of_ble_eq_true rfl) (Nat.zero_le _) (Nat.zero_le _) (fun _ _ z => z) ?_
  rintro v d3 ⟨x3, rfl, hx3, hd3⟩
  rw [hd3, hx3, h7]
  refine al_iload dL_law_573 rfl ?_
  refine al_icmp_eq 580 dL_law_575 (by decide) (fun _ => ?_) (fun c => absurd rfl c)
  refine al_iload dL_law_580 rfl ?_
  refine al_if_ne 597 dL_law_582 (by decide) (fun _ => ?_) (fun c0 => ?_)
  · refine al_goto (tgt := 2092) dL_law_597 (by decide) ?_
    exact AL.drop (m := 6) rfl (kk _ _ hC2 hM2)
  · have ho : (oAddTask y (xs (5 * j + 1)) (xs (5 * j + 2)) (xs (5 * j + 3)) (xs (5 * j + 4))).1 = 0 := nI_z hb1 c0
    refine al_aload_n dL_law_585 rfl ?_
    refine al_iconst (v := 0) dL_law_586 (by decide) ?_
    refine al_laldV dL_law_587 (hp_190 _) ((congrFun (fM_190 hf) 0).trans (ho1 ho)) ?_
    refine al_iload dL_law_588 rfl ?_
    refine al_i2l dL_law_590 ?_
    refine al_lcmp dL_law_591 ?_
    refine al_if_eq 597 dL_law_592 (by decide) (fun _ => ?_) (fun c => absurd (by rw [hx2 ho]; exact lgc _) c)
    refine al_goto (tgt := 2092) dL_law_597 (by decide) ?_
    exact AL.drop (m := 6) rfl (kk _ _ hC2 hM2)
set_option maxHeartbeats 4000000 in
set_option maxRecDepth 100000 in
theorem cs_6 {Ls : Nat} {xs : Nat → Int32} {Φ : Rs → ah → Prop} (hLs : Ls ≤ 2560) {j : Nat} (hj : 5 * j + 5 ≤ Ls) {d : Dt} {y : Sy} (hC : CC d y) (hM : MR d y) {K N : Nat} (hK : 4 ≤ K) (hN : 24 ≤ N) (kk : ∀ d' y', CC d' y' → MR d' y' → AL (SX Ls xs) mL_law 20 true Φ (K - 4) (N - 24) 2092 (lv5 j) [] (HP d')) : AL (SX Ls xs) mL_law 20 true Φ K N 600 (lv5 j) [] (HP d) := by
  refine al_aload_n dL_law_600 rfl ?_
  refine al_aload_n dL_law_601 rfl ?_
  refine al_iload dL_law_602 rfl ?_
  refine al_iconst (v := 1) dL_law_604 (by decide) ?_
  refine al_iadd dL_law_605 ?_
  refine al_sld (q := 5 * j + 1) dL_law_606 (nI_add (5 * j) 1) (by omega) hLs ?_
  refine al_aload_n dL_law_607 rfl ?_
  refine al_iload dL_law_608 rfl ?_
  refine al_iconst (v := 2) dL_law_610 (by decide) ?_
  refine al_iadd dL_law_611 ?_
  refine al_sld (q := 5 * j + 2) dL_law_612 (nI_add (5 * j) 2) (by omega) hLs ?_
  refine al_aload_n dL_law_613 rfl ?_
  refine al_iload dL_law_614 rfl ?_
  refine al_iconst (v := 3) dL_law_616 (by decide) ?_
  refine al_iadd dL_law_617 ?_
  refine al_sld (q := 5 * j + 3) dL_law_618 (nI_add (5 * j) 3) (by omega) hLs ?_
  refine al_aload_n dL_law_619 rfl ?_
  refine al_cSH (M' := mL_setTime) dL_law_620 oL_setTime sL_setTime lL_147 (kL_setTime hC) rfl rfl (Nat.le_of_ble_eq_true rfl) (Nat.le_of_ble_eq_true rfl) (Nat.le_of_ble_eq_true rfl) hK hN ?_
  rintro v d1 ⟨x, rfl, ⟨hL1, hC1⟩, hx1, ho1, hb1⟩
  subst hx1
  have hM1 := MR_L hM hL1
  refine al_istore dL_law_623 (by decide) rfl ?_
  refine al_aload_n dL_law_625 rfl ?_
  refine al_aload_n dL_law_626 rfl ?_
  refine al_iload dL_law_627 rfl ?_
  refine al_iconst (v := 1) dL_law_629 (by decide) ?_
  refine al_iadd dL_law_630 ?_
  refine al_sld (q := 5 * j + 1) dL_law_631 (nI_add (5 * j) 1) (by omega) hLs ?_
  refine al_aload_n dL_law_632 rfl ?_
  refine al_iload dL_law_633 rfl ?_
  refine al_iconst (v := 2) dL_law_635 (by decide) ?_
  refine al_iadd dL_law_636 ?_
  refine al_sld (q := 5 * j + 2) dL_law_637 (nI_add (5 * j) 2) (by omega) hLs ?_
  refine al_aload_n dL_law_638 rfl ?_
  refine al_iload dL_law_639 rfl ?_
  refine al_iconst (v := 3) dL_law_641 (by decide) ?_
  refine al_iadd dL_law_642 ?_
  refine al_sld (q := 5 * j + 3) dL_law_643 (nI_add (5 * j) 3) (by omega) hLs ?_
  refine al_cV (M' := mX8_setTime) dL_law_644 oX8_setTime vX8_setTime rfl lL_150 (kX8_setTime hM1) rfl (hp_160 _) rfl rfl rfl (Nat.le_of_ble_eq_true rfl) (Nat.le_of_ble_eq_true rfl) (Nat.le_of_ble_eq_true rfl) (Nat.zero_le _) (Nat.zero_le _) (fun _ _ z => z) ?_
  rintro v d2 ⟨x2, rfl, hf, h7, hx2, hM2⟩
  have hC2 := CC_M hC1 hf
  refine al_istore dL_law_647 (by decide) rfl ?_
  refine al_aload_n dL_law_649 rfl ?_
  refine al_cV (M' := mX8_thrown) dL_law_650 oX8_thrown vX8_thrown rfl lL_127 kX8_thrown rfl (hp_160 _) rfl rfl rfl (Nat.le_of_ble_eq_true rfl) (Nat.le_of_ble_eq_true rfl) (Nat.le_of_ble_eq_true rfl) (Nat.zero_le _) (Nat.zero_le _) (fun _ _ z => z) ?_
  rintro v d3 ⟨x3, rfl, hx3, hd3⟩
  rw [hd3, hx3, h7]
  refine al_iload dL_law_653 rfl ?_
  refine al_icmp_eq 660 dL_law_655 (by decide) (fun _ => ?_) (fun c => absurd rfl c)
  refine al_iload dL_law_660 rfl ?_
  refine al_if_ne 677 dL_law_662 (by decide) (fun _ => ?_) (fun c0 => ?_)
  · refine al_goto (tgt := 2092) dL_law_677 (by decide) ?_
    exact AL.drop (m := 6) rfl (kk _ _ hC2 hM2)
  · have ho : (oSetTime y (xs (5 * j + 1)) (xs (5 * j + 2)) (xs (5 * j + 3))).1 = 0 := nI_z hb1 c0
    refine al_aload_n dL_law_665 rfl ?_
    refine al_iconst (v := 0) dL_law_666 (by decide) ?_
    refine al_laldV dL_law_667 (hp_190 _) ((congrFun (fM_190 hf) 0).trans (ho1 ho)) ?_
    refine al_iload dL_law_668 rfl ?_
    refine al_i2l dL_law_670 ?_
    refine al_lcmp dL_law_671 ?_
    refine al_if_eq 677 dL_law_672 (by decide) (fun _ => ?_) (fun c => absurd (by rw [hx2 ho]; exact lgc _) c)
    refine al_goto (tgt := 2092) dL_law_677 (by decide) ?_
    exact AL.drop (m := 6) rfl (kk _ _ hC2 hM2)
set_option maxHeartbeats 4000000 in
set_option maxRecDepth 100000 in
theorem cs_7 {Ls : Nat} {xs : Nat → Int32} {Φ : Rs → ah → Prop} (hLs : Ls ≤ 2560) {j : Nat} (hj : 5 * j + 5 ≤ Ls) {d : Dt} {y : Sy} (hC : CC d y) (hM : MR d y) {K N : Nat} (hK : 4 ≤ K) (hN : 24 ≤ N) (kk : ∀ d' y', CC d' y' → MR d' y' → AL (SX Ls xs) mL_law 20 true Φ (K - 4) (N - 24) 2092 (lv5 j) [] (HP d')) : AL (SX Ls xs) mL_law 20 true Φ K N 680 (lv5 j) [] (HP d) := by
  refine al_aload_n dL_law_680 rfl ?_
  refine al_aload_n dL_law_681 rfl ?_
  refine al_iload dL_law_682 rfl ?_
  refine al_iconst (v := 1) dL_law_684 (by decide) ?_
  refine al_iadd dL_law_685 ?_
  refine al_sld (q := 5 * j + 1) dL_law_686 (nI_add (5 * j) 1) (by omega) hLs ?_
  refine al_aload_n dL_law_687 rfl ?_
  refine al_iload dL_law_688 rfl ?_
  refine al_iconst (v := 2) dL_law_690 (by decide) ?_
  refine al_iadd dL_law_691 ?_
  refine al_sld (q := 5 * j + 2) dL_law_692 (nI_add (5 * j) 2) (by omega) hLs ?_
  refine al_aload_n dL_law_693 rfl ?_
  refine al_cSH (M' := mL_setTool) dL_law_694 oL_setTool sL_setTool lL_151 (kL_setTool hC) rfl rfl (Nat.le_of_ble_eq_true rfl) (Nat.le_of_ble_eq_true rfl) (Nat.le_of_ble_eq_true rfl) hK hN ?_
  rintro v d1 ⟨x, rfl, ⟨hL1, hC1⟩, hx1, ho1, hb1⟩
  subst hx1
  have hM1 := MR_L hM hL1
  refine al_istore dL_law_697 (by decide) rfl ?_
  refine al_aload_n dL_law_699 rfl ?_
  refine al_aload_n dL_law_700 rfl ?_
  refine al_iload dL_law_701 rfl ?_
  refine al_iconst (v := 1) dL_law_703 (by decide) ?_
  refine al_iadd dL_law_704 ?_
  refine al_sld (q := 5 * j + 1) dL_law_705 (nI_add (5 * j) 1) (by omega) hLs ?_
  refine al_aload_n dL_law_706 rfl ?_
  refine al_iload dL_law_707 rfl ?_
  refine al_iconst (v := 2) dL_law_709 (by decide) ?_
  refine al_iadd dL_law_710 ?_
  refine al_sld (q := 5 * j + 2) dL_law_711 (nI_add (5 * j) 2) (by omega) hLs ?_
  refine al_cV (M' := mX8_setTool) dL_law_712 oX8_setTool vX8_setTool rfl lL_153 (kX8_setTool hM1) rfl (hp_160 _) rfl rfl rfl (Nat.le_of_ble_eq_true rfl) (Nat.le_of_ble_eq_true rfl) (Nat.le_of_ble_eq_true rfl) (Nat.zero_le _) (Nat.zero_le _) (fun _ _ z => z) ?_
  rintro v d2 ⟨x2, rfl, hf, h7, hx2, hM2⟩
  have hC2 := CC_M hC1 hf
  refine al_istore dL_law_715 (by decide) rfl ?_
  refine al_aload_n dL_law_717 rfl ?_
  refine al_cV (M' := mX8_thrown) dL_law_718 oX8_thrown vX8_thrown rfl lL_127 kX8_thrown rfl (hp_160 _) rfl rfl rfl (Nat.le_of_ble_eq_true rfl) (Nat.le_of_ble_eq_true rfl) (Nat.le_of_ble_eq_true rfl) (Nat.zero_le _) (Nat.zero_le _) (fun _ _ z => z) ?_
  rintro v d3 ⟨x3, rfl, hx3, hd3⟩
  rw [hd3, hx3, h7]
  refine al_iload dL_law_721 rfl ?_
  refine al_icmp_eq 728 dL_law_723 (by decide) (fun _ => ?_) (fun c => absurd rfl c)
  refine al_iload dL_law_728 rfl ?_
  refine al_if_ne 745 dL_law_730 (by decide) (fun _ => ?_) (fun c0 => ?_)
  · refine al_goto (tgt := 2092) dL_law_745 (by decide) ?_
    exact AL.drop (m := 6) rfl (kk _ _ hC2 hM2)
  · have ho : (oSetTool y (xs (5 * j + 1)) (xs (5 * j + 2))).1 = 0 := nI_z hb1 c0
    refine al_aload_n dL_law_733 rfl ?_
    refine al_iconst (v := 0) dL_law_734 (by decide) ?_
    refine al_laldV dL_law_735 (hp_190 _) ((congrFun (fM_190 hf) 0).trans (ho1 ho)) ?_
    refine al_iload dL_law_736 rfl ?_
    refine al_i2l dL_law_738 ?_
    refine al_lcmp dL_law_739 ?_
    refine al_if_eq 745 dL_law_740 (by decide) (fun _ => ?_) (fun c => absurd (by rw [hx2 ho]; exact lgc _) c)
    refine al_goto (tgt := 2092) dL_law_745 (by decide) ?_
    exact AL.drop (m := 6) rfl (kk _ _ hC2 hM2)
set_option maxHeartbeats 4000000 in
set_option maxRecDepth 100000 in
theorem cs_8 {Ls : Nat} {xs : Nat → Int32} {Φ : Rs → ah → Prop} (hLs : Ls ≤ 2560) {j : Nat} (hj : 5 * j + 5 ≤ Ls) {d : Dt} {y : Sy} (hC : CC d y) (hM : MR d y) {K N : Nat} (hK : 4 ≤ K) (hN : 24 ≤ N) (kk : ∀ d' y', CC d' y' → MR d' y' → AL (SX Ls xs) mL_law 20 true Φ (K - 4) (N - 24) 2092 (lv5 j) [] (HP d')) : AL (SX Ls xs) mL_law 20 true Φ K N 748 (lv5 j) [] (HP d) := by
  refine al_aload_n dL_law_748 rfl ?_
  refine al_aload_n dL_law_749 rfl ?_
  refine al_iload dL_law_750 rfl ?_
  refine al_iconst (v := 1) dL_law_752 (by decide) ?_
  refine al_iadd dL_law_753 ?_
  refine al_sld (q := 5 * j + 1) dL_law_754 (nI_add (5 * j) 1) (by omega) hLs ?_
  refine al_aload_n dL_law_755 rfl ?_
  refine al_iload dL_law_756 rfl ?_
  refine al_iconst (v := 2) dL_law_758 (by decide) ?_
  refine al_iadd dL_law_759 ?_
  refine al_sld (q := 5 * j + 2) dL_law_760 (nI_add (5 * j) 2) (by omega) hLs ?_
  refine al_aload_n dL_law_761 rfl ?_
  refine al_cSH (M' := mL_before) dL_law_762 oL_before sL_before lL_154 (kL_before hC) rfl rfl (Nat.le_of_ble_eq_true rfl) (Nat.le_of_ble_eq_true rfl) (Nat.le_of_ble_eq_true rfl) hK hN ?_
  rintro v d1 ⟨x, rfl, ⟨hL1, hC1⟩, hx1, ho1, hb1⟩
  subst hx1
  have hM1 := MR_L hM hL1
  refine al_istore dL_law_765 (by decide) rfl ?_
  refine al_aload_n dL_law_767 rfl ?_
  refine al_aload_n dL_law_768 rfl ?_
  refine al_iload dL_law_769 rfl ?_
  refine al_iconst (v := 1) dL_law_771 (by decide) ?_
  refine al_iadd dL_law_772 ?_
  refine al_sld (q := 5 * j + 1) dL_law_773 (nI_add (5 * j) 1) (by omega) hLs ?_
  refine al_aload_n dL_law_774 rfl ?_
  refine al_iload dL_law_775 rfl ?_
  refine al_iconst (v := 2) dL_law_777 (by decide) ?_
  refine al_iadd dL_law_778 ?_
  refine al_sld (q := 5 * j + 2) dL_law_779 (nI_add (5 * j) 2) (by omega) hLs ?_
  refine al_cV (M' := mX8_before) dL_law_780 oX8_before vX8_before rfl lL_156 (kX8_before hM1) rfl (hp_160 _) rfl rfl rfl (Nat.le_of_ble_eq_true rfl) (Nat.le_of_ble_eq_true rfl) (Nat.le_of_ble_eq_true rfl) (Nat.zero_le _) (Nat.zero_le _) (fun _ _ z => z) ?_
  rintro v d2 ⟨x2, rfl, hf, h7, hx2, hM2⟩
  have hC2 := CC_M hC1 hf
  refine al_istore dL_law_783 (by decide) rfl ?_
  refine al_aload_n dL_law_785 rfl ?_
  refine al_cV (M' := mX8_thrown) dL_law_786 oX8_thrown vX8_thrown rfl lL_127 kX8_thrown rfl (hp_160 _) rfl rfl rfl (Nat.le_of_ble_eq_true rfl) (Nat.le_of_ble_eq_true rfl) (Nat.le_of_ble_eq_true rfl) (Nat.zero_le _) (Nat.zero_le _) (fun _ _ z => z) ?_
  rintro v d3 ⟨x3, rfl, hx3, hd3⟩
  rw [hd3, hx3, h7]
  refine al_iload dL_law_789 rfl ?_
  refine al_icmp_eq 796 dL_law_791 (by decide) (fun _ => ?_) (fun c => absurd rfl c)
  refine al_iload dL_law_796 rfl ?_
  refine al_if_ne 813 dL_law_798 (by decide) (fun _ => ?_) (fun c0 => ?_)
  · refine al_goto (tgt := 2092) dL_law_813 (by decide) ?_
    exact AL.drop (m := 6) rfl (kk _ _ hC2 hM2)
  · have ho : (oBefore y (xs (5 * j + 1)) (xs (5 * j + 2))).1 = 0 := nI_z hb1 c0
    refine al_aload_n dL_law_801 rfl ?_
    refine al_iconst (v := 0) dL_law_802 (by decide) ?_
    refine al_laldV dL_law_803 (hp_190 _) ((congrFun (fM_190 hf) 0).trans (ho1 ho)) ?_
    refine al_iload dL_law_804 rfl ?_
    refine al_i2l dL_law_806 ?_
    refine al_lcmp dL_law_807 ?_
    refine al_if_eq 813 dL_law_808 (by decide) (fun _ => ?_) (fun c => absurd (by rw [hx2 ho]; exact lgc _) c)
    refine al_goto (tgt := 2092) dL_law_813 (by decide) ?_
    exact AL.drop (m := 6) rfl (kk _ _ hC2 hM2)
set_option maxHeartbeats 4000000 in
set_option maxRecDepth 100000 in
theorem cs_9z {Ls : Nat} {xs : Nat → Int32} {Φ : Rs → ah → Prop} (hLs : Ls ≤ 2560) {j : Nat} (hj : 5 * j + 5 ≤ Ls) {d : Dt} {y : Sy} (hC : CC d y) (hM : MR d y) {K N : Nat} (hK : 4 ≤ K) (hN : 24 ≤ N) (kk : ∀ d' y', CC d' y' → MR d' y' → AL (SX Ls xs) mL_law 20 true Φ (K - 4) (N - 24) 2092 (lv5 j) [] (HP d')) (hz : xs (5 * j + 3) = 0) : AL (SX Ls xs) mL_law 20 true Φ K N 816 (lv5 j) [] (HP d) := by
  refine al_aload_n dL_law_816 rfl ?_
  refine al_aload_n dL_law_817 rfl ?_
  refine al_iload dL_law_818 rfl ?_
  refine al_iconst (v := 1) dL_law_820 (by decide) ?_
  refine al_iadd dL_law_821 ?_
  refine al_sld (q := 5 * j + 1) dL_law_822 (nI_add (5 * j) 1) (by omega) hLs ?_
  refine al_aload_n dL_law_823 rfl ?_
  refine al_iload dL_law_824 rfl ?_
  refine al_iconst (v := 2) dL_law_826 (by decide) ?_
  refine al_iadd dL_law_827 ?_
  refine al_sld (q := 5 * j + 2) dL_law_828 (nI_add (5 * j) 2) (by omega) hLs ?_
  refine al_aload_n dL_law_829 rfl ?_
  refine al_iload dL_law_830 rfl ?_
  refine al_iconst (v := 3) dL_law_832 (by decide) ?_
  refine al_iadd dL_law_833 ?_
  refine al_sld (q := 5 * j + 3) dL_law_834 (nI_add (5 * j) 3) (by omega) hLs ?_
  refine al_if_eq 842 dL_law_835 (by decide) (fun _ => ?_) (fun c => absurd hz c)
  refine al_iconst (v := 0) dL_law_842 (by decide) ?_
  refine al_aload_n dL_law_843 rfl ?_
  refine al_cSH (M' := mL_pair) dL_law_844 oL_pair sL_pair lL_157 (kL_pair_t hC) rfl rfl (Nat.le_of_ble_eq_true rfl) (Nat.le_of_ble_eq_true rfl) (Nat.le_of_ble_eq_true rfl) hK hN ?_
  rintro v d1 ⟨x, rfl, ⟨hL1, hC1⟩, hx1, ho1, hb1⟩
  subst hx1
  have hM1 := MR_L hM hL1
  refine al_istore dL_law_847 (by decide) rfl ?_
  refine al_aload_n dL_law_849 rfl ?_
  refine al_aload_n dL_law_850 rfl ?_
  refine al_iload dL_law_851 rfl ?_
  refine al_iconst (v := 1) dL_law_853 (by decide) ?_
  refine al_iadd dL_law_854 ?_
  refine al_sld (q := 5 * j + 1) dL_law_855 (nI_add (5 * j) 1) (by omega) hLs ?_
  refine al_aload_n dL_law_856 rfl ?_
  refine al_iload dL_law_857 rfl ?_
  refine al_iconst (v := 2) dL_law_859 (by decide) ?_
  refine al_iadd dL_law_860 ?_
  refine al_sld (q := 5 * j + 2) dL_law_861 (nI_add (5 * j) 2) (by omega) hLs ?_
  refine al_aload_n dL_law_862 rfl ?_
  refine al_iload dL_law_863 rfl ?_
  refine al_iconst (v := 3) dL_law_865 (by decide) ?_
  refine al_iadd dL_law_866 ?_
  refine al_sld (q := 5 * j + 3) dL_law_867 (nI_add (5 * j) 3) (by omega) hLs ?_
  refine al_if_eq 875 dL_law_868 (by decide) (fun _ => ?_) (fun c => absurd hz c)
  refine al_iconst (v := 0) dL_law_875 (by decide) ?_
  refine al_cV (M' := mX8_pair) dL_law_876 oX8_pair vX8_pair rfl lL_160 (kX8_pair_t hM1) rfl (hp_160 _) rfl rfl rfl (Nat.le_of_ble_eq_true rfl) (Nat.le_of_ble_eq_true rfl) (Nat.le_of_ble_eq_true rfl) (Nat.zero_le _) (Nat.zero_le _) (fun _ _ z => z) ?_
  rintro v d2 ⟨x2, rfl, hf, h7, hx2, hM2⟩
  have hC2 := CC_M hC1 hf
  refine al_istore dL_law_879 (by decide) rfl ?_
  refine al_aload_n dL_law_881 rfl ?_
  refine al_cV (M' := mX8_thrown) dL_law_882 oX8_thrown vX8_thrown rfl lL_127 kX8_thrown rfl (hp_160 _) rfl rfl rfl (Nat.le_of_ble_eq_true rfl) (Nat.le_of_ble_eq_true rfl) (Nat.le_of_ble_eq_true rfl) (Nat.zero_le _) (Nat.zero_le _) (fun _ _ z => z) ?_
  rintro v d3 ⟨x3, rfl, hx3, hd3⟩
  rw [hd3, hx3, h7]
  refine al_iload dL_law_885 rfl ?_
  refine al_icmp_eq 892 dL_law_887 (by decide) (fun _ => ?_) (fun c => absurd rfl c)
  refine al_iload dL_law_892 rfl ?_
  refine al_if_ne 909 dL_law_894 (by decide) (fun _ => ?_) (fun c0 => ?_)
  · refine al_goto (tgt := 2092) dL_law_909 (by decide) ?_
    exact AL.drop (m := 6) rfl (kk _ _ hC2 hM2)
  · have ho : (oPair y (xs (5 * j + 1)) (xs (5 * j + 2)) 11).1 = 0 := nI_z hb1 c0
    refine al_aload_n dL_law_897 rfl ?_
    refine al_iconst (v := 0) dL_law_898 (by decide) ?_
    refine al_laldV dL_law_899 (hp_190 _) ((congrFun (fM_190 hf) 0).trans (ho1 ho)) ?_
    refine al_iload dL_law_900 rfl ?_
    refine al_i2l dL_law_902 ?_
    refine al_lcmp dL_law_903 ?_
    refine al_if_eq 909 dL_law_904 (by decide) (fun _ => ?_) (fun c => absurd (by rw [hx2 ho]; exact lgc _) c)
    refine al_goto (tgt := 2092) dL_law_909 (by decide) ?_
    exact AL.drop (m := 6) rfl (kk _ _ hC2 hM2)
set_option maxHeartbeats 4000000 in
set_option maxRecDepth 100000 in
theorem cs_9n {Ls : Nat} {xs : Nat → Int32} {Φ : Rs → ah → Prop} (hLs : Ls ≤ 2560) {j : Nat} (hj : 5 * j + 5 ≤ Ls) {d : Dt} {y : Sy} (hC : CC d y) (hM : MR d y) {K N : Nat} (hK : 4 ≤ K) (hN : 24 ≤ N) (kk : ∀ d' y', CC d' y' → MR d' y' → AL (SX Ls xs) mL_law 20 true Φ (K - 4) (N - 24) 2092 (lv5 j) [] (HP d')) (hz : ¬ xs (5 * j + 3) = 0) : AL (SX Ls xs) mL_law 20 true Φ K N 816 (lv5 j) [] (HP d) := by
  refine al_aload_n dL_law_816 rfl ?_
  refine al_aload_n dL_law_817 rfl ?_
  refine al_iload dL_law_818 rfl ?_
  refine al_iconst (v := 1) dL_law_820 (by decide) ?_
  refine al_iadd dL_law_821 ?_
  refine al_sld (q := 5 * j + 1) dL_law_822 (nI_add (5 * j) 1) (by omega) hLs ?_
  refine al_aload_n dL_law_823 rfl ?_
  refine al_iload dL_law_824 rfl ?_
  refine al_iconst (v := 2) dL_law_826 (by decide) ?_
  refine al_iadd dL_law_827 ?_
  refine al_sld (q := 5 * j + 2) dL_law_828 (nI_add (5 * j) 2) (by omega) hLs ?_
  refine al_aload_n dL_law_829 rfl ?_
  refine al_iload dL_law_830 rfl ?_
  refine al_iconst (v := 3) dL_law_832 (by decide) ?_
  refine al_iadd dL_law_833 ?_
  refine al_sld (q := 5 * j + 3) dL_law_834 (nI_add (5 * j) 3) (by omega) hLs ?_
  refine al_if_eq 842 dL_law_835 (by decide) (fun c => absurd c hz) (fun _ => ?_)
  refine al_iconst (v := 1) dL_law_838 (by decide) ?_
  refine al_goto (tgt := 843) dL_law_839 (by decide) ?_
  refine al_aload_n dL_law_843 rfl ?_
  refine al_cSH (M' := mL_pair) dL_law_844 oL_pair sL_pair lL_157 (kL_pair_a hC) rfl rfl (Nat.le_of_ble_eq_true rfl) (Nat.le_of_ble_eq_true rfl) (Nat.le_of_ble_eq_true rfl) hK hN ?_
  rintro v d1 ⟨x, rfl, ⟨hL1, hC1⟩, hx1, ho1, hb1⟩
  subst hx1
  have hM1 := MR_L hM hL1
  refine al_istore dL_law_847 (by decide) rfl ?_
  refine al_aload_n dL_law_849 rfl ?_
  refine al_aload_n dL_law_850 rfl ?_
  refine al_iload dL_law_851 rfl ?_
  refine al_iconst (v := 1) dL_law_853 (by decide) ?_
  refine al_iadd dL_law_854 ?_
  refine al_sld (q := 5 * j + 1) dL_law_855 (nI_add (5 * j) 1) (by omega) hLs ?_
  refine al_aload_n dL_law_856 rfl ?_
  refine al_iload dL_law_857 rfl ?_
  refine al_iconst (v := 2) dL_law_859 (by decide) ?_
  refine al_iadd dL_law_860 ?_
  refine al_sld (q := 5 * j + 2) dL_law_861 (nI_add (5 * j) 2) (by omega) hLs ?_
  refine al_aload_n dL_law_862 rfl ?_
  refine al_iload dL_law_863 rfl ?_
  refine al_iconst (v := 3) dL_law_865 (by decide) ?_
  refine al_iadd dL_law_866 ?_
  refine al_sld (q := 5 * j + 3) dL_law_867 (nI_add (5 * j) 3) (by omega) hLs ?_
  refine al_if_eq 875 dL_law_868 (by decide) (fun c => absurd c hz) (fun _ => ?_)
  refine al_iconst (v := 1) dL_law_871 (by decide) ?_
  refine al_goto (tgt := 876) dL_law_872 (by decide) ?_
  refine al_cV (M' := mX8_pair) dL_law_876 oX8_pair vX8_pair rfl lL_160 (kX8_pair_a hM1) rfl (hp_160 _) rfl rfl rfl (Nat.le_of_ble_eq_true rfl) (Nat.le_of_ble_eq_true rfl) (Nat.le_of_ble_eq_true rfl) (Nat.zero_le _) (Nat.zero_le _) (fun _ _ z => z) ?_
  rintro v d2 ⟨x2, rfl, hf, h7, hx2, hM2⟩
  have hC2 := CC_M hC1 hf
  refine al_istore dL_law_879 (by decide) rfl ?_
  refine al_aload_n dL_law_881 rfl ?_
  refine al_cV (M' := mX8_thrown) dL_law_882 oX8_thrown vX8_thrown rfl lL_127 kX8_thrown rfl (hp_160 _) rfl rfl rfl (Nat.le_of_ble_eq_true rfl) (Nat.le_of_ble_eq_true rfl) (Nat.le_of_ble_eq_true rfl) (Nat.zero_le _) (Nat.zero_le _) (fun _ _ z => z) ?_
  rintro v d3 ⟨x3, rfl, hx3, hd3⟩
  rw [hd3, hx3, h7]
  refine al_iload dL_law_885 rfl ?_
  refine al_icmp_eq 892 dL_law_887 (by decide) (fun _ => ?_) (fun c => absurd rfl c)
  refine al_iload dL_law_892 rfl ?_
  refine al_if_ne 909 dL_law_894 (by decide) (fun _ => ?_) (fun c0 => ?_)
  · refine al_goto (tgt := 2092) dL_law_909 (by decide) ?_
    exact AL.drop (m := 6) rfl (kk _ _ hC2 hM2)
  · have ho : (oPair y (xs (5 * j + 1)) (xs (5 * j + 2)) 10).1 = 0 := nI_z hb1 c0
    refine al_aload_n dL_law_897 rfl ?_
    refine al_iconst (v := 0) dL_law_898 (by decide) ?_
    refine al_laldV dL_law_899 (hp_190 _) ((congrFun (fM_190 hf) 0).trans (ho1 ho)) ?_
    refine al_iload dL_law_900 rfl ?_
    refine al_i2l dL_law_902 ?_
    refine al_lcmp dL_law_903 ?_
    refine al_if_eq 909 dL_law_904 (by decide) (fun _ => ?_) (fun c => absurd (by rw [hx2 ho]; exact lgc _) c)
    refine al_goto (tgt := 2092) dL_law_909 (by decide) ?_
    exact AL.drop (m := 6) rfl (kk _ _ hC2 hM2)
set_option maxHeartbeats 4000000 in
set_option maxRecDepth 100000 in
theorem cs_9 {Ls : Nat} {xs : Nat → Int32} {Φ : Rs → ah → Prop} (hLs : Ls ≤ 2560) {j : Nat} (hj : 5 * j + 5 ≤ Ls) {d : Dt} {y : Sy} (hC : CC d y) (hM : MR d y) {K N : Nat} (hK : 4 ≤ K) (hN : 24 ≤ N) (kk : ∀ d' y', CC d' y' → MR d' y' → AL (SX Ls xs) mL_law 20 true Φ (K - 4) (N - 24) 2092 (lv5 j) [] (HP d')) : AL (SX Ls xs) mL_law 20 true Φ K N 816 (lv5 j) [] (HP d) := by
  by_cases hz : xs (5 * j + 3) = 0
  · exact cs_9z hLs hj hC hM hK hN kk hz
  · exact cs_9n hLs hj hC hM hK hN kk hz
set_option maxHeartbeats 4000000 in
set_option maxRecDepth 100000 in
theorem cs_10 {Ls : Nat} {xs : Nat → Int32} {Φ : Rs → ah → Prop} (hLs : Ls ≤ 2560) {j : Nat} (hj : 5 * j + 5 ≤ Ls) {d : Dt} {y : Sy} (hC : CC d y) (hM : MR d y) {K N : Nat} (hK : 4 ≤ K) (hN : 24 ≤ N) (kk : ∀ d' y', CC d' y' → MR d' y' → AL (SX Ls xs) mL_law 20 true Φ (K - 4) (N - 24) 2092 (lv5 j) [] (HP d')) : AL (SX Ls xs) mL_law 20 true Φ K N 912 (lv5 j) [] (HP d) := by
  refine al_aload_n dL_law_912 rfl ?_
  refine al_aload_n dL_law_913 rfl ?_
  refine al_iload dL_law_914 rfl ?_
  refine al_iconst (v := 1) dL_law_916 (by decide) ?_
  refine al_iadd dL_law_917 ?_
  refine al_sld (q := 5 * j + 1) dL_law_918 (nI_add (5 * j) 1) (by omega) hLs ?_
  refine al_aload_n dL_law_919 rfl ?_
  refine al_iload dL_law_920 rfl ?_
  refine al_iconst (v := 2) dL_law_922 (by decide) ?_
  refine al_iadd dL_law_923 ?_
  refine al_sld (q := 5 * j + 2) dL_law_924 (nI_add (5 * j) 2) (by omega) hLs ?_
  refine al_aload_n dL_law_925 rfl ?_
  refine al_cSH (M' := mL_drop) dL_law_926 oL_drop sL_drop lL_161 (kL_drop hC) rfl rfl (Nat.le_of_ble_eq_true rfl) (Nat.le_of_ble_eq_true rfl) (Nat.le_of_ble_eq_true rfl) hK hN ?_
  rintro v d1 ⟨x, rfl, ⟨hL1, hC1⟩, hx1, ho1, hb1⟩
  subst hx1
  have hM1 := MR_L hM hL1
  refine al_istore dL_law_929 (by decide) rfl ?_
  refine al_aload_n dL_law_931 rfl ?_
  refine al_aload_n dL_law_932 rfl ?_
  refine al_iload dL_law_933 rfl ?_
  refine al_iconst (v := 1) dL_law_935 (by decide) ?_
  refine al_iadd dL_law_936 ?_
  refine al_sld (q := 5 * j + 1) dL_law_937 (nI_add (5 * j) 1) (by omega) hLs ?_
  refine al_aload_n dL_law_938 rfl ?_
  refine al_iload dL_law_939 rfl ?_
  refine al_iconst (v := 2) dL_law_941 (by decide) ?_
  refine al_iadd dL_law_942 ?_
  refine al_sld (q := 5 * j + 2) dL_law_943 (nI_add (5 * j) 2) (by omega) hLs ?_
  refine al_cV (M' := mX8_drop) dL_law_944 oX8_drop vX8_drop rfl lL_163 (kX8_drop hM1) rfl (hp_160 _) rfl rfl rfl (Nat.le_of_ble_eq_true rfl) (Nat.le_of_ble_eq_true rfl) (Nat.le_of_ble_eq_true rfl) (Nat.zero_le _) (Nat.zero_le _) (fun _ _ z => z) ?_
  rintro v d2 ⟨x2, rfl, hf, h7, hx2, hM2⟩
  have hC2 := CC_M hC1 hf
  refine al_istore dL_law_947 (by decide) rfl ?_
  refine al_aload_n dL_law_949 rfl ?_
  refine al_cV (M' := mX8_thrown) dL_law_950 oX8_thrown vX8_thrown rfl lL_127 kX8_thrown rfl (hp_160 _) rfl rfl rfl (Nat.le_of_ble_eq_true rfl) (Nat.le_of_ble_eq_true rfl) (Nat.le_of_ble_eq_true rfl) (Nat.zero_le _) (Nat.zero_le _) (fun _ _ z => z) ?_
  rintro v d3 ⟨x3, rfl, hx3, hd3⟩
  rw [hd3, hx3, h7]
  refine al_iload dL_law_953 rfl ?_
  refine al_icmp_eq 960 dL_law_955 (by decide) (fun _ => ?_) (fun c => absurd rfl c)
  refine al_iload dL_law_960 rfl ?_
  refine al_if_ne 977 dL_law_962 (by decide) (fun _ => ?_) (fun c0 => ?_)
  · refine al_goto (tgt := 2092) dL_law_977 (by decide) ?_
    exact AL.drop (m := 6) rfl (kk _ _ hC2 hM2)
  · have ho : (oDrop y (xs (5 * j + 1)) (xs (5 * j + 2))).1 = 0 := nI_z hb1 c0
    refine al_aload_n dL_law_965 rfl ?_
    refine al_iconst (v := 0) dL_law_966 (by decide) ?_
    refine al_laldV dL_law_967 (hp_190 _) ((congrFun (fM_190 hf) 0).trans (ho1 ho)) ?_
    refine al_iload dL_law_968 rfl ?_
    refine al_i2l dL_law_970 ?_
    refine al_lcmp dL_law_971 ?_
    refine al_if_eq 977 dL_law_972 (by decide) (fun _ => ?_) (fun c => absurd (by rw [hx2 ho]; exact lgc _) c)
    refine al_goto (tgt := 2092) dL_law_977 (by decide) ?_
    exact AL.drop (m := 6) rfl (kk _ _ hC2 hM2)
set_option maxHeartbeats 4000000 in
set_option maxRecDepth 100000 in
theorem cs_11 {Ls : Nat} {xs : Nat → Int32} {Φ : Rs → ah → Prop} (hLs : Ls ≤ 2560) {j : Nat} (hj : 5 * j + 5 ≤ Ls) {d : Dt} {y : Sy} (hC : CC d y) (hM : MR d y) {K N : Nat} (hK : 4 ≤ K) (hN : 24 ≤ N) (kk : ∀ d' y', CC d' y' → MR d' y' → AL (SX Ls xs) mL_law 20 true Φ (K - 4) (N - 24) 2092 (lv5 j) [] (HP d')) : AL (SX Ls xs) mL_law 20 true Φ K N 980 (lv5 j) [] (HP d) := by
  refine al_aload_n dL_law_980 rfl ?_
  refine al_aload_n dL_law_981 rfl ?_
  refine al_iload dL_law_982 rfl ?_
  refine al_iconst (v := 1) dL_law_984 (by decide) ?_
  refine al_iadd dL_law_985 ?_
  refine al_sld (q := 5 * j + 1) dL_law_986 (nI_add (5 * j) 1) (by omega) hLs ?_
  refine al_aload_n dL_law_987 rfl ?_
  refine al_iload dL_law_988 rfl ?_
  refine al_iconst (v := 2) dL_law_990 (by decide) ?_
  refine al_iadd dL_law_991 ?_
  refine al_sld (q := 5 * j + 2) dL_law_992 (nI_add (5 * j) 2) (by omega) hLs ?_
  refine al_aload_n dL_law_993 rfl ?_
  refine al_cSH (M' := mL_task) dL_law_994 oL_task sL_task lL_164 (kL_task hC) rfl rfl (Nat.le_of_ble_eq_true rfl) (Nat.le_of_ble_eq_true rfl) (Nat.le_of_ble_eq_true rfl) hK hN ?_
  rintro v d1 ⟨x, rfl, ⟨hL1, hC1⟩, hx1, ho1, hb1⟩
  subst hx1
  have hM1 := MR_L hM hL1
  refine al_istore dL_law_997 (by decide) rfl ?_
  refine al_aload_n dL_law_999 rfl ?_
  refine al_aload_n dL_law_1000 rfl ?_
  refine al_iload dL_law_1001 rfl ?_
  refine al_iconst (v := 1) dL_law_1003 (by decide) ?_
  refine al_iadd dL_law_1004 ?_
  refine al_sld (q := 5 * j + 1) dL_law_1005 (nI_add (5 * j) 1) (by omega) hLs ?_
  refine al_aload_n dL_law_1006 rfl ?_
  refine al_iload dL_law_1007 rfl ?_
  refine al_iconst (v := 2) dL_law_1009 (by decide) ?_
  refine al_iadd dL_law_1010 ?_
  refine al_sld (q := 5 * j + 2) dL_law_1011 (nI_add (5 * j) 2) (by omega) hLs ?_
  refine al_cV (M' := mX8_task) dL_law_1012 oX8_task vX8_task rfl lL_166 (kX8_task hM1) rfl (hp_160 _) rfl rfl rfl (Nat.le_of_ble_eq_true rfl) (Nat.le_of_ble_eq_true rfl) (Nat.le_of_ble_eq_true rfl) (Nat.zero_le _) (Nat.zero_le _) (fun _ _ z => z) ?_
  rintro v d2 ⟨x2, rfl, hf, h7, hx2, hM2⟩
  have hC2 := CC_M hC1 hf
  refine al_istore dL_law_1015 (by decide) rfl ?_
  refine al_aload_n dL_law_1017 rfl ?_
  refine al_cV (M' := mX8_thrown) dL_law_1018 oX8_thrown vX8_thrown rfl lL_127 kX8_thrown rfl (hp_160 _) rfl rfl rfl (Nat.le_of_ble_eq_true rfl) (Nat.le_of_ble_eq_true rfl) (Nat.le_of_ble_eq_true rfl) (Nat.zero_le _) (Nat.zero_le _) (fun _ _ z => z) ?_
  rintro v d3 ⟨x3, rfl, hx3, hd3⟩
  rw [hd3, hx3, h7]
  refine al_iload dL_law_1021 rfl ?_
  refine al_icmp_eq 1028 dL_law_1023 (by decide) (fun _ => ?_) (fun c => absurd rfl c)
  refine al_iload dL_law_1028 rfl ?_
  refine al_if_ne 1045 dL_law_1030 (by decide) (fun _ => ?_) (fun c0 => ?_)
  · refine al_goto (tgt := 2092) dL_law_1045 (by decide) ?_
    exact AL.drop (m := 6) rfl (kk _ _ hC2 hM2)
  · have ho : (oTask y (xs (5 * j + 1)) (xs (5 * j + 2))).1 = 0 := nI_z hb1 c0
    refine al_aload_n dL_law_1033 rfl ?_
    refine al_iconst (v := 0) dL_law_1034 (by decide) ?_
    refine al_laldV dL_law_1035 (hp_190 _) ((congrFun (fM_190 hf) 0).trans (ho1 ho)) ?_
    refine al_iload dL_law_1036 rfl ?_
    refine al_i2l dL_law_1038 ?_
    refine al_lcmp dL_law_1039 ?_
    refine al_if_eq 1045 dL_law_1040 (by decide) (fun _ => ?_) (fun c => absurd (by rw [hx2 ho]; exact lgc _) c)
    refine al_goto (tgt := 2092) dL_law_1045 (by decide) ?_
    exact AL.drop (m := 6) rfl (kk _ _ hC2 hM2)
set_option maxHeartbeats 4000000 in
set_option maxRecDepth 100000 in
theorem cs_12 {Ls : Nat} {xs : Nat → Int32} {Φ : Rs → ah → Prop} (hLs : Ls ≤ 2560) {j : Nat} (hj : 5 * j + 5 ≤ Ls) {d : Dt} {y : Sy} (hC : CC d y) (hM : MR d y) {K N : Nat} (hK : 4 ≤ K) (hN : 24 ≤ N) (kk : ∀ d' y', CC d' y' → MR d' y' → AL (SX Ls xs) mL_law 20 true Φ (K - 4) (N - 24) 2092 (lv5 j) [] (HP d')) : AL (SX Ls xs) mL_law 20 true Φ K N 1048 (lv5 j) [] (HP d) := by
  refine al_aload_n dL_law_1048 rfl ?_
  refine al_aload_n dL_law_1049 rfl ?_
  refine al_iload dL_law_1050 rfl ?_
  refine al_iconst (v := 1) dL_law_1052 (by decide) ?_
  refine al_iadd dL_law_1053 ?_
  refine al_sld (q := 5 * j + 1) dL_law_1054 (nI_add (5 * j) 1) (by omega) hLs ?_
  refine al_aload_n dL_law_1055 rfl ?_
  refine al_iload dL_law_1056 rfl ?_
  refine al_iconst (v := 2) dL_law_1058 (by decide) ?_
  refine al_iadd dL_law_1059 ?_
  refine al_sld (q := 5 * j + 2) dL_law_1060 (nI_add (5 * j) 2) (by omega) hLs ?_
  refine al_aload_n dL_law_1061 rfl ?_
  refine al_cSH (M' := mL_priority) dL_law_1062 oL_priority sL_priority lL_167 (kL_priority hC) rfl rfl (Nat.le_of_ble_eq_true rfl) (Nat.le_of_ble_eq_true rfl) (Nat.le_of_ble_eq_true rfl) hK hN ?_
  rintro v d1 ⟨x, rfl, ⟨hL1, hC1⟩, hx1, ho1, hb1⟩
  subst hx1
  have hM1 := MR_L hM hL1
  refine al_istore dL_law_1065 (by decide) rfl ?_
  refine al_aload_n dL_law_1067 rfl ?_
  refine al_aload_n dL_law_1068 rfl ?_
  refine al_iload dL_law_1069 rfl ?_
  refine al_iconst (v := 1) dL_law_1071 (by decide) ?_
  refine al_iadd dL_law_1072 ?_
  refine al_sld (q := 5 * j + 1) dL_law_1073 (nI_add (5 * j) 1) (by omega) hLs ?_
  refine al_aload_n dL_law_1074 rfl ?_
  refine al_iload dL_law_1075 rfl ?_
  refine al_iconst (v := 2) dL_law_1077 (by decide) ?_
  refine al_iadd dL_law_1078 ?_
  refine al_sld (q := 5 * j + 2) dL_law_1079 (nI_add (5 * j) 2) (by omega) hLs ?_
  refine al_cV (M' := mX8_priority) dL_law_1080 oX8_priority vX8_priority rfl lL_169 (kX8_priority hM1) rfl (hp_160 _) rfl rfl rfl (Nat.le_of_ble_eq_true rfl) (Nat.le_of_ble_eq_true rfl) (Nat.le_of_ble_eq_true rfl) (Nat.zero_le _) (Nat.zero_le _) (fun _ _ z => z) ?_
  rintro v d2 ⟨x2, rfl, hf, h7, hx2, hM2⟩
  have hC2 := CC_M hC1 hf
  refine al_istore dL_law_1083 (by decide) rfl ?_
  refine al_aload_n dL_law_1085 rfl ?_
  refine al_cV (M' := mX8_thrown) dL_law_1086 oX8_thrown vX8_thrown rfl lL_127 kX8_thrown rfl (hp_160 _) rfl rfl rfl (Nat.le_of_ble_eq_true rfl) (Nat.le_of_ble_eq_true rfl) (Nat.le_of_ble_eq_true rfl) (Nat.zero_le _) (Nat.zero_le _) (fun _ _ z => z) ?_
  rintro v d3 ⟨x3, rfl, hx3, hd3⟩
  rw [hd3, hx3, h7]
  refine al_iload dL_law_1089 rfl ?_
  refine al_icmp_eq 1096 dL_law_1091 (by decide) (fun _ => ?_) (fun c => absurd rfl c)
  refine al_iload dL_law_1096 rfl ?_
  refine al_if_ne 1113 dL_law_1098 (by decide) (fun _ => ?_) (fun c0 => ?_)
  · refine al_goto (tgt := 2092) dL_law_1113 (by decide) ?_
    exact AL.drop (m := 6) rfl (kk _ _ hC2 hM2)
  · have ho : (oPriority y (xs (5 * j + 1)) (xs (5 * j + 2))).1 = 0 := nI_z hb1 c0
    refine al_aload_n dL_law_1101 rfl ?_
    refine al_iconst (v := 0) dL_law_1102 (by decide) ?_
    refine al_laldV dL_law_1103 (hp_190 _) ((congrFun (fM_190 hf) 0).trans (ho1 ho)) ?_
    refine al_iload dL_law_1104 rfl ?_
    refine al_i2l dL_law_1106 ?_
    refine al_lcmp dL_law_1107 ?_
    refine al_if_eq 1113 dL_law_1108 (by decide) (fun _ => ?_) (fun c => absurd (by rw [hx2 ho]; exact lgc _) c)
    refine al_goto (tgt := 2092) dL_law_1113 (by decide) ?_
    exact AL.drop (m := 6) rfl (kk _ _ hC2 hM2)
set_option maxHeartbeats 4000000 in
set_option maxRecDepth 100000 in
theorem cs_13 {Ls : Nat} {xs : Nat → Int32} {Φ : Rs → ah → Prop} (hLs : Ls ≤ 2560) {j : Nat} (hj : 5 * j + 5 ≤ Ls) {d : Dt} {y : Sy} (hC : CC d y) (hM : MR d y) {K N : Nat} (hK : 4 ≤ K) (hN : 24 ≤ N) (kk : ∀ d' y', CC d' y' → MR d' y' → AL (SX Ls xs) mL_law 20 true Φ (K - 4) (N - 24) 2092 (lv5 j) [] (HP d')) : AL (SX Ls xs) mL_law 20 true Φ K N 1116 (lv5 j) [] (HP d) := by
  refine al_aload_n dL_law_1116 rfl ?_
  refine al_cV (M' := mX7_size) dL_law_1117 oX7_size vX7_size rfl lL_170 (kX7_size hC) rfl (hp_132 _) rfl rfl rfl (Nat.le_of_ble_eq_true rfl) (Nat.le_of_ble_eq_true rfl) (Nat.le_of_ble_eq_true rfl) hK hN XO_nil ?_
  rintro v d1 ⟨x, rfl, hL1, hC1, h0, hx1⟩
  have hM1 := MR_L hM (fC_L hL1)
  refine al_aload_n dL_law_1120 rfl ?_
  refine al_cV (M' := mX8_size) dL_law_1121 oX8_size vX8_size rfl lL_173 (kX8_size hM1) rfl (hp_160 _) rfl rfl rfl (Nat.le_of_ble_eq_true rfl) (Nat.le_of_ble_eq_true rfl) (Nat.le_of_ble_eq_true rfl) (Nat.zero_le _) (Nat.zero_le _) (fun _ _ z => z) ?_
  rintro v d2 ⟨x2, rfl, hf, h7, hx2, hM2⟩
  have hC2 := CC_M hC1 hf
  refine al_icmp_eq 2092 dL_law_1124 (by decide) (fun _ => ?_) (fun c => absurd (by rw [hx1, hx2 h0]) c)
  exact kk _ _ hC2 hM2
set_option maxHeartbeats 4000000 in
set_option maxRecDepth 100000 in
theorem cs_14 {Ls : Nat} {xs : Nat → Int32} {Φ : Rs → ah → Prop} (hLs : Ls ≤ 2560) {j : Nat} (hj : 5 * j + 5 ≤ Ls) {d : Dt} {y : Sy} (hC : CC d y) (hM : MR d y) {K N : Nat} (hK : 4 ≤ K) (hN : 24 ≤ N) (kk : ∀ d' y', CC d' y' → MR d' y' → AL (SX Ls xs) mL_law 20 true Φ (K - 4) (N - 24) 2092 (lv5 j) [] (HP d')) : AL (SX Ls xs) mL_law 20 true Φ K N 1129 (lv5 j) [] (HP d) := by
  refine al_aload_n dL_law_1129 rfl ?_
  refine al_aload_n dL_law_1130 rfl ?_
  refine al_iload dL_law_1131 rfl ?_
  refine al_iconst (v := 1) dL_law_1133 (by decide) ?_
  refine al_iadd dL_law_1134 ?_
  refine al_sld (q := 5 * j + 1) dL_law_1135 (nI_add (5 * j) 1) (by omega) hLs ?_
  refine al_aload_n dL_law_1136 rfl ?_
  refine al_iload dL_law_1137 rfl ?_
  refine al_iconst (v := 2) dL_law_1139 (by decide) ?_
  refine al_iadd dL_law_1140 ?_
  refine al_sld (q := 5 * j + 2) dL_law_1141 (nI_add (5 * j) 2) (by omega) hLs ?_
  refine al_aload_n dL_law_1142 rfl ?_
  refine al_cSH (M' := mL_assign) dL_law_1143 oL_assign sL_assign lL_174 (kL_assign hC) rfl rfl (Nat.le_of_ble_eq_true rfl) (Nat.le_of_ble_eq_true rfl) (Nat.le_of_ble_eq_true rfl) hK hN ?_
  rintro v d1 ⟨x, rfl, ⟨hL1, hC1⟩, hx1, ho1, hb1⟩
  subst hx1
  have hM1 := MR_L hM hL1
  refine al_istore dL_law_1146 (by decide) rfl ?_
  refine al_aload_n dL_law_1148 rfl ?_
  refine al_aload_n dL_law_1149 rfl ?_
  refine al_iload dL_law_1150 rfl ?_
  refine al_iconst (v := 1) dL_law_1152 (by decide) ?_
  refine al_iadd dL_law_1153 ?_
  refine al_sld (q := 5 * j + 1) dL_law_1154 (nI_add (5 * j) 1) (by omega) hLs ?_
  refine al_aload_n dL_law_1155 rfl ?_
  refine al_iload dL_law_1156 rfl ?_
  refine al_iconst (v := 2) dL_law_1158 (by decide) ?_
  refine al_iadd dL_law_1159 ?_
  refine al_sld (q := 5 * j + 2) dL_law_1160 (nI_add (5 * j) 2) (by omega) hLs ?_
  refine al_cV (M' := mX8_assign) dL_law_1161 oX8_assign vX8_assign rfl lL_176 (kX8_assign hM1) rfl (hp_160 _) rfl rfl rfl (Nat.le_of_ble_eq_true rfl) (Nat.le_of_ble_eq_true rfl) (Nat.le_of_ble_eq_true rfl) (Nat.zero_le _) (Nat.zero_le _) (fun _ _ z => z) ?_
  rintro v d2 ⟨x2, rfl, hf, h7, hx2, hM2⟩
  have hC2 := CC_M hC1 hf
  refine al_istore dL_law_1164 (by decide) rfl ?_
  refine al_aload_n dL_law_1166 rfl ?_
  refine al_cV (M' := mX8_thrown) dL_law_1167 oX8_thrown vX8_thrown rfl lL_127 kX8_thrown rfl (hp_160 _) rfl rfl rfl (Nat.le_of_ble_eq_true rfl) (Nat.le_of_ble_eq_true rfl) (Nat.le_of_ble_eq_true rfl) (Nat.zero_le _) (Nat.zero_le _) (fun _ _ z => z) ?_
  rintro v d3 ⟨x3, rfl, hx3, hd3⟩
  rw [hd3, hx3, h7]
  refine al_iload dL_law_1170 rfl ?_
  refine al_icmp_eq 1177 dL_law_1172 (by decide) (fun _ => ?_) (fun c => absurd rfl c)
  refine al_iload dL_law_1177 rfl ?_
  refine al_if_ne 1194 dL_law_1179 (by decide) (fun _ => ?_) (fun c0 => ?_)
  · refine al_goto (tgt := 2092) dL_law_1194 (by decide) ?_
    exact AL.drop (m := 6) rfl (kk _ _ hC2 hM2)
  · have ho : (oAssign y (xs (5 * j + 1)) (xs (5 * j + 2))).1 = 0 := nI_z hb1 c0
    refine al_aload_n dL_law_1182 rfl ?_
    refine al_iconst (v := 0) dL_law_1183 (by decide) ?_
    refine al_laldV dL_law_1184 (hp_190 _) ((congrFun (fM_190 hf) 0).trans (ho1 ho)) ?_
    refine al_iload dL_law_1185 rfl ?_
    refine al_i2l dL_law_1187 ?_
    refine al_lcmp dL_law_1188 ?_
    refine al_if_eq 1194 dL_law_1189 (by decide) (fun _ => ?_) (fun c => absurd (by rw [hx2 ho]; exact lgc _) c)
    refine al_goto (tgt := 2092) dL_law_1194 (by decide) ?_
    exact AL.drop (m := 6) rfl (kk _ _ hC2 hM2)
set_option maxHeartbeats 4000000 in
set_option maxRecDepth 100000 in
theorem cs_15 {Ls : Nat} {xs : Nat → Int32} {Φ : Rs → ah → Prop} (hLs : Ls ≤ 2560) {j : Nat} (hj : 5 * j + 5 ≤ Ls) {d : Dt} {y : Sy} (hC : CC d y) (hM : MR d y) {K N : Nat} (hK : 4 ≤ K) (hN : 24 ≤ N) (kk : ∀ d' y', CC d' y' → MR d' y' → AL (SX Ls xs) mL_law 20 true Φ (K - 4) (N - 24) 2092 (lv5 j) [] (HP d')) : AL (SX Ls xs) mL_law 20 true Φ K N 1197 (lv5 j) [] (HP d) := by
  refine al_aload_n dL_law_1197 rfl ?_
  refine al_aload_n dL_law_1198 rfl ?_
  refine al_iload dL_law_1199 rfl ?_
  refine al_iconst (v := 1) dL_law_1201 (by decide) ?_
  refine al_iadd dL_law_1202 ?_
  refine al_sld (q := 5 * j + 1) dL_law_1203 (nI_add (5 * j) 1) (by omega) hLs ?_
  refine al_aload_n dL_law_1204 rfl ?_
  refine al_iload dL_law_1205 rfl ?_
  refine al_iconst (v := 2) dL_law_1207 (by decide) ?_
  refine al_iadd dL_law_1208 ?_
  refine al_sld (q := 5 * j + 2) dL_law_1209 (nI_add (5 * j) 2) (by omega) hLs ?_
  refine al_aload_n dL_law_1210 rfl ?_
  refine al_cSH (M' := mL_reason) dL_law_1211 oL_reason sL_reason lL_177 (kL_reason hC) rfl rfl (Nat.le_of_ble_eq_true rfl) (Nat.le_of_ble_eq_true rfl) (Nat.le_of_ble_eq_true rfl) hK hN ?_
  rintro v d1 ⟨x, rfl, ⟨hL1, hC1⟩, hx1, ho1, hb1⟩
  subst hx1
  have hM1 := MR_L hM hL1
  refine al_istore dL_law_1214 (by decide) rfl ?_
  refine al_aload_n dL_law_1216 rfl ?_
  refine al_aload_n dL_law_1217 rfl ?_
  refine al_iload dL_law_1218 rfl ?_
  refine al_iconst (v := 1) dL_law_1220 (by decide) ?_
  refine al_iadd dL_law_1221 ?_
  refine al_sld (q := 5 * j + 1) dL_law_1222 (nI_add (5 * j) 1) (by omega) hLs ?_
  refine al_aload_n dL_law_1223 rfl ?_
  refine al_iload dL_law_1224 rfl ?_
  refine al_iconst (v := 2) dL_law_1226 (by decide) ?_
  refine al_iadd dL_law_1227 ?_
  refine al_sld (q := 5 * j + 2) dL_law_1228 (nI_add (5 * j) 2) (by omega) hLs ?_
  refine al_cV (M' := mX8_reason) dL_law_1229 oX8_reason vX8_reason rfl lL_179 (kX8_reason hM1) rfl (hp_160 _) rfl rfl rfl (Nat.le_of_ble_eq_true rfl) (Nat.le_of_ble_eq_true rfl) (Nat.le_of_ble_eq_true rfl) (Nat.zero_le _) (Nat.zero_le _) (fun _ _ z => z) ?_
  rintro v d2 ⟨x2, rfl, hf, h7, hx2, hM2⟩
  have hC2 := CC_M hC1 hf
  refine al_istore dL_law_1232 (by decide) rfl ?_
  refine al_aload_n dL_law_1234 rfl ?_
  refine al_cV (M' := mX8_thrown) dL_law_1235 oX8_thrown vX8_thrown rfl lL_127 kX8_thrown rfl (hp_160 _) rfl rfl rfl (Nat.le_of_ble_eq_true rfl) (Nat.le_of_ble_eq_true rfl) (Nat.le_of_ble_eq_true rfl) (Nat.zero_le _) (Nat.zero_le _) (fun _ _ z => z) ?_
  rintro v d3 ⟨x3, rfl, hx3, hd3⟩
  rw [hd3, hx3, h7]
  refine al_iload dL_law_1238 rfl ?_
  refine al_icmp_eq 1245 dL_law_1240 (by decide) (fun _ => ?_) (fun c => absurd rfl c)
  refine al_iload dL_law_1245 rfl ?_
  refine al_if_ne 1262 dL_law_1247 (by decide) (fun _ => ?_) (fun c0 => ?_)
  · refine al_goto (tgt := 2092) dL_law_1262 (by decide) ?_
    exact AL.drop (m := 6) rfl (kk _ _ hC2 hM2)
  · have ho : (oReason y (xs (5 * j + 1)) (xs (5 * j + 2))).1 = 0 := nI_z hb1 c0
    refine al_aload_n dL_law_1250 rfl ?_
    refine al_iconst (v := 0) dL_law_1251 (by decide) ?_
    refine al_laldV dL_law_1252 (hp_190 _) ((congrFun (fM_190 hf) 0).trans (ho1 ho)) ?_
    refine al_iload dL_law_1253 rfl ?_
    refine al_i2l dL_law_1255 ?_
    refine al_lcmp dL_law_1256 ?_
    refine al_if_eq 1262 dL_law_1257 (by decide) (fun _ => ?_) (fun c => absurd (by rw [hx2 ho]; exact lgc _) c)
    refine al_goto (tgt := 2092) dL_law_1262 (by decide) ?_
    exact AL.drop (m := 6) rfl (kk _ _ hC2 hM2)
set_option maxHeartbeats 4000000 in
set_option maxRecDepth 100000 in
theorem cs_16 {Ls : Nat} {xs : Nat → Int32} {Φ : Rs → ah → Prop} (hLs : Ls ≤ 2560) {j : Nat} (hj : 5 * j + 5 ≤ Ls) {d : Dt} {y : Sy} (hC : CC d y) (hM : MR d y) {K N : Nat} (hK : 4 ≤ K) (hN : 24 ≤ N) (kk : ∀ d' y', CC d' y' → MR d' y' → AL (SX Ls xs) mL_law 20 true Φ (K - 4) (N - 24) 2092 (lv5 j) [] (HP d')) : AL (SX Ls xs) mL_law 20 true Φ K N 1265 (lv5 j) [] (HP d) := by
  refine al_aload_n dL_law_1265 rfl ?_
  refine al_aload_n dL_law_1266 rfl ?_
  refine al_cSH (M' := mL_whyNot) dL_law_1267 oL_whyNot sL_whyNot lL_180 (kL_whyNot hC) rfl rfl (Nat.le_of_ble_eq_true rfl) (Nat.le_of_ble_eq_true rfl) (Nat.le_of_ble_eq_true rfl) hK hN ?_
  rintro v d1 ⟨x, rfl, ⟨hL1, hC1⟩, hx1, ho1, hb1⟩
  subst hx1
  have hM1 := MR_L hM hL1
  refine al_istore dL_law_1270 (by decide) rfl ?_
  refine al_aload_n dL_law_1272 rfl ?_
  refine al_cV (M' := mX8_whyNot) dL_law_1273 oX8_whyNot vX8_whyNot rfl lL_183 (kX8_whyNot hM1) rfl (hp_160 _) rfl rfl rfl (Nat.le_of_ble_eq_true rfl) (Nat.le_of_ble_eq_true rfl) (Nat.le_of_ble_eq_true rfl) (Nat.zero_le _) (Nat.zero_le _) (fun _ _ z => z) ?_
  rintro v d2 ⟨x2, rfl, hf, h7, hx2, hM2⟩
  have hC2 := CC_M hC1 hf
  refine al_istore dL_law_1276 (by decide) rfl ?_
  refine al_aload_n dL_law_1278 rfl ?_
  refine al_cV (M' := mX8_thrown) dL_law_1279 oX8_thrown vX8_thrown rfl lL_127 kX8_thrown rfl (hp_160 _) rfl rfl rfl (Nat.le_of_ble_eq_true rfl) (Nat.le_of_ble_eq_true rfl) (Nat.le_of_ble_eq_true rfl) (Nat.zero_le _) (Nat.zero_le _) (fun _ _ z => z) ?_
  rintro v d3 ⟨x3, rfl, hx3, hd3⟩
  rw [hd3, hx3, h7]
  refine al_iload dL_law_1282 rfl ?_
  refine al_icmp_eq 1289 dL_law_1284 (by decide) (fun _ => ?_) (fun c => absurd rfl c)
  refine al_iload dL_law_1289 rfl ?_
  refine al_if_ne 1306 dL_law_1291 (by decide) (fun _ => ?_) (fun c0 => ?_)
  · refine al_goto (tgt := 2092) dL_law_1306 (by decide) ?_
    exact AL.drop (m := 6) rfl (kk _ _ hC2 hM2)
  · have ho : (oWhyNot y).1 = 0 := nI_z hb1 c0
    refine al_aload_n dL_law_1294 rfl ?_
    refine al_iconst (v := 0) dL_law_1295 (by decide) ?_
    refine al_laldV dL_law_1296 (hp_190 _) ((congrFun (fM_190 hf) 0).trans (ho1 ho)) ?_
    refine al_iload dL_law_1297 rfl ?_
    refine al_i2l dL_law_1299 ?_
    refine al_lcmp dL_law_1300 ?_
    refine al_if_eq 1306 dL_law_1301 (by decide) (fun _ => ?_) (fun c => absurd (by rw [hx2 ho]; exact lgc _) c)
    refine al_goto (tgt := 2092) dL_law_1306 (by decide) ?_
    exact AL.drop (m := 6) rfl (kk _ _ hC2 hM2)
set_option maxHeartbeats 4000000 in
set_option maxRecDepth 100000 in
theorem cs_17 {Ls : Nat} {xs : Nat → Int32} {Φ : Rs → ah → Prop} (hLs : Ls ≤ 2560) {j : Nat} (hj : 5 * j + 5 ≤ Ls) {d : Dt} {y : Sy} (hC : CC d y) (hM : MR d y) {K N : Nat} (hK : 4 ≤ K) (hN : 24 ≤ N) (kk : ∀ d' y', CC d' y' → MR d' y' → AL (SX Ls xs) mL_law 20 true Φ (K - 4) (N - 24) 2092 (lv5 j) [] (HP d')) : AL (SX Ls xs) mL_law 20 true Φ K N 1309 (lv5 j) [] (HP d) := by
  refine al_aload_n dL_law_1309 rfl ?_
  refine al_aload_n dL_law_1310 rfl ?_
  refine al_iload dL_law_1311 rfl ?_
  refine al_iconst (v := 1) dL_law_1313 (by decide) ?_
  refine al_iadd dL_law_1314 ?_
  refine al_sld (q := 5 * j + 1) dL_law_1315 (nI_add (5 * j) 1) (by omega) hLs ?_
  refine al_aload_n dL_law_1316 rfl ?_
  refine al_iload dL_law_1317 rfl ?_
  refine al_iconst (v := 2) dL_law_1319 (by decide) ?_
  refine al_iadd dL_law_1320 ?_
  refine al_sld (q := 5 * j + 2) dL_law_1321 (nI_add (5 * j) 2) (by omega) hLs ?_
  refine al_aload_n dL_law_1322 rfl ?_
  refine al_cSH (M' := mL_station) dL_law_1323 oL_station sL_station lL_184 (kL_station hC) rfl rfl (Nat.le_of_ble_eq_true rfl) (Nat.le_of_ble_eq_true rfl) (Nat.le_of_ble_eq_true rfl) hK hN ?_
  rintro v d1 ⟨x, rfl, ⟨hL1, hC1⟩, hx1, ho1, hb1⟩
  subst hx1
  have hM1 := MR_L hM hL1
  refine al_istore dL_law_1326 (by decide) rfl ?_
  refine al_aload_n dL_law_1328 rfl ?_
  refine al_aload_n dL_law_1329 rfl ?_
  refine al_iload dL_law_1330 rfl ?_
  refine al_iconst (v := 1) dL_law_1332 (by decide) ?_
  refine al_iadd dL_law_1333 ?_
  refine al_sld (q := 5 * j + 1) dL_law_1334 (nI_add (5 * j) 1) (by omega) hLs ?_
  refine al_aload_n dL_law_1335 rfl ?_
  refine al_iload dL_law_1336 rfl ?_
  refine al_iconst (v := 2) dL_law_1338 (by decide) ?_
  refine al_iadd dL_law_1339 ?_
  refine al_sld (q := 5 * j + 2) dL_law_1340 (nI_add (5 * j) 2) (by omega) hLs ?_
  refine al_cV (M' := mX8_station) dL_law_1341 oX8_station vX8_station rfl lL_186 (kX8_station hM1) rfl (hp_160 _) rfl rfl rfl (Nat.le_of_ble_eq_true rfl) (Nat.le_of_ble_eq_true rfl) (Nat.le_of_ble_eq_true rfl) (Nat.zero_le _) (Nat.zero_le _) (fun _ _ z => z) ?_
  rintro v d2 ⟨x2, rfl, hf, h7, hx2, hM2⟩
  have hC2 := CC_M hC1 hf
  refine al_istore dL_law_1344 (by decide) rfl ?_
  refine al_aload_n dL_law_1346 rfl ?_
  refine al_cV (M' := mX8_thrown) dL_law_1347 oX8_thrown vX8_thrown rfl lL_127 kX8_thrown rfl (hp_160 _) rfl rfl rfl (Nat.le_of_ble_eq_true rfl) (Nat.le_of_ble_eq_true rfl) (Nat.le_of_ble_eq_true rfl) (Nat.zero_le _) (Nat.zero_le _) (fun _ _ z => z) ?_
  rintro v d3 ⟨x3, rfl, hx3, hd3⟩
  rw [hd3, hx3, h7]
  refine al_iload dL_law_1350 rfl ?_
  refine al_icmp_eq 1357 dL_law_1352 (by decide) (fun _ => ?_) (fun c => absurd rfl c)
  refine al_iload dL_law_1357 rfl ?_
  refine al_if_ne 1374 dL_law_1359 (by decide) (fun _ => ?_) (fun c0 => ?_)
  · refine al_goto (tgt := 2092) dL_law_1374 (by decide) ?_
    exact AL.drop (m := 6) rfl (kk _ _ hC2 hM2)
  · have ho : (oStation y (xs (5 * j + 1)) (xs (5 * j + 2))).1 = 0 := nI_z hb1 c0
    refine al_aload_n dL_law_1362 rfl ?_
    refine al_iconst (v := 0) dL_law_1363 (by decide) ?_
    refine al_laldV dL_law_1364 (hp_190 _) ((congrFun (fM_190 hf) 0).trans (ho1 ho)) ?_
    refine al_iload dL_law_1365 rfl ?_
    refine al_i2l dL_law_1367 ?_
    refine al_lcmp dL_law_1368 ?_
    refine al_if_eq 1374 dL_law_1369 (by decide) (fun _ => ?_) (fun c => absurd (by rw [hx2 ho]; exact lgc _) c)
    refine al_goto (tgt := 2092) dL_law_1374 (by decide) ?_
    exact AL.drop (m := 6) rfl (kk _ _ hC2 hM2)
set_option maxHeartbeats 4000000 in
set_option maxRecDepth 100000 in
theorem cs_18z {Ls : Nat} {xs : Nat → Int32} {Φ : Rs → ah → Prop} (hLs : Ls ≤ 2560) {j : Nat} (hj : 5 * j + 5 ≤ Ls) {d : Dt} {y : Sy} (hC : CC d y) (hM : MR d y) {K N : Nat} (hK : 4 ≤ K) (hN : 24 ≤ N) (kk : ∀ d' y', CC d' y' → MR d' y' → AL (SX Ls xs) mL_law 20 true Φ (K - 4) (N - 24) 2092 (lv5 j) [] (HP d')) (hz : xs (5 * j + 3) = 0) : AL (SX Ls xs) mL_law 20 true Φ K N 1377 (lv5 j) [] (HP d) := by
  refine al_aload_n dL_law_1377 rfl ?_
  refine al_aload_n dL_law_1378 rfl ?_
  refine al_iload dL_law_1379 rfl ?_
  refine al_iconst (v := 1) dL_law_1381 (by decide) ?_
  refine al_iadd dL_law_1382 ?_
  refine al_sld (q := 5 * j + 1) dL_law_1383 (nI_add (5 * j) 1) (by omega) hLs ?_
  refine al_aload_n dL_law_1384 rfl ?_
  refine al_iload dL_law_1385 rfl ?_
  refine al_iconst (v := 2) dL_law_1387 (by decide) ?_
  refine al_iadd dL_law_1388 ?_
  refine al_sld (q := 5 * j + 2) dL_law_1389 (nI_add (5 * j) 2) (by omega) hLs ?_
  refine al_aload_n dL_law_1390 rfl ?_
  refine al_iload dL_law_1391 rfl ?_
  refine al_iconst (v := 3) dL_law_1393 (by decide) ?_
  refine al_iadd dL_law_1394 ?_
  refine al_sld (q := 5 * j + 3) dL_law_1395 (nI_add (5 * j) 3) (by omega) hLs ?_
  refine al_if_eq 1403 dL_law_1396 (by decide) (fun _ => ?_) (fun c => absurd hz c)
  refine al_iconst (v := 0) dL_law_1403 (by decide) ?_
  refine al_aload_n dL_law_1404 rfl ?_
  refine al_cSH (M' := mL_time) dL_law_1405 oL_time sL_time lL_187 (kL_time_f hC) rfl rfl (Nat.le_of_ble_eq_true rfl) (Nat.le_of_ble_eq_true rfl) (Nat.le_of_ble_eq_true rfl) hK hN ?_
  rintro v d1 ⟨x, rfl, ⟨hL1, hC1⟩, hx1, ho1, hb1⟩
  subst hx1
  have hM1 := MR_L hM hL1
  refine al_istore dL_law_1408 (by decide) rfl ?_
  refine al_aload_n dL_law_1410 rfl ?_
  refine al_aload_n dL_law_1411 rfl ?_
  refine al_iload dL_law_1412 rfl ?_
  refine al_iconst (v := 1) dL_law_1414 (by decide) ?_
  refine al_iadd dL_law_1415 ?_
  refine al_sld (q := 5 * j + 1) dL_law_1416 (nI_add (5 * j) 1) (by omega) hLs ?_
  refine al_aload_n dL_law_1417 rfl ?_
  refine al_iload dL_law_1418 rfl ?_
  refine al_iconst (v := 2) dL_law_1420 (by decide) ?_
  refine al_iadd dL_law_1421 ?_
  refine al_sld (q := 5 * j + 2) dL_law_1422 (nI_add (5 * j) 2) (by omega) hLs ?_
  refine al_aload_n dL_law_1423 rfl ?_
  refine al_iload dL_law_1424 rfl ?_
  refine al_iconst (v := 3) dL_law_1426 (by decide) ?_
  refine al_iadd dL_law_1427 ?_
  refine al_sld (q := 5 * j + 3) dL_law_1428 (nI_add (5 * j) 3) (by omega) hLs ?_
  refine al_if_eq 1436 dL_law_1429 (by decide) (fun _ => ?_) (fun c => absurd hz c)
  refine al_iconst (v := 0) dL_law_1436 (by decide) ?_
  refine al_cV (M' := mX8_time) dL_law_1437 oX8_time vX8_time rfl lL_189 (kX8_time hM1 (z := false)) rfl (hp_160 _) rfl rfl rfl (Nat.le_of_ble_eq_true rfl) (Nat.le_of_ble_eq_true rfl) (Nat.le_of_ble_eq_true rfl) (Nat.zero_le _) (Nat.zero_le _) (fun _ _ z => z) ?_
  rintro v d2 ⟨x2, rfl, hf, h7, hx2, hM2⟩
  have hC2 := CC_M hC1 hf
  refine al_istore dL_law_1440 (by decide) rfl ?_
  refine al_aload_n dL_law_1442 rfl ?_
  refine al_cV (M' := mX8_thrown) dL_law_1443 oX8_thrown vX8_thrown rfl lL_127 kX8_thrown rfl (hp_160 _) rfl rfl rfl (Nat.le_of_ble_eq_true rfl) (Nat.le_of_ble_eq_true rfl) (Nat.le_of_ble_eq_true rfl) (Nat.zero_le _) (Nat.zero_le _) (fun _ _ z => z) ?_
  rintro v d3 ⟨x3, rfl, hx3, hd3⟩
  rw [hd3, hx3, h7]
  refine al_iload dL_law_1446 rfl ?_
  refine al_icmp_eq 1453 dL_law_1448 (by decide) (fun _ => ?_) (fun c => absurd rfl c)
  refine al_iload dL_law_1453 rfl ?_
  refine al_if_ne 1470 dL_law_1455 (by decide) (fun _ => ?_) (fun c0 => ?_)
  · refine al_goto (tgt := 2092) dL_law_1470 (by decide) ?_
    exact AL.drop (m := 6) rfl (kk _ _ hC2 hM2)
  · have ho : (oTime y (xs (5 * j + 1)) (xs (5 * j + 2)) false).1 = 0 := nI_z hb1 c0
    refine al_aload_n dL_law_1458 rfl ?_
    refine al_iconst (v := 0) dL_law_1459 (by decide) ?_
    refine al_laldV dL_law_1460 (hp_190 _) ((congrFun (fM_190 hf) 0).trans (ho1 ho)) ?_
    refine al_iload dL_law_1461 rfl ?_
    refine al_i2l dL_law_1463 ?_
    refine al_lcmp dL_law_1464 ?_
    refine al_if_eq 1470 dL_law_1465 (by decide) (fun _ => ?_) (fun c => absurd (by rw [hx2 ho]; exact lgc _) c)
    refine al_goto (tgt := 2092) dL_law_1470 (by decide) ?_
    exact AL.drop (m := 6) rfl (kk _ _ hC2 hM2)
set_option maxHeartbeats 4000000 in
set_option maxRecDepth 100000 in
theorem cs_18n {Ls : Nat} {xs : Nat → Int32} {Φ : Rs → ah → Prop} (hLs : Ls ≤ 2560) {j : Nat} (hj : 5 * j + 5 ≤ Ls) {d : Dt} {y : Sy} (hC : CC d y) (hM : MR d y) {K N : Nat} (hK : 4 ≤ K) (hN : 24 ≤ N) (kk : ∀ d' y', CC d' y' → MR d' y' → AL (SX Ls xs) mL_law 20 true Φ (K - 4) (N - 24) 2092 (lv5 j) [] (HP d')) (hz : ¬ xs (5 * j + 3) = 0) : AL (SX Ls xs) mL_law 20 true Φ K N 1377 (lv5 j) [] (HP d) := by
  refine al_aload_n dL_law_1377 rfl ?_
  refine al_aload_n dL_law_1378 rfl ?_
  refine al_iload dL_law_1379 rfl ?_
  refine al_iconst (v := 1) dL_law_1381 (by decide) ?_
  refine al_iadd dL_law_1382 ?_
  refine al_sld (q := 5 * j + 1) dL_law_1383 (nI_add (5 * j) 1) (by omega) hLs ?_
  refine al_aload_n dL_law_1384 rfl ?_
  refine al_iload dL_law_1385 rfl ?_
  refine al_iconst (v := 2) dL_law_1387 (by decide) ?_
  refine al_iadd dL_law_1388 ?_
  refine al_sld (q := 5 * j + 2) dL_law_1389 (nI_add (5 * j) 2) (by omega) hLs ?_
  refine al_aload_n dL_law_1390 rfl ?_
  refine al_iload dL_law_1391 rfl ?_
  refine al_iconst (v := 3) dL_law_1393 (by decide) ?_
  refine al_iadd dL_law_1394 ?_
  refine al_sld (q := 5 * j + 3) dL_law_1395 (nI_add (5 * j) 3) (by omega) hLs ?_
  refine al_if_eq 1403 dL_law_1396 (by decide) (fun c => absurd c hz) (fun _ => ?_)
  refine al_iconst (v := 1) dL_law_1399 (by decide) ?_
  refine al_goto (tgt := 1404) dL_law_1400 (by decide) ?_
  refine al_aload_n dL_law_1404 rfl ?_
  refine al_cSH (M' := mL_time) dL_law_1405 oL_time sL_time lL_187 (kL_time_t hC) rfl rfl (Nat.le_of_ble_eq_true rfl) (Nat.le_of_ble_eq_true rfl) (Nat.le_of_ble_eq_true rfl) hK hN ?_
  rintro v d1 ⟨x, rfl, ⟨hL1, hC1⟩, hx1, ho1, hb1⟩
  subst hx1
  have hM1 := MR_L hM hL1
  refine al_istore dL_law_1408 (by decide) rfl ?_
  refine al_aload_n dL_law_1410 rfl ?_
  refine al_aload_n dL_law_1411 rfl ?_
  refine al_iload dL_law_1412 rfl ?_
  refine al_iconst (v := 1) dL_law_1414 (by decide) ?_
  refine al_iadd dL_law_1415 ?_
  refine al_sld (q := 5 * j + 1) dL_law_1416 (nI_add (5 * j) 1) (by omega) hLs ?_
  refine al_aload_n dL_law_1417 rfl ?_
  refine al_iload dL_law_1418 rfl ?_
  refine al_iconst (v := 2) dL_law_1420 (by decide) ?_
  refine al_iadd dL_law_1421 ?_
  refine al_sld (q := 5 * j + 2) dL_law_1422 (nI_add (5 * j) 2) (by omega) hLs ?_
  refine al_aload_n dL_law_1423 rfl ?_
  refine al_iload dL_law_1424 rfl ?_
  refine al_iconst (v := 3) dL_law_1426 (by decide) ?_
  refine al_iadd dL_law_1427 ?_
  refine al_sld (q := 5 * j + 3) dL_law_1428 (nI_add (5 * j) 3) (by omega) hLs ?_
  refine al_if_eq 1436 dL_law_1429 (by decide) (fun c => absurd c hz) (fun _ => ?_)
  refine al_iconst (v := 1) dL_law_1432 (by decide) ?_
  refine al_goto (tgt := 1437) dL_law_1433 (by decide) ?_
  refine al_cV (M' := mX8_time) dL_law_1437 oX8_time vX8_time rfl lL_189 (kX8_time hM1 (z := true)) rfl (hp_160 _) rfl rfl rfl (Nat.le_of_ble_eq_true rfl) (Nat.le_of_ble_eq_true rfl) (Nat.le_of_ble_eq_true rfl) (Nat.zero_le _) (Nat.zero_le _) (fun _ _ z => z) ?_
  rintro v d2 ⟨x2, rfl, hf, h7, hx2, hM2⟩
  have hC2 := CC_M hC1 hf
  refine al_istore dL_law_1440 (by decide) rfl ?_
  refine al_aload_n dL_law_1442 rfl ?_
  refine al_cV (M' := mX8_thrown) dL_law_1443 oX8_thrown vX8_thrown rfl lL_127 kX8_thrown rfl (hp_160 _) rfl rfl rfl (Nat.le_of_ble_eq_true rfl) (Nat.le_of_ble_eq_true rfl) (Nat.le_of_ble_eq_true rfl) (Nat.zero_le _) (Nat.zero_le _) (fun _ _ z => z) ?_
  rintro v d3 ⟨x3, rfl, hx3, hd3⟩
  rw [hd3, hx3, h7]
  refine al_iload dL_law_1446 rfl ?_
  refine al_icmp_eq 1453 dL_law_1448 (by decide) (fun _ => ?_) (fun c => absurd rfl c)
  refine al_iload dL_law_1453 rfl ?_
  refine al_if_ne 1470 dL_law_1455 (by decide) (fun _ => ?_) (fun c0 => ?_)
  · refine al_goto (tgt := 2092) dL_law_1470 (by decide) ?_
    exact AL.drop (m := 6) rfl (kk _ _ hC2 hM2)
  · have ho : (oTime y (xs (5 * j + 1)) (xs (5 * j + 2)) true).1 = 0 := nI_z hb1 c0
    refine al_aload_n dL_law_1458 rfl ?_
    refine al_iconst (v := 0) dL_law_1459 (by decide) ?_
    refine al_laldV dL_law_1460 (hp_190 _) ((congrFun (fM_190 hf) 0).trans (ho1 ho)) ?_
    refine al_iload dL_law_1461 rfl ?_
    refine al_i2l dL_law_1463 ?_
    refine al_lcmp dL_law_1464 ?_
    refine al_if_eq 1470 dL_law_1465 (by decide) (fun _ => ?_) (fun c => absurd (by rw [hx2 ho]; exact lgc _) c)
    refine al_goto (tgt := 2092) dL_law_1470 (by decide) ?_
    exact AL.drop (m := 6) rfl (kk _ _ hC2 hM2)
set_option maxHeartbeats 4000000 in
set_option maxRecDepth 100000 in
theorem cs_18 {Ls : Nat} {xs : Nat → Int32} {Φ : Rs → ah → Prop} (hLs : Ls ≤ 2560) {j : Nat} (hj : 5 * j + 5 ≤ Ls) {d : Dt} {y : Sy} (hC : CC d y) (hM : MR d y) {K N : Nat} (hK : 4 ≤ K) (hN : 24 ≤ N) (kk : ∀ d' y', CC d' y' → MR d' y' → AL (SX Ls xs) mL_law 20 true Φ (K - 4) (N - 24) 2092 (lv5 j) [] (HP d')) : AL (SX Ls xs) mL_law 20 true Φ K N 1377 (lv5 j) [] (HP d) := by
  by_cases hz : xs (5 * j + 3) = 0
  · exact cs_18z hLs hj hC hM hK hN kk hz
  · exact cs_18n hLs hj hC hM hK hN kk hz
set_option maxHeartbeats 4000000 in
set_option maxRecDepth 100000 in
theorem cs_19 {Ls : Nat} {xs : Nat → Int32} {Φ : Rs → ah → Prop} (hLs : Ls ≤ 2560) {j : Nat} (hj : 5 * j + 5 ≤ Ls) {d : Dt} {y : Sy} (hC : CC d y) (hM : MR d y) {K N : Nat} (hK : 4 ≤ K) (hN : 24 ≤ N) (kk : ∀ d' y', CC d' y' → MR d' y' → AL (SX Ls xs) mL_law 20 true Φ (K - 4) (N - 24) 2092 (lv5 j) [] (HP d')) : AL (SX Ls xs) mL_law 20 true Φ K N 1473 (lv5 j) [] (HP d) := by
  refine al_aload_n dL_law_1473 rfl ?_
  refine al_aload_n dL_law_1474 rfl ?_
  refine al_iload dL_law_1475 rfl ?_
  refine al_iconst (v := 1) dL_law_1477 (by decide) ?_
  refine al_iadd dL_law_1478 ?_
  refine al_sld (q := 5 * j + 1) dL_law_1479 (nI_add (5 * j) 1) (by omega) hLs ?_
  refine al_aload_n dL_law_1480 rfl ?_
  refine al_iload dL_law_1481 rfl ?_
  refine al_iconst (v := 2) dL_law_1483 (by decide) ?_
  refine al_iadd dL_law_1484 ?_
  refine al_sld (q := 5 * j + 2) dL_law_1485 (nI_add (5 * j) 2) (by omega) hLs ?_
  refine al_aload_n dL_law_1486 rfl ?_
  refine al_cSH (M' := mL_sequence) dL_law_1487 oL_sequence sL_sequence lL_190 (kL_sequence hC) rfl rfl (Nat.le_of_ble_eq_true rfl) (Nat.le_of_ble_eq_true rfl) (Nat.le_of_ble_eq_true rfl) hK hN ?_
  rintro v d1 ⟨x, rfl, ⟨hL1, hC1⟩, hx1, ho1, hb1⟩
  subst hx1
  have hM1 := MR_L hM hL1
  refine al_istore dL_law_1490 (by decide) rfl ?_
  refine al_aload_n dL_law_1492 rfl ?_
  refine al_aload_n dL_law_1493 rfl ?_
  refine al_iload dL_law_1494 rfl ?_
  refine al_iconst (v := 1) dL_law_1496 (by decide) ?_
  refine al_iadd dL_law_1497 ?_
  refine al_sld (q := 5 * j + 1) dL_law_1498 (nI_add (5 * j) 1) (by omega) hLs ?_
  refine al_aload_n dL_law_1499 rfl ?_
  refine al_iload dL_law_1500 rfl ?_
  refine al_iconst (v := 2) dL_law_1502 (by decide) ?_
  refine al_iadd dL_law_1503 ?_
  refine al_sld (q := 5 * j + 2) dL_law_1504 (nI_add (5 * j) 2) (by omega) hLs ?_
  refine al_cV (M' := mX8_sequence) dL_law_1505 oX8_sequence vX8_sequence rfl lL_192 (kX8_sequence hM1) rfl (hp_160 _) rfl rfl rfl (Nat.le_of_ble_eq_true rfl) (Nat.le_of_ble_eq_true rfl) (Nat.le_of_ble_eq_true rfl) (Nat.zero_le _) (Nat.zero_le _) (fun _ _ z => z) ?_
  rintro v d2 ⟨x2, rfl, hf, h7, hx2, hM2⟩
  have hC2 := CC_M hC1 hf
  refine al_istore dL_law_1508 (by decide) rfl ?_
  refine al_aload_n dL_law_1510 rfl ?_
  refine al_cV (M' := mX8_thrown) dL_law_1511 oX8_thrown vX8_thrown rfl lL_127 kX8_thrown rfl (hp_160 _) rfl rfl rfl (Nat.le_of_ble_eq_true rfl) (Nat.le_of_ble_eq_true rfl) (Nat.le_of_ble_eq_true rfl) (Nat.zero_le _) (Nat.zero_le _) (fun _ _ z => z) ?_
  rintro v d3 ⟨x3, rfl, hx3, hd3⟩
  rw [hd3, hx3, h7]
  refine al_iload dL_law_1514 rfl ?_
  refine al_icmp_eq 1521 dL_law_1516 (by decide) (fun _ => ?_) (fun c => absurd rfl c)
  refine al_iload dL_law_1521 rfl ?_
  refine al_if_ne 1538 dL_law_1523 (by decide) (fun _ => ?_) (fun c0 => ?_)
  · refine al_goto (tgt := 2092) dL_law_1538 (by decide) ?_
    exact AL.drop (m := 6) rfl (kk _ _ hC2 hM2)
  · have ho : (oSequence y (xs (5 * j + 1)) (xs (5 * j + 2))).1 = 0 := nI_z hb1 c0
    refine al_aload_n dL_law_1526 rfl ?_
    refine al_iconst (v := 0) dL_law_1527 (by decide) ?_
    refine al_laldV dL_law_1528 (hp_190 _) ((congrFun (fM_190 hf) 0).trans (ho1 ho)) ?_
    refine al_iload dL_law_1529 rfl ?_
    refine al_i2l dL_law_1531 ?_
    refine al_lcmp dL_law_1532 ?_
    refine al_if_eq 1538 dL_law_1533 (by decide) (fun _ => ?_) (fun c => absurd (by rw [hx2 ho]; exact lgc _) c)
    refine al_goto (tgt := 2092) dL_law_1538 (by decide) ?_
    exact AL.drop (m := 6) rfl (kk _ _ hC2 hM2)
set_option maxHeartbeats 4000000 in
set_option maxRecDepth 100000 in
theorem cs_20 {Ls : Nat} {xs : Nat → Int32} {Φ : Rs → ah → Prop} (hLs : Ls ≤ 2560) {j : Nat} (hj : 5 * j + 5 ≤ Ls) {d : Dt} {y : Sy} (hC : CC d y) (hM : MR d y) {K N : Nat} (hK : 4 ≤ K) (hN : 24 ≤ N) (kk : ∀ d' y', CC d' y' → MR d' y' → AL (SX Ls xs) mL_law 20 true Φ (K - 4) (N - 24) 2092 (lv5 j) [] (HP d')) : AL (SX Ls xs) mL_law 20 true Φ K N 1541 (lv5 j) [] (HP d) := by
  refine al_aload_n dL_law_1541 rfl ?_
  refine al_aload_n dL_law_1542 rfl ?_
  refine al_iload dL_law_1543 rfl ?_
  refine al_iconst (v := 1) dL_law_1545 (by decide) ?_
  refine al_iadd dL_law_1546 ?_
  refine al_sld (q := 5 * j + 1) dL_law_1547 (nI_add (5 * j) 1) (by omega) hLs ?_
  refine al_aload_n dL_law_1548 rfl ?_
  refine al_cSH (M' := mL_line) dL_law_1549 oL_line sL_line lL_193 (kL_line hC) rfl rfl (Nat.le_of_ble_eq_true rfl) (Nat.le_of_ble_eq_true rfl) (Nat.le_of_ble_eq_true rfl) hK hN ?_
  rintro v d1 ⟨x, rfl, ⟨hL1, hC1⟩, hx1, ho1, hb1⟩
  subst hx1
  have hM1 := MR_L hM hL1
  refine al_istore dL_law_1552 (by decide) rfl ?_
  refine al_aload_n dL_law_1554 rfl ?_
  refine al_aload_n dL_law_1555 rfl ?_
  refine al_iload dL_law_1556 rfl ?_
  refine al_iconst (v := 1) dL_law_1558 (by decide) ?_
  refine al_iadd dL_law_1559 ?_
  refine al_sld (q := 5 * j + 1) dL_law_1560 (nI_add (5 * j) 1) (by omega) hLs ?_
  refine al_cV (M' := mX8_line) dL_law_1561 oX8_line vX8_line rfl lL_195 (kX8_line hM1) rfl (hp_160 _) rfl rfl rfl (Nat.le_of_ble_eq_true rfl) (Nat.le_of_ble_eq_true rfl) (Nat.le_of_ble_eq_true rfl) (Nat.zero_le _) (Nat.zero_le _) (fun _ _ z => z) ?_
  rintro v d2 ⟨x2, rfl, hf, h7, hx2, hM2⟩
  have hC2 := CC_M hC1 hf
  refine al_istore dL_law_1564 (by decide) rfl ?_
  refine al_aload_n dL_law_1566 rfl ?_
  refine al_cV (M' := mX8_thrown) dL_law_1567 oX8_thrown vX8_thrown rfl lL_127 kX8_thrown rfl (hp_160 _) rfl rfl rfl (Nat.le_of_ble_eq_true rfl) (Nat.le_of_ble_eq_true rfl) (Nat.le_of_ble_eq_true rfl) (Nat.zero_le _) (Nat.zero_le _) (fun _ _ z => z) ?_
  rintro v d3 ⟨x3, rfl, hx3, hd3⟩
  rw [hd3, hx3, h7]
  refine al_iload dL_law_1570 rfl ?_
  refine al_icmp_eq 1577 dL_law_1572 (by decide) (fun _ => ?_) (fun c => absurd rfl c)
  refine al_iload dL_law_1577 rfl ?_
  refine al_if_ne 1594 dL_law_1579 (by decide) (fun _ => ?_) (fun c0 => ?_)
  · refine al_goto (tgt := 2092) dL_law_1594 (by decide) ?_
    exact AL.drop (m := 6) rfl (kk _ _ hC2 hM2)
  · have ho : (oLine y (xs (5 * j + 1))).1 = 0 := nI_z hb1 c0
    refine al_aload_n dL_law_1582 rfl ?_
    refine al_iconst (v := 0) dL_law_1583 (by decide) ?_
    refine al_laldV dL_law_1584 (hp_190 _) ((congrFun (fM_190 hf) 0).trans (ho1 ho)) ?_
    refine al_iload dL_law_1585 rfl ?_
    refine al_i2l dL_law_1587 ?_
    refine al_lcmp dL_law_1588 ?_
    refine al_if_eq 1594 dL_law_1589 (by decide) (fun _ => ?_) (fun c => absurd (by rw [hx2 ho]; exact lgc _) c)
    refine al_goto (tgt := 2092) dL_law_1594 (by decide) ?_
    exact AL.drop (m := 6) rfl (kk _ _ hC2 hM2)
set_option maxHeartbeats 4000000 in
set_option maxRecDepth 100000 in
theorem cs_21 {Ls : Nat} {xs : Nat → Int32} {Φ : Rs → ah → Prop} (hLs : Ls ≤ 2560) {j : Nat} (hj : 5 * j + 5 ≤ Ls) {d : Dt} {y : Sy} (hC : CC d y) (hM : MR d y) {K N : Nat} (hK : 4 ≤ K) (hN : 24 ≤ N) (kk : ∀ d' y', CC d' y' → MR d' y' → AL (SX Ls xs) mL_law 20 true Φ (K - 4) (N - 24) 2092 (lv5 j) [] (HP d')) : AL (SX Ls xs) mL_law 20 true Φ K N 1597 (lv5 j) [] (HP d) := by
  refine al_aload_n dL_law_1597 rfl ?_
  refine al_aload dL_law_1598 rfl ?_
  refine al_cSH (M' := mL_efficiency) dL_law_1600 oL_efficiency sL_efficiency lL_196 (kL_efficiency hC) rfl rfl (Nat.le_of_ble_eq_true rfl) (Nat.le_of_ble_eq_true rfl) (Nat.le_of_ble_eq_true rfl) hK hN ?_
  rintro v d1 ⟨x, rfl, ⟨hL1, hC1⟩, hx1, ho1⟩
  subst hx1
  have hM1 := MR_L hM hL1
  refine al_istore dL_law_1603 (by decide) rfl ?_
  refine al_aload_n dL_law_1605 rfl ?_
  refine al_cV (M' := mX8_efficiency) dL_law_1606 oX8_efficiency vX8_efficiency rfl lL_199 (kX8_efficiency hM1) rfl (hp_160 _) rfl rfl rfl (Nat.le_of_ble_eq_true rfl) (Nat.le_of_ble_eq_true rfl) (Nat.le_of_ble_eq_true rfl) (Nat.zero_le _) (Nat.zero_le _) (fun _ _ z => z) ?_
  rintro v d2 ⟨x2, rfl, hf, hM2, h7, hx2⟩
  have hC2 := CC_M hC1 hf
  have h7' : d2.1 160 7 = (if ovQ y.1 1 = 0 then 1 else 0) := h7.trans (by split <;> rfl)
  clear h7
  have h7 := h7'
  refine al_fstore dL_law_1609 (by decide) rfl ?_
  refine al_aload_n dL_law_1611 rfl ?_
  refine al_cV (M' := mX8_thrown) dL_law_1612 oX8_thrown vX8_thrown rfl lL_127 kX8_thrown rfl (hp_160 _) rfl rfl rfl (Nat.le_of_ble_eq_true rfl) (Nat.le_of_ble_eq_true rfl) (Nat.le_of_ble_eq_true rfl) (Nat.zero_le _) (Nat.zero_le _) (fun _ _ z => z) ?_
  rintro v d3 ⟨x3, rfl, hx3, hd3⟩
  rw [hd3, hx3, h7]
  refine al_iload dL_law_1615 rfl ?_
  refine al_icmp_eq 1622 dL_law_1617 (by decide) (fun _ => ?_) (fun c => absurd rfl c)
  refine al_iload dL_law_1622 rfl ?_
  refine al_if_ne 1660 dL_law_1624 (by decide) (fun _ => ?_) (fun c0 => ?_)
  · refine al_goto (tgt := 2092) dL_law_1660 (by decide) ?_
    exact AL.drop (m := 6) rfl (kk _ _ hC2 hM2)
  · have ho : ovQ y.1 1 ≠ 0 := fun z => by rw [if_pos z] at c0; exact absurd c0 (by decide)
    refine al_aload dL_law_1627 rfl ?_
    refine al_iconst (v := 0) dL_law_1629 (by decide) ?_
    refine al_daldV dL_law_1630 (hp_191 _) ((congrFun (congrFun hf.2 191) 0).trans (ho1 ho)) ?_
    refine al_fload dL_law_1631 rfl ?_
    rw [hx2 ho]
    refine al_f2d dL_law_1633 (effV_d hC.1.2 ho) ?_
    refine al_dcmp dL_law_1634 ?_
    refine al_if_eq 1660 dL_law_1635 (by decide) (fun _ => ?_) (fun c => absurd (dc0 (effV_v hC.1.2 ho) _) c)
    refine al_goto (tgt := 2092) dL_law_1660 (by decide) ?_
    exact AL.drop (m := 6) rfl (kk _ _ hC2 hM2)
set_option maxHeartbeats 4000000 in
set_option maxRecDepth 100000 in
theorem cs_22 {Ls : Nat} {xs : Nat → Int32} {Φ : Rs → ah → Prop} (hLs : Ls ≤ 2560) {j : Nat} (hj : 5 * j + 5 ≤ Ls) {d : Dt} {y : Sy} (hC : CC d y) (hM : MR d y) {K N : Nat} (hK : 4 ≤ K) (hN : 24 ≤ N) (kk : ∀ d' y', CC d' y' → MR d' y' → AL (SX Ls xs) mL_law 20 true Φ (K - 4) (N - 24) 2092 (lv5 j) [] (HP d')) : AL (SX Ls xs) mL_law 20 true Φ K N 1663 (lv5 j) [] (HP d) := by
  refine al_aload_n dL_law_1663 rfl ?_
  refine al_cV (M' := mX7_unevenness) dL_law_1664 oX7_unevenness vX7_unevenness rfl lL_200 (kX7_unevenness hC) rfl (hp_132 _) rfl rfl rfl (Nat.le_of_ble_eq_true rfl) (Nat.le_of_ble_eq_true rfl) (Nat.le_of_ble_eq_true rfl) (Nat.zero_le _) (Nat.zero_le _) (fun _ _ z => z) ?_
  rintro v d1 ⟨x, rfl, hL1, hC1, hx1⟩
  have hM1 := MR_L hM (fC_L hL1)
  refine al_aload_n dL_law_1667 rfl ?_
  refine al_cV (M' := mX8_unevenness) dL_law_1668 oX8_unevenness vX8_unevenness rfl lL_204 (kX8_unevenness hM1) rfl (hp_160 _) rfl rfl rfl (Nat.le_of_ble_eq_true rfl) (Nat.le_of_ble_eq_true rfl) (Nat.le_of_ble_eq_true rfl) (Nat.zero_le _) (Nat.zero_le _) (fun _ _ z => z) ?_
  rintro v d2 ⟨x2, rfl, ⟨hf, h7, hM2⟩, hx2⟩
  have hC2 := CC_M hC1 hf
  refine al_lcmp dL_law_1671 ?_
  refine al_if_eq 2092 dL_law_1672 (by decide) (fun _ => ?_) (fun c => absurd (by rw [hx1, hx2]; exact lgc _) c)
  exact AL.wk (Nat.sub_le _ _) (Nat.sub_le _ _) (kk _ _ hC2 hM2)
set_option maxHeartbeats 4000000 in
set_option maxRecDepth 100000 in
theorem cs_23 {Ls : Nat} {xs : Nat → Int32} {Φ : Rs → ah → Prop} (hLs : Ls ≤ 2560) {j : Nat} (hj : 5 * j + 5 ≤ Ls) {d : Dt} {y : Sy} (hC : CC d y) (hM : MR d y) {K N : Nat} (hK : 4 ≤ K) (hN : 24 ≤ N) (kk : ∀ d' y', CC d' y' → MR d' y' → AL (SX Ls xs) mL_law 20 true Φ (K - 4) (N - 24) 2092 (lv5 j) [] (HP d')) : AL (SX Ls xs) mL_law 20 true Φ K N 1677 (lv5 j) [] (HP d) := by
  refine al_aload_n dL_law_1677 rfl ?_
  refine al_cV (M' := mX7_clearLine) dL_law_1678 oX7_clearLine vX7_clearLine rfl lL_205 (kX7_clearLine hC) rfl (hp_132 _) rfl rfl rfl (Nat.le_of_ble_eq_true rfl) (Nat.le_of_ble_eq_true rfl) (Nat.le_of_ble_eq_true rfl) hK hN XO_nil ?_
  rintro v d1 ⟨x, rfl, hL1, hC1, h0, hx1⟩
  have hM1 := MR_L hM (fC_L hL1)
  refine al_aload_n dL_law_1681 rfl ?_
  refine al_cV (M' := mX8_clearLine) dL_law_1682 oX8_clearLine vX8_clearLine rfl lL_208 (kX8_clearLine hM1) rfl (hp_160 _) rfl rfl rfl (Nat.le_of_ble_eq_true rfl) (Nat.le_of_ble_eq_true rfl) (Nat.le_of_ble_eq_true rfl) (Nat.zero_le _) (Nat.zero_le _) (fun _ _ z => z) ?_
  rintro v d2 ⟨x2, rfl, hf, h7, hx2, hM2⟩
  have hC2 := CC_M hC1 hf
  refine al_icmp_eq 2092 dL_law_1685 (by decide) (fun _ => ?_) (fun c => absurd (by rw [hx1, hx2 h0]) c)
  exact kk _ _ hC2 hM2
set_option maxHeartbeats 4000000 in
set_option maxRecDepth 100000 in
theorem cs_24 {Ls : Nat} {xs : Nat → Int32} {Φ : Rs → ah → Prop} (hLs : Ls ≤ 2560) {j : Nat} (hj : 5 * j + 5 ≤ Ls) {d : Dt} {y : Sy} (hC : CC d y) (hM : MR d y) {K N : Nat} (hK : 4 ≤ K) (hN : 24 ≤ N) (kk : ∀ d' y', CC d' y' → MR d' y' → AL (SX Ls xs) mL_law 20 true Φ (K - 4) (N - 24) 2092 (lv5 j) [] (HP d')) : AL (SX Ls xs) mL_law 20 true Φ K N 1690 (lv5 j) [] (HP d) := by
  refine al_aload_n dL_law_1690 rfl ?_
  refine al_aload_n dL_law_1691 rfl ?_
  refine al_iload dL_law_1692 rfl ?_
  refine al_iconst (v := 1) dL_law_1694 (by decide) ?_
  refine al_iadd dL_law_1695 ?_
  refine al_sld (q := 5 * j + 1) dL_law_1696 (nI_add (5 * j) 1) (by omega) hLs ?_
  refine al_aload_n dL_law_1697 rfl ?_
  refine al_cSH (M' := mL_fill) dL_law_1698 oL_fill sL_fill lL_209 (kL_fill hC) rfl rfl (Nat.le_of_ble_eq_true rfl) (Nat.le_of_ble_eq_true rfl) (Nat.le_of_ble_eq_true rfl) hK hN ?_
  rintro v d1 ⟨x, rfl, ⟨hL1, hC1⟩, hx1, ho1, hb1⟩
  subst hx1
  have hM1 := MR_L hM hL1
  refine al_istore dL_law_1701 (by decide) rfl ?_
  refine al_aload_n dL_law_1703 rfl ?_
  refine al_aload_n dL_law_1704 rfl ?_
  refine al_iload dL_law_1705 rfl ?_
  refine al_iconst (v := 1) dL_law_1707 (by decide) ?_
  refine al_iadd dL_law_1708 ?_
  refine al_sld (q := 5 * j + 1) dL_law_1709 (nI_add (5 * j) 1) (by omega) hLs ?_
  refine al_cV (M' := mX8_fill) dL_law_1710 oX8_fill vX8_fill rfl lL_211 (kX8_fill hM1) rfl (hp_160 _) rfl rfl rfl (Nat.le_of_ble_eq_true rfl) (Nat.le_of_ble_eq_true rfl) (Nat.le_of_ble_eq_true rfl) (Nat.zero_le _) (Nat.zero_le _) (fun _ _ z => z) ?_
  rintro v d2 ⟨x2, rfl, hf, h7, hx2, hM2⟩
  have hC2 := CC_M hC1 hf
  refine al_istore dL_law_1713 (by decide) rfl ?_
  refine al_aload_n dL_law_1715 rfl ?_
  refine al_cV (M' := mX8_thrown) dL_law_1716 oX8_thrown vX8_thrown rfl lL_127 kX8_thrown rfl (hp_160 _) rfl rfl rfl (Nat.le_of_ble_eq_true rfl) (Nat.le_of_ble_eq_true rfl) (Nat.le_of_ble_eq_true rfl) (Nat.zero_le _) (Nat.zero_le _) (fun _ _ z => z) ?_
  rintro v d3 ⟨x3, rfl, hx3, hd3⟩
  rw [hd3, hx3, h7]
  refine al_iload dL_law_1719 rfl ?_
  refine al_icmp_eq 1726 dL_law_1721 (by decide) (fun _ => ?_) (fun c => absurd rfl c)
  refine al_iload dL_law_1726 rfl ?_
  refine al_if_ne 1743 dL_law_1728 (by decide) (fun _ => ?_) (fun c0 => ?_)
  · refine al_goto (tgt := 2092) dL_law_1743 (by decide) ?_
    exact AL.drop (m := 6) rfl (kk _ _ hC2 hM2)
  · have ho : (oFill y (xs (5 * j + 1))).1 = 0 := nI_z hb1 c0
    refine al_aload_n dL_law_1731 rfl ?_
    refine al_iconst (v := 0) dL_law_1732 (by decide) ?_
    refine al_laldV dL_law_1733 (hp_190 _) ((congrFun (fM_190 hf) 0).trans (ho1 ho)) ?_
    refine al_iload dL_law_1734 rfl ?_
    refine al_i2l dL_law_1736 ?_
    refine al_lcmp dL_law_1737 ?_
    refine al_if_eq 1743 dL_law_1738 (by decide) (fun _ => ?_) (fun c => absurd (by rw [hx2 ho]; exact lgc _) c)
    refine al_goto (tgt := 2092) dL_law_1743 (by decide) ?_
    exact AL.drop (m := 6) rfl (kk _ _ hC2 hM2)
set_option maxHeartbeats 4000000 in
set_option maxRecDepth 100000 in
theorem cs_25 {Ls : Nat} {xs : Nat → Int32} {Φ : Rs → ah → Prop} (hLs : Ls ≤ 2560) {j : Nat} (hj : 5 * j + 5 ≤ Ls) {d : Dt} {y : Sy} (hC : CC d y) (hM : MR d y) {K N : Nat} (hK : 4 ≤ K) (hN : 24 ≤ N) (kk : ∀ d' y', CC d' y' → MR d' y' → AL (SX Ls xs) mL_law 20 true Φ (K - 4) (N - 24) 2092 (lv5 j) [] (HP d')) : AL (SX Ls xs) mL_law 20 true Φ K N 1746 (lv5 j) [] (HP d) := by
  refine al_aload_n dL_law_1746 rfl ?_
  refine al_aload_n dL_law_1747 rfl ?_
  refine al_cSH (M' := mL_least) dL_law_1748 oL_least sL_least lL_212 (kL_least hC) rfl rfl (Nat.le_of_ble_eq_true rfl) (Nat.le_of_ble_eq_true rfl) (Nat.le_of_ble_eq_true rfl) hK hN ?_
  rintro v d1 ⟨x, rfl, ⟨hL1, hC1⟩, hx1, ho1, hb1⟩
  subst hx1
  have hM1 := MR_L hM hL1
  refine al_istore dL_law_1751 (by decide) rfl ?_
  refine al_aload_n dL_law_1753 rfl ?_
  refine al_cV (M' := mX8_least) dL_law_1754 oX8_least vX8_least rfl lL_214 (kX8_least hM1) rfl (hp_160 _) rfl rfl rfl (Nat.le_of_ble_eq_true rfl) (Nat.le_of_ble_eq_true rfl) (Nat.le_of_ble_eq_true rfl) (Nat.zero_le _) (Nat.zero_le _) (fun _ _ z => z) ?_
  rintro v d2 ⟨x2, rfl, hf, h7, hx2, hM2⟩
  have hC2 := CC_M hC1 hf
  refine al_istore dL_law_1757 (by decide) rfl ?_
  refine al_aload_n dL_law_1759 rfl ?_
  refine al_cV (M' := mX8_thrown) dL_law_1760 oX8_thrown vX8_thrown rfl lL_127 kX8_thrown rfl (hp_160 _) rfl rfl rfl (Nat.le_of_ble_eq_true rfl) (Nat.le_of_ble_eq_true rfl) (Nat.le_of_ble_eq_true rfl) (Nat.zero_le _) (Nat.zero_le _) (fun _ _ z => z) ?_
  rintro v d3 ⟨x3, rfl, hx3, hd3⟩
  rw [hd3, hx3, h7]
  refine al_iload dL_law_1763 rfl ?_
  refine al_icmp_eq 1770 dL_law_1765 (by decide) (fun _ => ?_) (fun c => absurd rfl c)
  refine al_iload dL_law_1770 rfl ?_
  refine al_if_ne 1787 dL_law_1772 (by decide) (fun _ => ?_) (fun c0 => ?_)
  · refine al_goto (tgt := 2092) dL_law_1787 (by decide) ?_
    exact AL.drop (m := 6) rfl (kk _ _ hC2 hM2)
  · have ho : (oLeast y).1 = 0 := nI_z hb1 c0
    refine al_aload_n dL_law_1775 rfl ?_
    refine al_iconst (v := 0) dL_law_1776 (by decide) ?_
    refine al_laldV dL_law_1777 (hp_190 _) ((congrFun (fM_190 hf) 0).trans (ho1 ho)) ?_
    refine al_iload dL_law_1778 rfl ?_
    refine al_i2l dL_law_1780 ?_
    refine al_lcmp dL_law_1781 ?_
    refine al_if_eq 1787 dL_law_1782 (by decide) (fun _ => ?_) (fun c => absurd (by rw [hx2 ho]; exact lgc _) c)
    refine al_goto (tgt := 2092) dL_law_1787 (by decide) ?_
    exact AL.drop (m := 6) rfl (kk _ _ hC2 hM2)
set_option maxHeartbeats 4000000 in
set_option maxRecDepth 100000 in
theorem cs_26 {Ls : Nat} {xs : Nat → Int32} {Φ : Rs → ah → Prop} (hLs : Ls ≤ 2560) {j : Nat} (hj : 5 * j + 5 ≤ Ls) {d : Dt} {y : Sy} (hC : CC d y) (hM : MR d y) {K N : Nat} (hK : 4 ≤ K) (hN : 24 ≤ N) (kk : ∀ d' y', CC d' y' → MR d' y' → AL (SX Ls xs) mL_law 20 true Φ (K - 4) (N - 24) 2092 (lv5 j) [] (HP d')) : AL (SX Ls xs) mL_law 20 true Φ K N 1790 (lv5 j) [] (HP d) := by
  refine al_aload_n dL_law_1790 rfl ?_
  refine al_aload_n dL_law_1791 rfl ?_
  refine al_iload dL_law_1792 rfl ?_
  refine al_iconst (v := 1) dL_law_1794 (by decide) ?_
  refine al_iadd dL_law_1795 ?_
  refine al_sld (q := 5 * j + 1) dL_law_1796 (nI_add (5 * j) 1) (by omega) hLs ?_
  refine al_aload_n dL_law_1797 rfl ?_
  refine al_cSH (M' := mL_ways) dL_law_1798 oL_ways sL_ways lL_215 (kL_ways hC) rfl rfl (Nat.le_of_ble_eq_true rfl) (Nat.le_of_ble_eq_true rfl) (Nat.le_of_ble_eq_true rfl) hK hN ?_
  rintro v d1 ⟨x, rfl, ⟨hL1, hC1⟩, hx1, ho1, hb1⟩
  subst hx1
  have hM1 := MR_L hM hL1
  refine al_istore dL_law_1801 (by decide) rfl ?_
  refine al_aload_n dL_law_1803 rfl ?_
  refine al_aload_n dL_law_1804 rfl ?_
  refine al_iload dL_law_1805 rfl ?_
  refine al_iconst (v := 1) dL_law_1807 (by decide) ?_
  refine al_iadd dL_law_1808 ?_
  refine al_sld (q := 5 * j + 1) dL_law_1809 (nI_add (5 * j) 1) (by omega) hLs ?_
  refine al_cV (M' := mX8_ways) dL_law_1810 oX8_ways vX8_ways rfl lL_217 (kX8_ways hM1) rfl (hp_160 _) rfl rfl rfl (Nat.le_of_ble_eq_true rfl) (Nat.le_of_ble_eq_true rfl) (Nat.le_of_ble_eq_true rfl) (Nat.zero_le _) (Nat.zero_le _) (fun _ _ z => z) ?_
  rintro v d2 ⟨x2, rfl, hf, hM2, h7, hx2⟩
  have hC2 := CC_M hC1 hf
  refine al_lstore dL_law_1813 (by decide) rfl rfl ?_
  refine al_aload_n dL_law_1815 rfl ?_
  refine al_cV (M' := mX8_thrown) dL_law_1816 oX8_thrown vX8_thrown rfl lL_127 kX8_thrown rfl (hp_160 _) rfl rfl rfl (Nat.le_of_ble_eq_true rfl) (Nat.le_of_ble_eq_true rfl) (Nat.le_of_ble_eq_true rfl) (Nat.zero_le _) (Nat.zero_le _) (fun _ _ z => z) ?_
  rintro v d3 ⟨x3, rfl, hx3, hd3⟩
  rw [hd3, hx3, h7]
  refine al_iload dL_law_1819 rfl ?_
  refine al_icmp_eq 1826 dL_law_1821 (by decide) (fun _ => ?_) (fun c => absurd rfl c)
  refine al_iload dL_law_1826 rfl ?_
  refine al_if_ne 1842 dL_law_1828 (by decide) (fun _ => ?_) (fun c0 => ?_)
  · refine al_goto (tgt := 2092) dL_law_1842 (by decide) ?_
    exact AL.drop (m := 6) rfl (kk _ _ hC2 hM2)
  · have ho : (oWays y (xs (5 * j + 1))).1 = 0 := nI_z hb1 c0
    refine al_aload_n dL_law_1831 rfl ?_
    refine al_iconst (v := 0) dL_law_1832 (by decide) ?_
    refine al_laldV dL_law_1833 (hp_190 _) ((congrFun (fM_190 hf) 0).trans (ho1 ho)) ?_
    refine al_lload dL_law_1834 rfl ?_
    refine al_lcmp dL_law_1836 ?_
    refine al_if_eq 1842 dL_law_1837 (by decide) (fun _ => ?_) (fun c => absurd (by rw [hx2 ho]; exact lgc _) c)
    refine al_goto (tgt := 2092) dL_law_1842 (by decide) ?_
    exact AL.drop (m := 6) rfl (kk _ _ hC2 hM2)
set_option maxHeartbeats 4000000 in
set_option maxRecDepth 100000 in
theorem cs_27 {Ls : Nat} {xs : Nat → Int32} {Φ : Rs → ah → Prop} (hLs : Ls ≤ 2560) {j : Nat} (hj : 5 * j + 5 ≤ Ls) {d : Dt} {y : Sy} (hC : CC d y) (hM : MR d y) {K N : Nat} (hK : 4 ≤ K) (hN : 24 ≤ N) (kk : ∀ d' y', CC d' y' → MR d' y' → AL (SX Ls xs) mL_law 20 true Φ (K - 4) (N - 24) 2092 (lv5 j) [] (HP d')) : AL (SX Ls xs) mL_law 20 true Φ K N 1845 (lv5 j) [] (HP d) := by
  refine al_aload_n dL_law_1845 rfl ?_
  refine al_aload_n dL_law_1846 rfl ?_
  refine al_cSH (M' := mL_takeLeast) dL_law_1847 oL_takeLeast sL_takeLeast lL_218 (kL_takeLeast hC) rfl rfl (Nat.le_of_ble_eq_true rfl) (Nat.le_of_ble_eq_true rfl) (Nat.le_of_ble_eq_true rfl) hK hN ?_
  rintro v d1 ⟨x, rfl, ⟨hL1, hC1⟩, hx1, ho1, hb1⟩
  subst hx1
  have hM1 := MR_L hM hL1
  refine al_istore dL_law_1850 (by decide) rfl ?_
  refine al_aload_n dL_law_1852 rfl ?_
  refine al_cV (M' := mX8_takeLeast) dL_law_1853 oX8_takeLeast vX8_takeLeast rfl lL_220 (kX8_takeLeast hM1) rfl (hp_160 _) rfl rfl rfl (Nat.le_of_ble_eq_true rfl) (Nat.le_of_ble_eq_true rfl) (Nat.le_of_ble_eq_true rfl) (Nat.zero_le _) (Nat.zero_le _) (fun _ _ z => z) ?_
  rintro v d2 ⟨x2, rfl, hf, h7, hx2, hM2⟩
  have hC2 := CC_M hC1 hf
  refine al_istore dL_law_1856 (by decide) rfl ?_
  refine al_aload_n dL_law_1858 rfl ?_
  refine al_cV (M' := mX8_thrown) dL_law_1859 oX8_thrown vX8_thrown rfl lL_127 kX8_thrown rfl (hp_160 _) rfl rfl rfl (Nat.le_of_ble_eq_true rfl) (Nat.le_of_ble_eq_true rfl) (Nat.le_of_ble_eq_true rfl) (Nat.zero_le _) (Nat.zero_le _) (fun _ _ z => z) ?_
  rintro v d3 ⟨x3, rfl, hx3, hd3⟩
  rw [hd3, hx3, h7]
  refine al_iload dL_law_1862 rfl ?_
  refine al_icmp_eq 1869 dL_law_1864 (by decide) (fun _ => ?_) (fun c => absurd rfl c)
  refine al_iload dL_law_1869 rfl ?_
  refine al_if_ne 1886 dL_law_1871 (by decide) (fun _ => ?_) (fun c0 => ?_)
  · refine al_goto (tgt := 2092) dL_law_1886 (by decide) ?_
    exact AL.drop (m := 6) rfl (kk _ _ hC2 hM2)
  · have ho : (oTake y).1 = 0 := nI_z hb1 c0
    refine al_aload_n dL_law_1874 rfl ?_
    refine al_iconst (v := 0) dL_law_1875 (by decide) ?_
    refine al_laldV dL_law_1876 (hp_190 _) ((congrFun (fM_190 hf) 0).trans (ho1 ho)) ?_
    refine al_iload dL_law_1877 rfl ?_
    refine al_i2l dL_law_1879 ?_
    refine al_lcmp dL_law_1880 ?_
    refine al_if_eq 1886 dL_law_1881 (by decide) (fun _ => ?_) (fun c => absurd (by rw [hx2 ho]; exact lgc _) c)
    refine al_goto (tgt := 2092) dL_law_1886 (by decide) ?_
    exact AL.drop (m := 6) rfl (kk _ _ hC2 hM2)
set_option maxHeartbeats 4000000 in
set_option maxRecDepth 100000 in
theorem cs_28 {Ls : Nat} {xs : Nat → Int32} {Φ : Rs → ah → Prop} (hLs : Ls ≤ 2560) {j : Nat} (hj : 5 * j + 5 ≤ Ls) {d : Dt} {y : Sy} (hC : CC d y) (hM : MR d y) {K N : Nat} (hK : 4 ≤ K) (hN : 24 ≤ N) (kk : ∀ d' y', CC d' y' → MR d' y' → AL (SX Ls xs) mL_law 20 true Φ (K - 4) (N - 24) 2092 (lv5 j) [] (HP d')) : AL (SX Ls xs) mL_law 20 true Φ K N 1889 (lv5 j) [] (HP d) := by
  obtain ⟨c, hc, hc2⟩ := i2c_nI (xs (5 * j + 1))
  refine al_aload_n dL_law_1889 rfl ?_
  refine al_aload_n dL_law_1890 rfl ?_
  refine al_iload dL_law_1891 rfl ?_
  refine al_iconst (v := 1) dL_law_1893 (by decide) ?_
  refine al_iadd dL_law_1894 ?_
  refine al_sld (q := 5 * j + 1) dL_law_1895 (nI_add (5 * j) 1) (by omega) hLs ?_
  refine al_i2cV dL_law_1896 hc2 ?_
  refine al_aload_n dL_law_1897 rfl ?_
  refine al_cSH (M' := mL_feed) dL_law_1898 oL_feed sL_feed lL_221 (kL_feed hC hc) rfl rfl (Nat.le_of_ble_eq_true rfl) (Nat.le_of_ble_eq_true rfl) (Nat.le_of_ble_eq_true rfl) hK hN ?_
  rintro v d1 ⟨x, rfl, ⟨hL1, hC1⟩, hx1, ho1, hb1⟩
  subst hx1
  have hM1 := MR_L hM hL1
  refine al_istore dL_law_1901 (by decide) rfl ?_
  refine al_aload_n dL_law_1903 rfl ?_
  refine al_aload_n dL_law_1904 rfl ?_
  refine al_iload dL_law_1905 rfl ?_
  refine al_iconst (v := 1) dL_law_1907 (by decide) ?_
  refine al_iadd dL_law_1908 ?_
  refine al_sld (q := 5 * j + 1) dL_law_1909 (nI_add (5 * j) 1) (by omega) hLs ?_
  refine al_i2cV dL_law_1910 hc2 ?_
  refine al_cV (M' := mX8_feed) dL_law_1911 oX8_feed vX8_feed rfl lL_224 (kX8_feed hM1 hc) rfl (hp_160 _) rfl rfl rfl (Nat.le_of_ble_eq_true rfl) (Nat.le_of_ble_eq_true rfl) (Nat.le_of_ble_eq_true rfl) (Nat.zero_le _) (Nat.zero_le _) (fun _ _ z => z) ?_
  rintro v d2 ⟨x2, rfl, hf, h7, hx2, hM2⟩
  have hC2 := CC_M hC1 hf
  refine al_istore dL_law_1914 (by decide) rfl ?_
  refine al_aload_n dL_law_1916 rfl ?_
  refine al_cV (M' := mX8_thrown) dL_law_1917 oX8_thrown vX8_thrown rfl lL_127 kX8_thrown rfl (hp_160 _) rfl rfl rfl (Nat.le_of_ble_eq_true rfl) (Nat.le_of_ble_eq_true rfl) (Nat.le_of_ble_eq_true rfl) (Nat.zero_le _) (Nat.zero_le _) (fun _ _ z => z) ?_
  rintro v d3 ⟨x3, rfl, hx3, hd3⟩
  rw [hd3, hx3, h7]
  refine al_iload dL_law_1920 rfl ?_
  refine al_icmp_eq 1927 dL_law_1922 (by decide) (fun _ => ?_) (fun c => absurd rfl c)
  refine al_iload dL_law_1927 rfl ?_
  refine al_if_ne 1944 dL_law_1929 (by decide) (fun _ => ?_) (fun c0 => ?_)
  · refine al_goto (tgt := 2092) dL_law_1944 (by decide) ?_
    exact AL.drop (m := 6) rfl (kk _ _ hC2 hM2)
  · have ho : (oFeed y (nI c)).1 = 0 := nI_z hb1 c0
    refine al_aload_n dL_law_1932 rfl ?_
    refine al_iconst (v := 0) dL_law_1933 (by decide) ?_
    refine al_laldV dL_law_1934 (hp_190 _) ((congrFun (fM_190 hf) 0).trans (ho1 ho)) ?_
    refine al_iload dL_law_1935 rfl ?_
    refine al_i2l dL_law_1937 ?_
    refine al_lcmp dL_law_1938 ?_
    refine al_if_eq 1944 dL_law_1939 (by decide) (fun _ => ?_) (fun c => absurd (by rw [hx2 ho]; exact lgc _) c)
    refine al_goto (tgt := 2092) dL_law_1944 (by decide) ?_
    exact AL.drop (m := 6) rfl (kk _ _ hC2 hM2)
set_option maxHeartbeats 4000000 in
set_option maxRecDepth 100000 in
theorem cs_29 {Ls : Nat} {xs : Nat → Int32} {Φ : Rs → ah → Prop} (hLs : Ls ≤ 2560) {j : Nat} (hj : 5 * j + 5 ≤ Ls) {d : Dt} {y : Sy} (hC : CC d y) (hM : MR d y) {K N : Nat} (hK : 4 ≤ K) (hN : 24 ≤ N) (kk : ∀ d' y', CC d' y' → MR d' y' → AL (SX Ls xs) mL_law 20 true Φ (K - 4) (N - 24) 2092 (lv5 j) [] (HP d')) : AL (SX Ls xs) mL_law 20 true Φ K N 1947 (lv5 j) [] (HP d) := by
  refine al_aload_n dL_law_1947 rfl ?_
  refine al_aload_n dL_law_1948 rfl ?_
  refine al_cSH (M' := mL_read) dL_law_1949 oL_read sL_read lL_225 (kL_read hC) rfl rfl (Nat.le_of_ble_eq_true rfl) (Nat.le_of_ble_eq_true rfl) (Nat.le_of_ble_eq_true rfl) hK hN ?_
  rintro v d1 ⟨x, rfl, ⟨hL1, hC1⟩, hx1, ho1, hb1⟩
  subst hx1
  have hM1 := MR_L hM hL1
  refine al_istore dL_law_1952 (by decide) rfl ?_
  refine al_aload_n dL_law_1954 rfl ?_
  refine al_cV (M' := mX8_read) dL_law_1955 oX8_read vX8_read rfl lL_227 (kX8_read hM1) rfl (hp_160 _) rfl rfl rfl (Nat.le_of_ble_eq_true rfl) (Nat.le_of_ble_eq_true rfl) (Nat.le_of_ble_eq_true rfl) (Nat.zero_le _) (Nat.zero_le _) (fun _ _ z => z) ?_
  rintro v d2 ⟨x2, rfl, hf, h7, hx2, hM2⟩
  have hC2 := CC_M hC1 hf
  refine al_istore dL_law_1958 (by decide) rfl ?_
  refine al_aload_n dL_law_1960 rfl ?_
  refine al_cV (M' := mX8_thrown) dL_law_1961 oX8_thrown vX8_thrown rfl lL_127 kX8_thrown rfl (hp_160 _) rfl rfl rfl (Nat.le_of_ble_eq_true rfl) (Nat.le_of_ble_eq_true rfl) (Nat.le_of_ble_eq_true rfl) (Nat.zero_le _) (Nat.zero_le _) (fun _ _ z => z) ?_
  rintro v d3 ⟨x3, rfl, hx3, hd3⟩
  rw [hd3, hx3, h7]
  refine al_iload dL_law_1964 rfl ?_
  refine al_icmp_eq 1971 dL_law_1966 (by decide) (fun _ => ?_) (fun c => absurd rfl c)
  refine al_iload dL_law_1971 rfl ?_
  refine al_if_ne 1988 dL_law_1973 (by decide) (fun _ => ?_) (fun c0 => ?_)
  · refine al_goto (tgt := 2092) dL_law_1988 (by decide) ?_
    exact AL.drop (m := 6) rfl (kk _ _ hC2 hM2)
  · have ho : (oRead y).1 = 0 := nI_z hb1 c0
    refine al_aload_n dL_law_1976 rfl ?_
    refine al_iconst (v := 0) dL_law_1977 (by decide) ?_
    refine al_laldV dL_law_1978 (hp_190 _) ((congrFun (fM_190 hf) 0).trans (ho1 ho)) ?_
    refine al_iload dL_law_1979 rfl ?_
    refine al_i2l dL_law_1981 ?_
    refine al_lcmp dL_law_1982 ?_
    refine al_if_eq 1988 dL_law_1983 (by decide) (fun _ => ?_) (fun c => absurd (by rw [hx2 ho]; exact lgc _) c)
    refine al_goto (tgt := 2092) dL_law_1988 (by decide) ?_
    exact AL.drop (m := 6) rfl (kk _ _ hC2 hM2)
set_option maxHeartbeats 4000000 in
set_option maxRecDepth 100000 in
theorem cs_30 {Ls : Nat} {xs : Nat → Int32} {Φ : Rs → ah → Prop} (hLs : Ls ≤ 2560) {j : Nat} (hj : 5 * j + 5 ≤ Ls) {d : Dt} {y : Sy} (hC : CC d y) (hM : MR d y) {K N : Nat} (hK : 4 ≤ K) (hN : 24 ≤ N) (kk : ∀ d' y', CC d' y' → MR d' y' → AL (SX Ls xs) mL_law 20 true Φ (K - 4) (N - 24) 2092 (lv5 j) [] (HP d')) : AL (SX Ls xs) mL_law 20 true Φ K N 1991 (lv5 j) [] (HP d) := by
  refine al_aload_n dL_law_1991 rfl ?_
  refine al_aload_n dL_law_1992 rfl ?_
  refine al_cSH (M' := mL_undo) dL_law_1993 oL_undo sL_undo lL_228 (kL_undo hC) rfl rfl (Nat.le_of_ble_eq_true rfl) (Nat.le_of_ble_eq_true rfl) (Nat.le_of_ble_eq_true rfl) hK hN ?_
  rintro v d1 ⟨x, rfl, ⟨hL1, hC1⟩, hx1, ho1, hb1⟩
  subst hx1
  have hM1 := MR_L hM hL1
  refine al_istore dL_law_1996 (by decide) rfl ?_
  refine al_aload_n dL_law_1998 rfl ?_
  refine al_cV (M' := mX8_undo) dL_law_1999 oX8_undo vX8_undo rfl lL_230 (kX8_undo hM1) rfl (hp_160 _) rfl rfl rfl (Nat.le_of_ble_eq_true rfl) (Nat.le_of_ble_eq_true rfl) (Nat.le_of_ble_eq_true rfl) (Nat.zero_le _) (Nat.zero_le _) (fun _ _ z => z) ?_
  rintro v d2 ⟨x2, rfl, hf, h7, hx2, hM2⟩
  have hC2 := CC_M hC1 hf
  refine al_istore dL_law_2002 (by decide) rfl ?_
  refine al_aload_n dL_law_2004 rfl ?_
  refine al_cV (M' := mX8_thrown) dL_law_2005 oX8_thrown vX8_thrown rfl lL_127 kX8_thrown rfl (hp_160 _) rfl rfl rfl (Nat.le_of_ble_eq_true rfl) (Nat.le_of_ble_eq_true rfl) (Nat.le_of_ble_eq_true rfl) (Nat.zero_le _) (Nat.zero_le _) (fun _ _ z => z) ?_
  rintro v d3 ⟨x3, rfl, hx3, hd3⟩
  rw [hd3, hx3, h7]
  refine al_iload dL_law_2008 rfl ?_
  refine al_icmp_eq 2015 dL_law_2010 (by decide) (fun _ => ?_) (fun c => absurd rfl c)
  refine al_iload dL_law_2015 rfl ?_
  refine al_if_ne 2032 dL_law_2017 (by decide) (fun _ => ?_) (fun c0 => ?_)
  · refine al_goto (tgt := 2092) dL_law_2032 (by decide) ?_
    exact AL.drop (m := 6) rfl (kk _ _ hC2 hM2)
  · have ho : (oUndo y).1 = 0 := nI_z hb1 c0
    refine al_aload_n dL_law_2020 rfl ?_
    refine al_iconst (v := 0) dL_law_2021 (by decide) ?_
    refine al_laldV dL_law_2022 (hp_190 _) ((congrFun (fM_190 hf) 0).trans (ho1 ho)) ?_
    refine al_iload dL_law_2023 rfl ?_
    refine al_i2l dL_law_2025 ?_
    refine al_lcmp dL_law_2026 ?_
    refine al_if_eq 2032 dL_law_2027 (by decide) (fun _ => ?_) (fun c => absurd (by rw [hx2 ho]; exact lgc _) c)
    refine al_goto (tgt := 2092) dL_law_2032 (by decide) ?_
    exact AL.drop (m := 6) rfl (kk _ _ hC2 hM2)
set_option maxHeartbeats 4000000 in
set_option maxRecDepth 100000 in
theorem cs_31 {Ls : Nat} {xs : Nat → Int32} {Φ : Rs → ah → Prop} (hLs : Ls ≤ 2560) {j : Nat} (hj : 5 * j + 5 ≤ Ls) {d : Dt} {y : Sy} (hC : CC d y) (hM : MR d y) {K N : Nat} (hK : 4 ≤ K) (hN : 24 ≤ N) (kk : ∀ d' y', CC d' y' → MR d' y' → AL (SX Ls xs) mL_law 20 true Φ (K - 4) (N - 24) 2092 (lv5 j) [] (HP d')) : AL (SX Ls xs) mL_law 20 true Φ K N 2035 (lv5 j) [] (HP d) := by
  refine al_aload_n dL_law_2035 rfl ?_
  refine al_cV (M' := mX7_save) dL_law_2036 oX7_save vX7_save rfl lL_231 (kX7_save hC) rfl (hp_132 _) rfl rfl rfl (Nat.le_of_ble_eq_true rfl) (Nat.le_of_ble_eq_true rfl) (Nat.le_of_ble_eq_true rfl) hK hN XO_nil ?_
  rintro v d1 ⟨x, rfl, hL1, hC1, h0, hx1⟩
  have hM1 := MR_L hM (fC_L hL1)
  refine al_aload_n dL_law_2039 rfl ?_
  refine al_cV (M' := mX8_save) dL_law_2040 oX8_save vX8_save rfl lL_234 (kX8_save hM1) rfl (hp_160 _) rfl rfl rfl (Nat.le_of_ble_eq_true rfl) (Nat.le_of_ble_eq_true rfl) (Nat.le_of_ble_eq_true rfl) (Nat.zero_le _) (Nat.zero_le _) (fun _ _ z => z) ?_
  rintro v d2 ⟨x2, rfl, hf, h7, hx2, hM2⟩
  have hC2 := CC_M hC1 hf
  refine al_icmp_eq 2092 dL_law_2043 (by decide) (fun _ => ?_) (fun c => absurd (by rw [hx1, hx2 h0]) c)
  exact kk _ _ hC2 hM2
set_option maxHeartbeats 4000000 in
set_option maxRecDepth 100000 in
theorem cs_32 {Ls : Nat} {xs : Nat → Int32} {Φ : Rs → ah → Prop} (hLs : Ls ≤ 2560) {j : Nat} (hj : 5 * j + 5 ≤ Ls) {d : Dt} {y : Sy} (hC : CC d y) (hM : MR d y) {K N : Nat} (hK : 4 ≤ K) (hN : 24 ≤ N) (kk : ∀ d' y', CC d' y' → MR d' y' → AL (SX Ls xs) mL_law 20 true Φ (K - 4) (N - 24) 2092 (lv5 j) [] (HP d')) : AL (SX Ls xs) mL_law 20 true Φ K N 2048 (lv5 j) [] (HP d) := by
  refine al_aload_n dL_law_2048 rfl ?_
  refine al_aload_n dL_law_2049 rfl ?_
  refine al_cSH (M' := mL_restore) dL_law_2050 oL_restore sL_restore lL_235 (kL_restore hC) rfl rfl (Nat.le_of_ble_eq_true rfl) (Nat.le_of_ble_eq_true rfl) (Nat.le_of_ble_eq_true rfl) hK hN ?_
  rintro v d1 ⟨x, rfl, ⟨hL1, hC1⟩, hx1, ho1, hb1⟩
  subst hx1
  have hM1 := MR_L hM hL1
  refine al_istore dL_law_2053 (by decide) rfl ?_
  refine al_aload_n dL_law_2055 rfl ?_
  refine al_cV (M' := mX8_restore) dL_law_2056 oX8_restore vX8_restore rfl lL_237 (kX8_restore hM1) rfl (hp_160 _) rfl rfl rfl (Nat.le_of_ble_eq_true rfl) (Nat.le_of_ble_eq_true rfl) (Nat.le_of_ble_eq_true rfl) (Nat.zero_le _) (Nat.zero_le _) (fun _ _ z => z) ?_
  rintro v d2 ⟨x2, rfl, hf, h7, hx2, hM2⟩
  have hC2 := CC_M hC1 hf
  refine al_istore dL_law_2059 (by decide) rfl ?_
  refine al_aload_n dL_law_2061 rfl ?_
  refine al_cV (M' := mX8_thrown) dL_law_2062 oX8_thrown vX8_thrown rfl lL_127 kX8_thrown rfl (hp_160 _) rfl rfl rfl (Nat.le_of_ble_eq_true rfl) (Nat.le_of_ble_eq_true rfl) (Nat.le_of_ble_eq_true rfl) (Nat.zero_le _) (Nat.zero_le _) (fun _ _ z => z) ?_
  rintro v d3 ⟨x3, rfl, hx3, hd3⟩
  rw [hd3, hx3, h7]
  refine al_iload dL_law_2065 rfl ?_
  refine al_icmp_eq 2072 dL_law_2067 (by decide) (fun _ => ?_) (fun c => absurd rfl c)
  refine al_iload dL_law_2072 rfl ?_
  refine al_if_ne 2089 dL_law_2074 (by decide) (fun _ => ?_) (fun c0 => ?_)
  · refine al_goto (tgt := 2092) dL_law_2089 (by decide) ?_
    exact AL.drop (m := 6) rfl (kk _ _ hC2 hM2)
  · have ho : (oRestore y).1 = 0 := nI_z hb1 c0
    refine al_aload_n dL_law_2077 rfl ?_
    refine al_iconst (v := 0) dL_law_2078 (by decide) ?_
    refine al_laldV dL_law_2079 (hp_190 _) ((congrFun (fM_190 hf) 0).trans (ho1 ho)) ?_
    refine al_iload dL_law_2080 rfl ?_
    refine al_i2l dL_law_2082 ?_
    refine al_lcmp dL_law_2083 ?_
    refine al_if_eq 2089 dL_law_2084 (by decide) (fun _ => ?_) (fun c => absurd (by rw [hx2 ho]; exact lgc _) c)
    refine al_goto (tgt := 2092) dL_law_2089 (by decide) ?_
    exact AL.drop (m := 6) rfl (kk _ _ hC2 hM2)
